/-! ===== Told: what a sea's book is, and how it draws ===== -/
def zto (cA : Nat → ClassId) (a : Nat → Nat) (x : Nat → Int32) (r : Nat → Nat) (g : Nat → Nat → Int32) (u : Nat → Nat) (v : Nat → Nat → Int32) : va_W := [(a 0, .inr (9, [.ref (a 1), .ref (a 2), .int (x 0), .ref (a 3), .ref (a 4), .ref (a 5), .ref (a 6), .int (x 1), .int (x 2), .int 0, .int (x 3), .int (x 4), .int 0, .int 20000, .int (-51), .int 0, .int 0, .int 0, .int 0, .int 0])), (a 3, .inl (cA 4, 8, .inr (.inr (.inr (.inr fun i => some (r i)))))), (a 6, .inl (cA 4, 3, .inr (.inr (.inr (.inr fun i => some (u i)))))), (u 0, .inl (cA 0, 3, .inl (v 0))), (u 1, .inl (cA 0, 3, .inl (v 1))), (u 2, .inl (cA 0, 3, .inl (v 2))), (r 0, .inl (cA 0, 15, .inl (g 0))), (r 1, .inl (cA 0, 15, .inl (g 1))), (r 2, .inl (cA 0, 15, .inl (g 2))), (r 3, .inl (cA 0, 15, .inl (g 3))), (r 4, .inl (cA 0, 15, .inl (g 4))), (r 5, .inl (cA 0, 15, .inl (g 5))), (r 6, .inl (cA 0, 15, .inl (g 6))), (r 7, .inl (cA 0, 15, .inl (g 7)))]
/-- what a draw reads off the script -/
def z_cell (xs : Nat → Int32) (L : Nat) (k : Int32) : Int32 := if Int32.ofNat L ≤ k then 790386105 * (k + 3) else xs k.toNatClampNeg
def z_dv (xs : Nat → Int32) (L : Nat) (d n : Int32) : Int32 := ((((z_cell xs L (d % 24)) >>> (((d / 24) % 8) &&& 31)) + (293 * d)) &&& 2147483647) % n
theorem z_below {v n : Int32} (hn : 0 < n.toInt) : 0 ≤ ((v &&& 2147483647) % n).toInt ∧ ((v &&& 2147483647) % n).toInt < n.toInt := by
  have h0 : 0 ≤ (v &&& 2147483647).toInt := by
    have h : (v &&& 2147483647).toBitVec.msb = false := by
      rw [Int32.toBitVec_and, BitVec.msb_and]
      exact Bool.and_eq_false_iff.mpr (Or.inr (by decide))
    rw [BitVec.msb_eq_toInt] at h
    have h2 := of_decide_eq_false h
    exact Int.not_lt.mp h2
  rw [Int32.toInt_mod, Int.tmod_eq_emod_of_nonneg h0]
  exact ⟨Int.emod_nonneg _ (by omega), Int.emod_lt_of_pos _ hn⟩
theorem wkRL_7 : Cond.constant RL 7 2147483647 ∈ zTg := zm_f 783 (by decide +kernel) rfl
theorem wkRL_8 : Cond.constant RL 8 790386105 ∈ zTg := zm_f 779 (by decide +kernel) rfl
theorem yfRX10_37 : zFl RX10 37 9 1 := ⟨_, rfl, by decide, zm_f 717 (by decide +kernel) rfl⟩
theorem yfRX10_41 : zFl RX10 41 9 2 := ⟨_, rfl, by decide, zm_f 718 (by decide +kernel) rfl⟩
theorem ynRX10_44 : Cond.methodLinkNest RX10 44 yL_cell "WakeBanksLaw" ∈ zNws ∧ Cond.static yL_cell ∈ zTg ∧ Cond.initialized yL_cell.cls ∈ zTg ∧ Cond.code yL_cell cL_cell 2 (some .int) ∈ zTg := ⟨by decide +kernel, zm_f 777 (by decide +kernel) rfl, zm_f 19 (by decide +kernel) rfl, zm_f 778 (by decide +kernel) rfl⟩
theorem yyyL_cell : yL_cell.cls ≠ "java/lang/invoke/MethodHandle" ∧ yL_cell.cls ≠ "java/lang/invoke/VarHandle" ∧ (parseMethodDescriptor yL_cell.desc).map (fun d => d.parameters.length) = some 2 := by decide +kernel
theorem ynRX10_50 : Cond.methodLinkNest RX10 50 yL_below "WakeBanksLaw" ∈ zNws ∧ Cond.static yL_below ∈ zTg ∧ Cond.initialized yL_below.cls ∈ zTg ∧ Cond.code yL_below cL_below 2 (some .int) ∈ zTg := ⟨by decide +kernel, zm_f 781 (by decide +kernel) rfl, zm_f 19 (by decide +kernel) rfl, zm_f 782 (by decide +kernel) rfl⟩
theorem yyyL_below : yL_below.cls ≠ "java/lang/invoke/MethodHandle" ∧ yL_below.cls ≠ "java/lang/invoke/VarHandle" ∧ (parseMethodDescriptor yL_below.desc).map (fun d => d.parameters.length) = some 2 := by decide +kernel
theorem ypRX10_41 : zFw RX10 41 9 2 .int := ⟨_, rfl, by decide, zm_f 718 (by decide +kernel) rfl, rfl, by decide +kernel⟩
set_option maxHeartbeats 4000000 in
set_option maxRecDepth 20000 in
theorem zl_below (v : Int32) {n : Int32} (hn : ¬ n = 0) : zAl yL_below cL_below 2 (some .int) 0 0 0 0 [.int v, .int n] (fun _ => []) (fun _ r ws => r = some (.int ((v &&& 2147483647) % n)) ∧ ws = []) := by
  refine zAl_of (by decide) (Nat.le_of_ble_eq_true rfl) fun X F hr hex => ?_
  show zN X _ _ _ _ _ 2 0 [(0, .int v), (1, .int n)] [] [] 0 0
  refine zn_iload_n F (i := 0) (k := 0) dL_below_0 rfl rfl ?_
  refine zn_ldc F dL_below_1 wkRL_7 ?_
  refine zn_iand F dL_below_3 ?_
  refine zn_iload_n F (i := 1) (k := 1) dL_below_4 rfl rfl ?_
  refine zn_irem F dL_below_5 hn ?_
  exact zn_ireturn F hr dL_below_6 ⟨rfl, rfl⟩ (by omega) (by omega)
set_option maxHeartbeats 4000000 in
set_option maxRecDepth 20000 in
theorem zl_cell {b L : Nat} {xs : Nat → Int32} (hL : L < 2147483648) {k : Int32} (h0 : 0 ≤ k.toInt) : zAs b L xs yL_cell cL_cell 2 (some .int) 0 0 0 0 [.ref b, .int k] (fun _ => []) (fun _ r ws => r = some (.int (z_cell xs L k)) ∧ ws = []) := by
  refine zAs_of (by decide) (Nat.le_of_ble_eq_true rfl) fun X F hX hr => ?_
  show zN X _ _ _ _ _ 2 0 [(0, .ref b), (1, .int k)] [] [] 0 0
  refine zn_iload_n F (i := 1) (k := 1) dL_cell_0 rfl rfl ?_
  refine zn_aload_n F (i := 0) (k := 0) dL_cell_1 rfl rfl ?_
  refine zn_slen F hX (v := Int32.ofNat L) dL_cell_2 rfl ?_
  refine zn_icmp_ge F (tgt := 12) dL_cell_3 (by decide) (fun h3 => ?_) (fun h3 => ?_)
  · refine zn_ldc F dL_cell_12 wkRL_8 ?_
    refine zn_iload_n F (i := 1) (k := 1) dL_cell_14 rfl rfl ?_
    refine zn_iconst F (v := 3) dL_cell_15 (by decide) ?_
    refine zn_iadd F dL_cell_16 ?_
    refine zn_imul F dL_cell_17 ?_
    exact zn_ireturn F hr dL_cell_18 ⟨by rw [show z_cell xs L k = _ from if_pos h3], rfl⟩ (by omega) (by omega)
  · refine zn_aload_n F (i := 0) (k := 0) dL_cell_6 rfl rfl ?_
    refine zn_iload_n F (i := 1) (k := 1) dL_cell_7 rfl rfl ?_
    refine zn_sld F hX dL_cell_8 (zvit h0 (by rw [zle, zon (by omega)] at h3; omega)) rfl ?_
    refine zn_goto F (tgt := 18) dL_cell_9 (by decide) ?_
    exact zn_ireturn F hr dL_cell_18 ⟨by rw [show z_cell xs L k = _ from if_neg h3], rfl⟩ (by omega) (by omega)
set_option maxHeartbeats 4000000 in
set_option maxRecDepth 20000 in
theorem zt_draw {b L : Nat} {xs : Nat → Int32} (hL : L < 2147483648) {a : Nat → Nat} {x : Nat → Int32} {r : Nat → Nat} {g : Nat → Nat → Int32} {u : Nat → Nat} {v : Nat → Nat → Int32} (hb : a 2 = b) {n : Int32} (hn : ¬ n = 0) (hk : 0 ≤ (x 0 % 24).toInt) : zAs b L xs yX10_draw cX10_draw 3 (some .int) 1 21 0 0 [.ref (a 0), .int n] (fun cA => zto cA a x r g u v) (fun cA r1 ws => r1 = some (.int (z_dv xs L (x 0) n)) ∧ ws = zto cA a (upd x 0 (x 0 + 1)) r g u v) := by
  subst hb
  refine zAs_of (by decide) (Nat.le_of_ble_eq_true rfl) fun X F hX hr => ?_
  show zN X _ _ _ _ _ 3 0 [(0, .ref (a 0)), (1, .int n)] [] (zto (zcA X) a x r g u v) 0 0
  refine zn_aload_n F (i := 0) (k := 0) dX10_draw_0 rfl rfl ?_
  refine zn_get F (j := 0) (v := .ref (a 2)) dX10_draw_1 yfRX10_37 zCl_9 rfl rfl ?_
  refine zn_aload_n F (i := 0) (k := 0) dX10_draw_4 rfl rfl ?_
  refine zn_get F (j := 0) (v := .int (x 0)) dX10_draw_5 yfRX10_41 zCl_9 rfl rfl ?_
  refine zn_bipush F (v := 24) dX10_draw_8 (by decide) ?_
  refine zn_irem F dX10_draw_10 (by decide) ?_
  refine zn_callSNs F (as := [.ref (a 2), .int ((x 0 % 24))]) (st := []) (host := "WakeBanksLaw") hX (zl_cell hL (k := (x 0 % 24)) hk) dX10_draw_11 ynRX10_44 yyyL_cell rfl (wsB := zto (zcA X) a x r g u v) rfl rfl (Nat.le_of_ble_eq_true rfl) (by omega) (by omega) (by omega) (by omega) fun r1 w1 hB => ?_
  obtain ⟨rfl, rfl⟩ := hB
  refine zn_aload_n F (i := 0) (k := 0) dX10_draw_14 rfl rfl ?_
  refine zn_get F (j := 0) (v := .int (x 0)) dX10_draw_15 yfRX10_41 zCl_9 rfl rfl ?_
  refine zn_bipush F (v := 24) dX10_draw_18 (by decide) ?_
  refine zn_idiv F dX10_draw_20 (by decide) ?_
  refine zn_bipush F (v := 8) dX10_draw_21 (by decide) ?_
  refine zn_irem F dX10_draw_23 (by decide) ?_
  refine zn_ishr F dX10_draw_24 ?_
  refine zn_sipush F (v := 293) dX10_draw_25 (by decide) ?_
  refine zn_aload_n F (i := 0) (k := 0) dX10_draw_28 rfl rfl ?_
  refine zn_get F (j := 0) (v := .int (x 0)) dX10_draw_29 yfRX10_41 zCl_9 rfl rfl ?_
  refine zn_imul F dX10_draw_32 ?_
  refine zn_iadd F dX10_draw_33 ?_
  refine zn_iload_n F (i := 1) (k := 1) dX10_draw_34 rfl rfl ?_
  refine zn_callSN F (as := [.int (((z_cell xs L ((x 0 % 24)) >>> (((x 0 / 24) % 8) &&& 31)) + (293 * x 0))), .int (n)]) (st := []) (host := "WakeBanksLaw") (zl_below (((z_cell xs L ((x 0 % 24)) >>> (((x 0 / 24) % 8) &&& 31)) + (293 * x 0))) (n := n) hn) dX10_draw_35 ynRX10_50 yyyL_below rfl (wsB := zto (zcA X) a x r g u v) rfl rfl (Nat.le_of_ble_eq_true rfl) (by omega) (by omega) (by omega) (by omega) fun r1 w1 hB => ?_
  obtain ⟨rfl, rfl⟩ := hB
  refine zn_istore_n F (i := 2) (lv' := [(2, .int (z_dv xs L (x 0) n)), (0, .ref (a 0)), (1, .int n)]) dX10_draw_38 rfl (by decide) rfl ?_
  refine zn_aload_n F (i := 0) (k := 1) dX10_draw_39 rfl rfl ?_
  refine zn_dup F dX10_draw_40 rfl ?_
  refine zn_get F (j := 0) (v := .int (x 0)) dX10_draw_41 yfRX10_41 zCl_9 rfl rfl ?_
  refine zn_iconst F (v := 1) dX10_draw_44 (by decide) ?_
  refine zn_iadd F dX10_draw_45 ?_
  refine zn_put F (j := 0) (ws' := zto (zcA X) a (upd x 0 ((x 0 + 1))) r g u v) dX10_draw_46 ypRX10_41 zCl_9 rfl (zlb rfl) rfl ?_
  refine zn_iload_n F (i := 2) (k := 0) dX10_draw_49 rfl rfl ?_
  exact zn_ireturn F hr dX10_draw_50 ⟨rfl, rfl⟩ (by omega) (by omega)
