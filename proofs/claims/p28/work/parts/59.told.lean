/-! ===== a sea's methods over lists of cells ===== -/
abbrev zww (cA : Nat → ClassId) (ad : zR → Nat) (s t p : zM) : va_W := zwl cA ad [(2, [1, 2, 3]), (0, []), (0, []), (1, [])] [zm0, s, t, p]
theorem zx_has (is : List Int32) : ∀ x ∈ (zr 0 0 0 :: is.map zi), ∀ q, x = .inl q → q.1 < 100 := by
  intro x hx q e
  rcases List.mem_cons.mp hx with rfl | h
  · have e2 : (Sum.inl (0, 0, 0) : zV) = .inl q := e
    cases e2
    decide
  · obtain ⟨i, -, rfl⟩ := List.mem_map.mp h
    have e2 : (Sum.inr (Sum.inl i) : zV) = .inl q := e
    cases e2
theorem zx_lk : ∀ r ∈ ([(2, [1, 2, 3]), (0, []), (0, []), (1, [])] : List zD), ∀ x ∈ r.2, x < 100 := by decide
theorem zx_WB {y : MethodName} {cb : ByteArray} {nB fb lb : Nat} {rb : Option FieldType} (is : List Int32) {Ms Ms' : List zM} {v : Option zV} (h : zMet y cb nB rb fb lb [(2, [1, 2, 3]), (0, []), (0, []), (1, [])] (zr 0 0 0 :: is.map zi) Ms (.inl v, Ms')) (hv : ∀ q, v = some (.inl q) → q.1 < 100) (ad : zR → Nat) : zAl y cb nB rb fb lb 0 0 ((zr 0 0 0 :: is.map zi).map (zt ad)) (fun cA => zwl cA ad [(2, [1, 2, 3]), (0, []), (0, []), (1, [])] Ms) (fun cA v' ws => v' = v.map (zt ad) ∧ ws = zwl cA ad [(2, [1, 2, 3]), (0, []), (0, []), (1, [])] Ms') := zAl_of_zMet h (by decide) zx_lk (zx_has is) hv ad
theorem zx_vi (k : Int32) : ∀ q : zR, some (zi k) = some (.inl q) → q.1 < 100 := fun q e => by
  have e2 : (Sum.inr (Sum.inl k) : zV) = .inl q := Option.some.inj e
  cases e2
theorem zx_vl (k : Int64) : ∀ q : zR, some (zl k) = some (.inl q) → q.1 < 100 := fun q e => by
  have e2 : (Sum.inr (Sum.inr k) : zV) = .inl q := Option.some.inj e
  cases e2
/-- a row of rows with one row anew -/
def upv (v : Nat → Nat → Int32) (k : Nat) (f : Nat → Int32) : Nat → Nat → Int32 := fun i => if i = k then f else v i
theorem yfRX10_27 : zFl RX10 27 9 6 := ⟨_, rfl, by decide, zm_f 723 (by decide +kernel) rfl⟩
theorem yfRX10_54 : zFl RX10 54 9 8 := ⟨_, rfl, by decide, zm_f 726 (by decide +kernel) rfl⟩
theorem ypRX10_54 : zFw RX10 54 9 8 .int := ⟨_, rfl, by decide, zm_f 726 (by decide +kernel) rfl, rfl, by decide +kernel⟩
theorem yfRX10_10 : zFl RX10 10 9 0 := ⟨_, rfl, by decide, zm_f 715 (by decide +kernel) rfl⟩
theorem ycRX10_57 : Cond.methodLink RX10 57 yX9_string ∈ zTg ∧ Cond.instanceMethod yX9_string ∈ zTg ∧ Cond.selects "WakeBanks" yX9_string yX9_string ∈ zTg ∧ Cond.initialized "WakeBanks" ∈ zTg ∧ Cond.code yX9_string cX9_string 2 (some .int) ∈ zTg := ⟨zm_f 793 (by decide +kernel) rfl, zm_f 794 (by decide +kernel) rfl, zm_f 795 (by decide +kernel) rfl, zm_f 21 (by decide +kernel) rfl, zm_f 796 (by decide +kernel) rfl⟩
theorem yyyX9_string : yX9_string.cls = "WakeBanks" ∧ yX9_string.cls ≠ "java/lang/invoke/MethodHandle" ∧ yX9_string.cls ≠ "java/lang/invoke/VarHandle" ∧ (parseMethodDescriptor yX9_string.desc).map (fun d => d.parameters.length) = some 1 := by decide +kernel
theorem zx_string (ad : zR → Nat) {a1 : Int32} {k : Int32} {s t p s' : zM} (h : fWB_string a1 zm0 s t p = some (.inl (k, s'))) : zAl yX9_string cX9_string 2 (some .int) 6 90 0 0 [.ref (ad (0, 0, 0)), .int a1] (fun cA => zww cA ad s t p) (fun cA w ws => w = some (.int k) ∧ ws = zww cA ad s' t p) := zx_WB [a1] (Ms' := [zm0, s', t, p]) (v := some (zi k)) (zfWB_string a1 zm0 s t p _ h) (zx_vi k) ad
theorem zx_turbine (ad : zR → Nat) {a1 : Int32} {a2 : Int32} {a3 : Int32} {k : Int32} {s t p s' : zM} (h : fWB_turbine a1 a2 a3 zm0 s t p = some (.inl (k, s'))) : zAl yX9_turbine cX9_turbine 4 (some .int) 7 111 0 0 [.ref (ad (0, 0, 0)), .int a1, .int a2, .int a3] (fun cA => zww cA ad s t p) (fun cA w ws => w = some (.int k) ∧ ws = zww cA ad s' t p) := zx_WB [a1, a2, a3] (Ms' := [zm0, s', t, p]) (v := some (zi k)) (zfWB_turbine a1 a2 a3 zm0 s t p _ h) (zx_vi k) ad
theorem zx_blow (ad : zR → Nat) {a1 : Int32} {a2 : Int32} {a3 : Int32} {a4 : Int32} {a5 : Int32} {a6 : Int32} {k : Int32} {s t p s' : zM} (h : fWB_blow a1 a2 a3 a4 a5 a6 zm0 s t p = some (.inl (k, s'))) : zAl yX9_blow cX9_blow 7 (some .int) 6 133 0 0 [.ref (ad (0, 0, 0)), .int a1, .int a2, .int a3, .int a4, .int a5, .int a6] (fun cA => zww cA ad s t p) (fun cA w ws => w = some (.int k) ∧ ws = zww cA ad s' t p) := zx_WB [a1, a2, a3, a4, a5, a6] (Ms' := [zm0, s', t, p]) (v := some (zi k)) (zfWB_blow a1 a2 a3 a4 a5 a6 zm0 s t p _ h) (zx_vi k) ad
theorem zx_turn (ad : zR → Nat) {a1 : Int32} {a2 : Int32} {k : Int32} {s t p s' : zM} (h : fWB_turn a1 a2 zm0 s t p = some (.inl (k, s'))) : zAl yX9_turn cX9_turn 5 (some .int) 7 111 0 0 [.ref (ad (0, 0, 0)), .int a1, .int a2] (fun cA => zww cA ad s t p) (fun cA w ws => w = some (.int k) ∧ ws = zww cA ad s' t p) := zx_WB [a1, a2] (Ms' := [zm0, s', t, p]) (v := some (zi k)) (zfWB_turn a1 a2 zm0 s t p _ h) (zx_vi k) ad
theorem zx_wouldDeliver (ad : zR → Nat) {a1 : Int32} {k : Int32} {s t p s' : zM} (h : fWB_wouldDeliver a1 zm0 s t p = some (.inl (k, s'))) : zAl yX9_wouldDeliver cX9_wouldDeliver 2 (some .int) 6 133 0 0 [.ref (ad (0, 0, 0)), .int a1] (fun cA => zww cA ad s t p) (fun cA w ws => w = some (.int k) ∧ ws = zww cA ad s s' p) := zx_WB [a1] (Ms' := [zm0, s, s', p]) (v := some (zi k)) (zfWB_wouldDeliver a1 zm0 s t p _ h) (zx_vi k) ad
theorem zx_bestTurn (ad : zR → Nat) {a1 : Int32} {k : Int32} {s t p s' : zM} (h : fWB_bestTurn a1 zm0 s t p = some (.inl (k, s'))) : zAl yX9_bestTurn cX9_bestTurn 6 (some .int) 7 124 0 0 [.ref (ad (0, 0, 0)), .int a1] (fun cA => zww cA ad s t p) (fun cA w ws => w = some (.int k) ∧ ws = zww cA ad s s' p) := zx_WB [a1] (Ms' := [zm0, s, s', p]) (v := some (zi k)) (zfWB_bestTurn a1 zm0 s t p _ h) (zx_vi k) ad
theorem zx_digest (ad : zR → Nat)  {k : Int64} {s t p s' : zM} (h : fWB_digest zm0 s t p = some (.inl (k, s'))) : zAl yX9_digest cX9_digest 5 (some .long) 9 160 0 0 [.ref (ad (0, 0, 0))] (fun cA => zww cA ad s t p) (fun cA w ws => w = some (.long k) ∧ ws = zww cA ad s s' p) := zx_WB [] (Ms' := [zm0, s, s', p]) (v := some (zl k)) (zfWB_digest zm0 s t p _ h) (zx_vl k) ad
theorem zx_bestPlace (ad : zR → Nat)  {k : Int32} {s t p s' : zM} (h : fWB_bestPlace zm0 s t p = some (k, s')) : zAl yX9_bestPlace cX9_bestPlace 1 (some .int) 5 125 0 0 [.ref (ad (0, 0, 0))] (fun cA => zww cA ad s t p) (fun cA w ws => w = some (.int k) ∧ ws = zww cA ad s t s') := zx_WB [] (Ms' := [zm0, s, t, s']) (v := some (zi k)) (zfWB_bestPlace zm0 s t p _ h) (zx_vi k) ad
set_option maxHeartbeats 4000000 in
set_option maxRecDepth 20000 in
theorem zt_string0 {ad : zR → Nat} {a : Nat → Nat} {x : Nat → Int32} {r : Nat → Nat} {g : Nat → Nat → Int32} {u : Nat → Nat} {v : Nat → Nat → Int32} {rr : Int32} {s t p s' : zM} (h1 : a 1 = ad (0, 0, 0)) (h2 : x 2 = 0) (hs : fWB_string rr zm0 s t p = some (.inl (0, s'))) : zAl yX10_string cX10_string 2 (some .boolean) 7 111 0 0 [.ref (a 0), .int rr] (fun cA => zto cA a x r g u v ++ zww cA ad s t p) (fun cA w ws => w = some (.int 1) ∧ ∃ v', ws = zto cA a (upd x 2 (0 + 1)) r g u v' ++ zww cA ad s' t p) := by
  refine zAl_of (by decide) (Nat.le_of_ble_eq_true rfl) fun X F hr hex => ?_
  show zN X _ _ _ _ _ 2 0 [(0, .ref (a 0)), (1, .int rr)] [] (zto (zcA X) a x r g u v ++ zww (zcA X) ad s t p) 0 0
  refine zn_aload_n F (i := 0) (k := 0) dX10_string_0 rfl rfl ?_
  refine zn_get F (j := 0) (v := .ref (a 6)) dX10_string_1 yfRX10_27 zCl_9 rfl rfl ?_
  refine zn_aload_n F (i := 0) (k := 0) dX10_string_4 rfl rfl ?_
  refine zn_dup F dX10_string_5 rfl ?_
  refine zn_get F (j := 0) (v := .int 0) dX10_string_6 yfRX10_54 zCl_9 rfl (by show some (Value.int (x 2)) = _; rw [h2]) ?_
  refine zn_dup_x1 F dX10_string_9 rfl rfl ?_
  refine zn_iconst F (v := 1) dX10_string_10 (by decide) ?_
  refine zn_iadd F dX10_string_11 ?_
  refine zn_put F (j := 0) (ws' := zto (zcA X) a (upd x 2 ((0 + 1))) r g u v ++ zww (zcA X) ad s t p) dX10_string_12 ypRX10_54 zCl_9 rfl (zlb rfl) rfl ?_
  refine zn_aald F (q0 := 2) (n := 3) (jn := 0) (b := u 0) dX10_string_15 rfl (vp_in_nI (n := 0) (by decide) (by decide)) (by decide) rfl ?_
  refine zn_iconst F (v := 0) dX10_string_16 (by decide) ?_
  refine zn_iload_n F (i := 1) (k := 1) dX10_string_17 rfl rfl ?_
  refine zn_iast F (q0 := 3) (jn := 0) (ws' := zto (zcA X) a (upd x 2 ((0 + 1))) r g u (upv v 0 (upd (v 0) 0 rr)) ++ zww (zcA X) ad s t p) dX10_string_18 rfl (vp_in_nI (n := 0) (by decide) (by decide)) (by decide) rfl ?_
  refine zn_aload_n F (i := 0) (k := 0) dX10_string_19 rfl rfl ?_
  refine zn_get F (j := 0) (v := .ref ((ad (0, 0, 0)))) dX10_string_20 yfRX10_10 zCl_9 rfl (by show some (Value.ref (a 1)) = _; rw [h1]) ?_
  refine zn_iload_n F (i := 1) (k := 1) dX10_string_23 rfl rfl ?_
  refine zn_perm List.perm_append_comm ?_
  refine zn_callV F (h0 := ad (0, 0, 0)) (as := [.int rr]) (st := []) (j0 := 0) (zx_string ad hs) dX10_string_24 ycRX10_57 yyyX9_string rfl (wsB := zto (zcA X) a (upd x 2 ((0 + 1))) r g u (upv v 0 (upd (v 0) 0 rr))) rfl (ci := 8) rfl rfl rfl (Nat.le_of_ble_eq_true rfl) (by omega) (by omega) (by omega) (by omega) fun w1 w2 hB => ?_
  obtain ⟨rfl, rfl⟩ := hB
  refine zn_perm List.perm_append_comm ?_
  refine zn_aload_n F (i := 0) (k := 0) dX10_string_27 rfl rfl ?_
  refine zn_get F (j := 0) (v := .int (((0 + 1)))) dX10_string_28 yfRX10_54 zCl_9 rfl rfl ?_
  refine zn_iconst F (v := 1) dX10_string_31 (by decide) ?_
  refine zn_isub F dX10_string_32 ?_
  refine zn_icmp_ne F (tgt := 40) dX10_string_33 (by decide) (fun z => absurd (by decide) z) (fun _ => ?_)
  refine zn_iconst F (v := 1) dX10_string_36 (by decide) ?_
  refine zn_goto F (tgt := 41) dX10_string_37 (by decide) ?_
  exact zn_zreturn F hr dX10_string_41 rfl ⟨rfl, _, rfl⟩ (by omega) (by omega)
set_option maxHeartbeats 4000000 in
set_option maxRecDepth 20000 in
theorem zt_string1 {ad : zR → Nat} {a : Nat → Nat} {x : Nat → Int32} {r : Nat → Nat} {g : Nat → Nat → Int32} {u : Nat → Nat} {v : Nat → Nat → Int32} {rr : Int32} {s t p s' : zM} (h1 : a 1 = ad (0, 0, 0)) (h2 : x 2 = 1) (hs : fWB_string rr zm0 s t p = some (.inl (1, s'))) : zAl yX10_string cX10_string 2 (some .boolean) 7 111 0 0 [.ref (a 0), .int rr] (fun cA => zto cA a x r g u v ++ zww cA ad s t p) (fun cA w ws => w = some (.int 1) ∧ ∃ v', ws = zto cA a (upd x 2 (1 + 1)) r g u v' ++ zww cA ad s' t p) := by
  refine zAl_of (by decide) (Nat.le_of_ble_eq_true rfl) fun X F hr hex => ?_
  show zN X _ _ _ _ _ 2 0 [(0, .ref (a 0)), (1, .int rr)] [] (zto (zcA X) a x r g u v ++ zww (zcA X) ad s t p) 0 0
  refine zn_aload_n F (i := 0) (k := 0) dX10_string_0 rfl rfl ?_
  refine zn_get F (j := 0) (v := .ref (a 6)) dX10_string_1 yfRX10_27 zCl_9 rfl rfl ?_
  refine zn_aload_n F (i := 0) (k := 0) dX10_string_4 rfl rfl ?_
  refine zn_dup F dX10_string_5 rfl ?_
  refine zn_get F (j := 0) (v := .int 1) dX10_string_6 yfRX10_54 zCl_9 rfl (by show some (Value.int (x 2)) = _; rw [h2]) ?_
  refine zn_dup_x1 F dX10_string_9 rfl rfl ?_
  refine zn_iconst F (v := 1) dX10_string_10 (by decide) ?_
  refine zn_iadd F dX10_string_11 ?_
  refine zn_put F (j := 0) (ws' := zto (zcA X) a (upd x 2 ((1 + 1))) r g u v ++ zww (zcA X) ad s t p) dX10_string_12 ypRX10_54 zCl_9 rfl (zlb rfl) rfl ?_
  refine zn_aald F (q0 := 2) (n := 3) (jn := 1) (b := u 1) dX10_string_15 rfl (vp_in_nI (n := 1) (by decide) (by decide)) (by decide) rfl ?_
  refine zn_iconst F (v := 0) dX10_string_16 (by decide) ?_
  refine zn_iload_n F (i := 1) (k := 1) dX10_string_17 rfl rfl ?_
  refine zn_iast F (q0 := 4) (jn := 0) (ws' := zto (zcA X) a (upd x 2 ((1 + 1))) r g u (upv v 1 (upd (v 1) 0 rr)) ++ zww (zcA X) ad s t p) dX10_string_18 rfl (vp_in_nI (n := 0) (by decide) (by decide)) (by decide) rfl ?_
  refine zn_aload_n F (i := 0) (k := 0) dX10_string_19 rfl rfl ?_
  refine zn_get F (j := 0) (v := .ref ((ad (0, 0, 0)))) dX10_string_20 yfRX10_10 zCl_9 rfl (by show some (Value.ref (a 1)) = _; rw [h1]) ?_
  refine zn_iload_n F (i := 1) (k := 1) dX10_string_23 rfl rfl ?_
  refine zn_perm List.perm_append_comm ?_
  refine zn_callV F (h0 := ad (0, 0, 0)) (as := [.int rr]) (st := []) (j0 := 0) (zx_string ad hs) dX10_string_24 ycRX10_57 yyyX9_string rfl (wsB := zto (zcA X) a (upd x 2 ((1 + 1))) r g u (upv v 1 (upd (v 1) 0 rr))) rfl (ci := 8) rfl rfl rfl (Nat.le_of_ble_eq_true rfl) (by omega) (by omega) (by omega) (by omega) fun w1 w2 hB => ?_
  obtain ⟨rfl, rfl⟩ := hB
  refine zn_perm List.perm_append_comm ?_
  refine zn_aload_n F (i := 0) (k := 0) dX10_string_27 rfl rfl ?_
  refine zn_get F (j := 0) (v := .int (((1 + 1)))) dX10_string_28 yfRX10_54 zCl_9 rfl rfl ?_
  refine zn_iconst F (v := 1) dX10_string_31 (by decide) ?_
  refine zn_isub F dX10_string_32 ?_
  refine zn_icmp_ne F (tgt := 40) dX10_string_33 (by decide) (fun z => absurd (by decide) z) (fun _ => ?_)
  refine zn_iconst F (v := 1) dX10_string_36 (by decide) ?_
  refine zn_goto F (tgt := 41) dX10_string_37 (by decide) ?_
  exact zn_zreturn F hr dX10_string_41 rfl ⟨rfl, _, rfl⟩ (by omega) (by omega)
