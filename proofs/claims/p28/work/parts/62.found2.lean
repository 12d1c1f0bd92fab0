/-! ===== Told.found ===== -/
def BoF (xs : Nat → Int32) (L e : Nat) (t p : zM) (ad : zR → Nat) (a u : Nat → Nat) (x3 x4 : Int32) (cA : Nat → ClassId) (w : Option Value) (ws : va_W) : Prop := w = some (.int 1) ∧ ∃ x' r' g' v', x' 0 = Int32.ofNat (e + 14) ∧ x' 1 = Int32.ofNat (z_fi xs L e 4).1 ∧ x' 3 = x3 ∧ x' 4 = x4 ∧ (∀ i, i < (z_fi xs L e 4).1 → g' i 0 = (z_fi xs L e 4).2 7 i 0 ∧ g' i 1 = (z_fi xs L e 4).2 7 i 1) ∧ ws = zto cA a x' r' g' u v' ++ zww cA ad (z_fi xs L e 4).2 t p
theorem ycRX10_137 : Cond.methodLink RX10 137 yX10_draw ∈ zTg ∧ Cond.instanceMethod yX10_draw ∈ zTg ∧ Cond.selects "WakeBanksLaw$Told" yX10_draw yX10_draw ∈ zTg ∧ Cond.initialized "WakeBanksLaw$Told" ∈ zTg ∧ Cond.code yX10_draw cX10_draw 3 (some .int) ∈ zTg := ⟨zm_f 788 (by decide +kernel) rfl, zm_f 773 (by decide +kernel) rfl, zm_f 774 (by decide +kernel) rfl, zm_f 20 (by decide +kernel) rfl, zm_f 775 (by decide +kernel) rfl⟩
theorem yyyX10_draw : yX10_draw.cls = "WakeBanksLaw$Told" ∧ yX10_draw.cls ≠ "java/lang/invoke/MethodHandle" ∧ yX10_draw.cls ≠ "java/lang/invoke/VarHandle" ∧ (parseMethodDescriptor yX10_draw.desc).map (fun d => d.parameters.length) = some 1 := by decide +kernel
theorem ycRX10_143 : Cond.methodLink RX10 143 yX10_turbine ∈ zTg ∧ Cond.instanceMethod yX10_turbine ∈ zTg ∧ Cond.selects "WakeBanksLaw$Told" yX10_turbine yX10_turbine ∈ zTg ∧ Cond.initialized "WakeBanksLaw$Told" ∈ zTg ∧ Cond.code yX10_turbine cX10_turbine 5 (some .boolean) ∈ zTg := ⟨zm_f 818 (by decide +kernel) rfl, zm_f 819 (by decide +kernel) rfl, zm_f 820 (by decide +kernel) rfl, zm_f 20 (by decide +kernel) rfl, zm_f 821 (by decide +kernel) rfl⟩
theorem yyyX10_turbine : yX10_turbine.cls = "WakeBanksLaw$Told" ∧ yX10_turbine.cls ≠ "java/lang/invoke/MethodHandle" ∧ yX10_turbine.cls ≠ "java/lang/invoke/VarHandle" ∧ (parseMethodDescriptor yX10_turbine.desc).map (fun d => d.parameters.length) = some 3 := by decide +kernel
theorem ycRX10_140 : Cond.methodLink RX10 140 yX10_string ∈ zTg ∧ Cond.instanceMethod yX10_string ∈ zTg ∧ Cond.selects "WakeBanksLaw$Told" yX10_string yX10_string ∈ zTg ∧ Cond.initialized "WakeBanksLaw$Told" ∈ zTg ∧ Cond.code yX10_string cX10_string 2 (some .boolean) ∈ zTg := ⟨zm_f 789 (by decide +kernel) rfl, zm_f 790 (by decide +kernel) rfl, zm_f 791 (by decide +kernel) rfl, zm_f 20 (by decide +kernel) rfl, zm_f 792 (by decide +kernel) rfl⟩
theorem yyyX10_string : yX10_string.cls = "WakeBanksLaw$Told" ∧ yX10_string.cls ≠ "java/lang/invoke/MethodHandle" ∧ yX10_string.cls ≠ "java/lang/invoke/VarHandle" ∧ (parseMethodDescriptor yX10_string.desc).map (fun d => d.parameters.length) = some 1 := by decide +kernel
set_option maxHeartbeats 4000000 in
set_option maxRecDepth 20000 in
theorem zt_floop {X : zX} (F : zLr X cX10_found 3 RX10) {b L e : Nat} {xs : Nat → Int32} (hX : zScr X b L xs) (hL : L < 2147483648) (hr : zRt X (some .boolean)) {ad : zR → Nat} {a u : Nat → Nat} {x3 x4 : Int32} {t p : zM} (he : e < 100) (hb : a 2 = b) (h0 : a 1 = ad (0, 0, 0)) : ∀ d j, j + d = 4 → ∀ (x : Nat → Int32) (r : Nat → Nat) (g : Nat → Nat → Int32) (v : Nat → Nat → Int32), x 0 = Int32.ofNat (e + 2 + 3 * j) → x 1 = Int32.ofNat (z_fi xs L e j).1 → x 3 = x3 → x 4 = x4 → (∀ i, i < (z_fi xs L e j).1 → g i 0 = (z_fi xs L e j).2 7 i 0 ∧ g i 1 = (z_fi xs L e j).2 7 i 1) → zN X 4 60 9 160 (zNQ X 4 60 (BoF xs L e t p ad a u x3 x4 (zcA X))) 3 35 [(2, .int (Int32.ofNat j)), (0, .ref (a 0)), (1, .int 4)] [] (zto (zcA X) a x r g u v ++ zww (zcA X) ad (z_fi xs L e j).2 t p) j (15 * j) := by
  intro d
  induction d with
  | zero =>
    intro j hj x r g v hx h1 h3 h4 hg
    obtain rfl : j = 4 := by omega
    refine zn_iload_n F (i := 2) (k := 0) dX10_found_35 rfl rfl ?_
    refine zn_iload_n F (i := 1) (k := 2) dX10_found_36 rfl rfl ?_
    refine zn_icmp_ge F (tgt := 72) dX10_found_37 (by decide) (fun _ => ?_) (fun z => absurd (by decide) z)
    refine zn_iconst F (v := 1) dX10_found_72 (by decide) ?_
    exact zn_zreturn F hr dX10_found_73 rfl ⟨rfl, x, r, g, v, hx, h1, h3, h4, hg, rfl⟩ (by omega) (by omega)
  | succ d ih =>
    intro j hj x r g v hx h1 h3 h4 hg
    obtain ⟨hT, hle, -⟩ := z_fi_T xs L e j (by omega)
    have h5 := hT.1.2.1
    have h9 : ∀ d, 0 ≤ (z_dv xs L d 9).toInt ∧ (z_dv xs L d 9).toInt ≤ 19 := fun d => by
      have h := z_dvb xs L d (n := 9) (by decide)
      rw [show (9 : Int32).toInt = 9 from by decide] at h
      omega
    have h2 : ∀ d, 0 ≤ (z_dv xs L d 2).toInt ∧ (z_dv xs L d 2).toInt ≤ 1 := fun d => by
      have h := z_dvb xs L d (n := 2) (by decide)
      rw [z2i] at h
      omega
    have hs : s_free (z_fi xs L e j).1 (z_fi xs L e j).2 (z_dv xs L (Int32.ofNat ((e + 2 + 3 * j))) 9) (z_dv xs L (Int32.ofNat ((e + 2 + 3 * j) + 1)) 9) → fWB_turbine (z_dv xs L (Int32.ofNat ((e + 2 + 3 * j))) 9) (z_dv xs L (Int32.ofNat ((e + 2 + 3 * j) + 1)) 9) (z_dv xs L (Int32.ofNat ((e + 2 + 3 * j) + 1 + 1)) 2) zm0 (z_fi xs L e j).2 t p = some (.inl (Int32.ofNat (z_fi xs L e j).1, s_tur (z_dv xs L (Int32.ofNat ((e + 2 + 3 * j))) 9) (z_dv xs L (Int32.ofNat ((e + 2 + 3 * j) + 1)) 9) (z_dv xs L (Int32.ofNat ((e + 2 + 3 * j) + 1 + 1)) 2) (z_fi xs L e j).1 (z_fi xs L e j).2)) := fun hf => s_turbine (by omega) h5 hT.1.2.2.1 (h9 _) (h9 _) (h2 _) hf zm0 t p
    refine zn_iload_n F (i := 2) (k := 0) dX10_found_35 rfl rfl ?_
    refine zn_iload_n F (i := 1) (k := 2) dX10_found_36 rfl rfl ?_
    refine zn_icmp_ge F (tgt := 72) dX10_found_37 (by decide) (fun z => absurd z (by rw [show (4 : Int32) = Int32.ofNat 4 from rfl, znle (by omega) (by omega)]; omega)) (fun _ => ?_)
    refine zn_aload_n F (i := 0) (k := 1) dX10_found_40 rfl rfl ?_
    refine zn_aload_n F (i := 0) (k := 1) dX10_found_41 rfl rfl ?_
    refine zn_bipush F (v := 9) dX10_found_42 (by decide) ?_
    refine zn_callVs F (h0 := a 0) (as := [.int 9]) (st := [.ref ((a 0))]) (j0 := 0) hX (zt_drawN hL (e := (e + 2 + 3 * j)) (by omega) hb hx (n := 9) (by decide)) dX10_found_44 ycRX10_137 yyyX10_draw rfl (wsB := zww (zcA X) ad (z_fi xs L e j).2 t p) rfl (ci := 9) rfl rfl rfl (Nat.le_of_ble_eq_true rfl) (by omega) (by omega) (by omega) (by omega) fun w1 w2 hB => ?_
    obtain ⟨rfl, rfl⟩ := hB
    refine zn_aload_n F (i := 0) (k := 1) dX10_found_47 rfl rfl ?_
    refine zn_bipush F (v := 9) dX10_found_48 (by decide) ?_
    refine zn_callVs F (h0 := a 0) (as := [.int 9]) (st := [.int (z_dv xs L (Int32.ofNat ((e + 2 + 3 * j))) 9), .ref ((a 0))]) (j0 := 0) hX (zt_drawN hL (e := (e + 2 + 3 * j) + 1) (by omega) hb rfl (n := 9) (by decide)) dX10_found_50 ycRX10_137 yyyX10_draw rfl (wsB := zww (zcA X) ad (z_fi xs L e j).2 t p) rfl (ci := 9) rfl rfl rfl (Nat.le_of_ble_eq_true rfl) (by omega) (by omega) (by omega) (by omega) fun w1 w2 hB => ?_
    obtain ⟨rfl, rfl⟩ := hB
    refine zn_aload_n F (i := 0) (k := 1) dX10_found_53 rfl rfl ?_
    refine zn_iconst F (v := 2) dX10_found_54 (by decide) ?_
    refine zn_callVs F (h0 := a 0) (as := [.int 2]) (st := [.int (z_dv xs L (Int32.ofNat ((e + 2 + 3 * j) + 1)) 9), .int (z_dv xs L (Int32.ofNat ((e + 2 + 3 * j))) 9), .ref ((a 0))]) (j0 := 0) hX (zt_drawN hL (e := (e + 2 + 3 * j) + 1 + 1) (by omega) hb rfl (n := 2) (by decide)) dX10_found_55 ycRX10_137 yyyX10_draw rfl (wsB := zww (zcA X) ad (z_fi xs L e j).2 t p) rfl (ci := 9) rfl rfl rfl (Nat.le_of_ble_eq_true rfl) (by omega) (by omega) (by omega) (by omega) fun w1 w2 hB => ?_
    obtain ⟨rfl, rfl⟩ := hB
    refine zn_callV F (h0 := a 0) (as := [.int (z_dv xs L (Int32.ofNat ((e + 2 + 3 * j))) 9), .int (z_dv xs L (Int32.ofNat ((e + 2 + 3 * j) + 1)) 9), .int (z_dv xs L (Int32.ofNat ((e + 2 + 3 * j) + 1 + 1)) 2)]) (st := []) (j0 := 0) (zt_turbine (n := (z_fi xs L e j).1) (px := z_dv xs L (Int32.ofNat ((e + 2 + 3 * j))) 9) (py := z_dv xs L (Int32.ofNat ((e + 2 + 3 * j) + 1)) 9) (sg := z_dv xs L (Int32.ofNat ((e + 2 + 3 * j) + 1 + 1)) 2) (s := (z_fi xs L e j).2) (t := t) (p := p) (ad := ad) (a := a) (x := (upd (upd (upd x 0 (Int32.ofNat ((e + 2 + 3 * j) + 1))) 0 (Int32.ofNat ((e + 2 + 3 * j) + 1 + 1))) 0 (Int32.ofNat ((e + 2 + 3 * j) + 1 + 1 + 1)))) (r := r) (g := g) (u := u) (v := v) (by omega) h0 h1 hg hs) dX10_found_58 ycRX10_143 yyyX10_turbine rfl (wsB := []) (List.append_nil _).symm (ci := 9) rfl rfl rfl (Nat.le_of_ble_eq_true rfl) (by omega) (by omega) (by omega) (by omega) fun w1 w2 hB => ?_
    obtain ⟨rfl, hB⟩ := hB
    refine zn_ws (ws' := w2) (List.append_nil _) ?_
    refine zn_if_ne F (tgt := 66) dX10_found_61 (by decide) (fun _ => ?_) (fun z => absurd z (by decide))
    refine zn_iinc F (i := 2) (k := 0) (v := Int32.ofNat (j + 1)) (lv' := [(2, .int (Int32.ofNat (j + 1))), (0, .ref ((a 0))), (1, .int 4)]) dX10_found_66 rfl (zn1 j) (by decide) rfl ?_
    refine zn_goto F (tgt := 35) dX10_found_69 (by decide) ?_
    refine zn_wid (ck' := j + 1) (sk' := 15 * (j + 1)) (by omega) (by omega) ?_
    rcases hB with ⟨hf, rfl⟩ | ⟨hf, r2, g2, p1, p2, p3, rfl⟩
    · have e1 : z_fi xs L e (j + 1) = (z_fi xs L e j) := if_neg fun z => hf (s_taken_free (by omega) h5 z)
      have k := ih (j + 1) (by omega) ((upd (upd (upd x 0 (Int32.ofNat ((e + 2 + 3 * j) + 1))) 0 (Int32.ofNat ((e + 2 + 3 * j) + 1 + 1))) 0 (Int32.ofNat ((e + 2 + 3 * j) + 1 + 1 + 1)))) r g v (congrArg Int32.ofNat (by omega)) (by rw [e1]; exact h1) h3 h4 (by rw [e1]; exact hg)
      rw [e1] at k
      exact k
    · have e1 : z_fi xs L e (j + 1) = ((z_fi xs L e j).1 + 1, s_tur (z_dv xs L (Int32.ofNat ((e + 2 + 3 * j))) 9) (z_dv xs L (Int32.ofNat ((e + 2 + 3 * j) + 1)) 9) (z_dv xs L (Int32.ofNat ((e + 2 + 3 * j) + 1 + 1)) 2) (z_fi xs L e j).1 (z_fi xs L e j).2) := if_pos (s_taken0 (by omega) h5 hf)
      have k := ih (j + 1) (by omega) (upd ((upd (upd (upd x 0 (Int32.ofNat ((e + 2 + 3 * j) + 1))) 0 (Int32.ofNat ((e + 2 + 3 * j) + 1 + 1))) 0 (Int32.ofNat ((e + 2 + 3 * j) + 1 + 1 + 1)))) 1 (Int32.ofNat (z_fi xs L e j).1 + 1)) r2 g2 v (congrArg Int32.ofNat (by omega)) (by rw [e1]; exact zn1 _) h3 h4 (by
        rw [e1]
        intro i hi
        dsimp only at hi ⊢
        by_cases ei : i = (z_fi xs L e j).1
        · subst ei
          rw [s_tur70, s_tur71]
          exact ⟨p2, p3⟩
        · rw [s_B_tur7 _ _ _ ei, s_B_tur7 _ _ _ ei, p1 i (by have hi2 : i < (z_fi xs L e j).1 + 1 := hi; omega)]
          exact hg i (by have hi2 : i < (z_fi xs L e j).1 + 1 := hi; omega))
      rw [e1] at k
      exact k
set_option maxHeartbeats 4000000 in
set_option maxRecDepth 20000 in
theorem zt_found {b L e : Nat} {xs : Nat → Int32} (hL : L < 2147483648) {ad : zR → Nat} {a : Nat → Nat} {x : Nat → Int32} {r : Nat → Nat} {g : Nat → Nat → Int32} {u : Nat → Nat} {v : Nat → Nat → Int32} {t p : zM} (he : e < 100) (hb : a 2 = b) (h0 : a 1 = ad (0, 0, 0)) (hx : x 0 = Int32.ofNat e) (h1 : x 1 = 0) (h2 : x 2 = 0) : zAs b L xs yX10_found cX10_found 3 (some .boolean) 9 160 4 60 [.ref (a 0), .int 4] (fun cA => zto cA a x r g u v ++ zww cA ad zfr0 t p) (BoF xs L e t p ad a u (x 3) (x 4)) := by
  refine zAs_of (by decide) (Nat.le_of_ble_eq_true rfl) fun X F hX hr => ?_
  show zN X _ _ _ _ _ 3 0 [(0, .ref (a 0)), (1, .int 4)] [] (zto (zcA X) a x r g u v ++ zww (zcA X) ad zfr0 t p) 0 0
  refine zn_iconst F (v := 0) dX10_found_0 (by decide) ?_
  refine zn_istore_n F (i := 2) (lv' := [(2, .int 0), (0, .ref ((a 0))), (1, .int 4)]) dX10_found_1 rfl (by decide) rfl ?_
  refine zn_iload_n F (i := 2) (k := 0) dX10_found_2 rfl rfl ?_
  refine zn_iconst F (v := 2) dX10_found_3 (by decide) ?_
  refine zn_icmp_ge F (tgt := 33) dX10_found_4 (by decide) (fun z => absurd z (by decide)) (fun _ => ?_)
  refine zn_aload_n F (i := 0) (k := 1) dX10_found_7 rfl rfl ?_
  refine zn_sipush F (v := 500) dX10_found_8 (by decide) ?_
  refine zn_aload_n F (i := 0) (k := 1) dX10_found_11 rfl rfl ?_
  refine zn_sipush F (v := 6000) dX10_found_12 (by decide) ?_
  refine zn_callVs F (h0 := a 0) (as := [.int 6000]) (st := [.int 500, .ref ((a 0))]) (j0 := 0) hX (zt_drawN hL (e := e) (by omega) hb hx (n := 6000) (by decide)) dX10_found_15 ycRX10_137 yyyX10_draw rfl (wsB := zww (zcA X) ad zfr0 t p) rfl (ci := 9) rfl rfl rfl (Nat.le_of_ble_eq_true rfl) (by omega) (by omega) (by omega) (by omega) fun w1 w2 hB => ?_
  obtain ⟨rfl, rfl⟩ := hB
  refine zn_iadd F dX10_found_18 ?_
  refine zn_callV F (h0 := a 0) (as := [.int ((500 + z_dv xs L (Int32.ofNat (e)) 6000))]) (st := []) (j0 := 0) (zt_string0 (ad := ad) (a := a) (x := (upd x 0 (Int32.ofNat (e + 1)))) (r := r) (g := g) (u := u) (v := v) (rr := (500 + z_dv xs L (Int32.ofNat (e)) 6000)) (t := t) (p := p) h0 h2 (s_string (k := 0) (r := (500 + z_dv xs L (Int32.ofNat (e)) 6000)) (s := zfr0) (by decide) rfl (z_rate xs L _) zm0 t p)) dX10_found_19 ycRX10_140 yyyX10_string rfl (wsB := []) (List.append_nil _).symm (ci := 9) rfl rfl rfl (Nat.le_of_ble_eq_true rfl) (by omega) (by omega) (by omega) (by omega) fun w1 w2 hB => ?_
  obtain ⟨rfl, v1, rfl⟩ := hB
  refine zn_ws (ws' := zto (zcA X) a (upd (upd x 0 (Int32.ofNat (e + 1))) 2 (0 + 1)) r g u v1 ++ zww (zcA X) ad (s_str ((500 + z_dv xs L (Int32.ofNat (e)) 6000)) 0 zfr0) t p) (List.append_nil _) ?_
  refine zn_if_ne F (tgt := 27) dX10_found_22 (by decide) (fun _ => ?_) (fun z => absurd z (by decide))
  refine zn_iinc F (i := 2) (k := 0) (v := 1) (lv' := [(2, .int 1), (0, .ref ((a 0))), (1, .int 4)]) dX10_found_27 rfl (by decide) (by decide) rfl ?_
  refine zn_goto F (tgt := 2) dX10_found_30 (by decide) ?_
  refine zn_iload_n F (i := 2) (k := 0) dX10_found_2 rfl rfl ?_
  refine zn_iconst F (v := 2) dX10_found_3 (by decide) ?_
  refine zn_icmp_ge F (tgt := 33) dX10_found_4 (by decide) (fun z => absurd z (by decide)) (fun _ => ?_)
  refine zn_aload_n F (i := 0) (k := 1) dX10_found_7 rfl rfl ?_
  refine zn_sipush F (v := 500) dX10_found_8 (by decide) ?_
  refine zn_aload_n F (i := 0) (k := 1) dX10_found_11 rfl rfl ?_
  refine zn_sipush F (v := 6000) dX10_found_12 (by decide) ?_
  refine zn_callVs F (h0 := a 0) (as := [.int 6000]) (st := [.int 500, .ref ((a 0))]) (j0 := 0) hX (zt_drawN hL (e := (e + 1)) (by omega) hb rfl (n := 6000) (by decide)) dX10_found_15 ycRX10_137 yyyX10_draw rfl (wsB := zww (zcA X) ad (s_str ((500 + z_dv xs L (Int32.ofNat (e)) 6000)) 0 zfr0) t p) rfl (ci := 9) rfl rfl rfl (Nat.le_of_ble_eq_true rfl) (by omega) (by omega) (by omega) (by omega) fun w1 w2 hB => ?_
  obtain ⟨rfl, rfl⟩ := hB
  refine zn_iadd F dX10_found_18 ?_
  refine zn_callV F (h0 := a 0) (as := [.int ((500 + z_dv xs L (Int32.ofNat ((e + 1))) 6000))]) (st := []) (j0 := 0) (zt_string1 (ad := ad) (a := a) (x := (upd (upd (upd x 0 (Int32.ofNat (e + 1))) 2 (0 + 1)) 0 (Int32.ofNat ((e + 1) + 1)))) (r := r) (g := g) (u := u) (v := v1) (rr := (500 + z_dv xs L (Int32.ofNat ((e + 1))) 6000)) (t := t) (p := p) h0 rfl (s_string (k := 1) (r := (500 + z_dv xs L (Int32.ofNat ((e + 1))) 6000)) (s := (s_str ((500 + z_dv xs L (Int32.ofNat (e)) 6000)) 0 zfr0)) (by decide) rfl (z_rate xs L _) zm0 t p)) dX10_found_19 ycRX10_140 yyyX10_string rfl (wsB := []) (List.append_nil _).symm (ci := 9) rfl rfl rfl (Nat.le_of_ble_eq_true rfl) (by omega) (by omega) (by omega) (by omega) fun w1 w2 hB => ?_
  obtain ⟨rfl, v2, rfl⟩ := hB
  refine zn_ws (ws' := zto (zcA X) a (upd (upd (upd (upd x 0 (Int32.ofNat (e + 1))) 2 (0 + 1)) 0 (Int32.ofNat ((e + 1) + 1))) 2 (1 + 1)) r g u v2 ++ zww (zcA X) ad (s_str ((500 + z_dv xs L (Int32.ofNat ((e + 1))) 6000)) 1 (s_str ((500 + z_dv xs L (Int32.ofNat (e)) 6000)) 0 zfr0)) t p) (List.append_nil _) ?_
  refine zn_if_ne F (tgt := 27) dX10_found_22 (by decide) (fun _ => ?_) (fun z => absurd z (by decide))
  refine zn_iinc F (i := 2) (k := 0) (v := 2) (lv' := [(2, .int 2), (0, .ref ((a 0))), (1, .int 4)]) dX10_found_27 rfl (by decide) (by decide) rfl ?_
  refine zn_goto F (tgt := 2) dX10_found_30 (by decide) ?_
  refine zn_iload_n F (i := 2) (k := 0) dX10_found_2 rfl rfl ?_
  refine zn_iconst F (v := 2) dX10_found_3 (by decide) ?_
  refine zn_icmp_ge F (tgt := 33) dX10_found_4 (by decide) (fun _ => ?_) (fun z => absurd (by decide) z)
  refine zn_iconst F (v := 0) dX10_found_33 (by decide) ?_
  refine zn_istore_n F (i := 2) (lv' := [(2, .int 0), (0, .ref ((a 0))), (1, .int 4)]) dX10_found_34 rfl (by decide) rfl ?_
  refine zn_wid (ck' := 0) (sk' := 15 * 0) (by omega) (by omega) ?_
  exact zt_floop F hX hL hr he hb h0 4 0 (by omega) ((upd (upd (upd (upd x 0 (Int32.ofNat (e + 1))) 2 (0 + 1)) 0 (Int32.ofNat ((e + 1) + 1))) 2 (1 + 1))) r g v2 rfl h1 rfl rfl (fun i hi => absurd hi (Nat.not_lt_zero i))
