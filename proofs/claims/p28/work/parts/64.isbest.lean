/-! ===== isBest ===== -/
theorem yfRL_14 : zFl RL 14 9 0 := ⟨_, rfl, by decide, zm_f 716 (by decide +kernel) rfl⟩
theorem ycRL_67 : Cond.methodLink RL 67 yX9_bestPlace ∈ zTg ∧ Cond.instanceMethod yX9_bestPlace ∈ zTg ∧ Cond.selects "WakeBanks" yX9_bestPlace yX9_bestPlace ∈ zTg ∧ Cond.initialized "WakeBanks" ∈ zTg ∧ Cond.code yX9_bestPlace cX9_bestPlace 1 (some .int) ∈ zTg := ⟨zm_f 839 (by decide +kernel) rfl, zm_f 840 (by decide +kernel) rfl, zm_f 841 (by decide +kernel) rfl, zm_f 21 (by decide +kernel) rfl, zm_f 842 (by decide +kernel) rfl⟩
theorem yyyX9_bestPlace : yX9_bestPlace.cls = "WakeBanks" ∧ yX9_bestPlace.cls ≠ "java/lang/invoke/MethodHandle" ∧ yX9_bestPlace.cls ≠ "java/lang/invoke/VarHandle" ∧ (parseMethodDescriptor yX9_bestPlace.desc).map (fun d => d.parameters.length) = some 0 := by decide +kernel
theorem ycRL_26 : Cond.methodLink RL 26 yX10_draw ∈ zTg ∧ Cond.instanceMethod yX10_draw ∈ zTg ∧ Cond.selects "WakeBanksLaw$Told" yX10_draw yX10_draw ∈ zTg ∧ Cond.initialized "WakeBanksLaw$Told" ∈ zTg ∧ Cond.code yX10_draw cX10_draw 3 (some .int) ∈ zTg := ⟨zm_f 772 (by decide +kernel) rfl, zm_f 773 (by decide +kernel) rfl, zm_f 774 (by decide +kernel) rfl, zm_f 20 (by decide +kernel) rfl, zm_f 775 (by decide +kernel) rfl⟩
theorem ycRL_75 : Cond.methodLink RL 75 yL_made ∈ zTg ∧ Cond.static yL_made ∈ zTg ∧ Cond.initialized yL_made.cls ∈ zTg ∧ Cond.code yL_made cL_made 5 (some .int) ∈ zTg := ⟨zm_f 864 (by decide +kernel) rfl, zm_f 865 (by decide +kernel) rfl, zm_f 19 (by decide +kernel) rfl, zm_f 866 (by decide +kernel) rfl⟩
theorem yyyL_made : yL_made.cls ≠ "java/lang/invoke/MethodHandle" ∧ yL_made.cls ≠ "java/lang/invoke/VarHandle" ∧ (parseMethodDescriptor yL_made.desc).map (fun d => d.parameters.length) = some 2 := by decide +kernel
set_option maxHeartbeats 4000000 in
set_option maxRecDepth 20000 in
theorem zb_loop {X : zX} (F : zLr X cL_isBest 5 RL) {a : Nat → Nat} {x : Nat → Int32} {r : Nat → Nat} {g : Nat → Nat → Int32} {u : Nat → Nat} {v : Nat → Nat → Int32} {n : Nat} {s : zM} {bs dw : Int32} {W : va_W} {mc ms fr lo ck sk : Nat} {B : State → Prop} (hn : n < 8) (h1 : x 1 = Int32.ofNat n) (hg : ∀ i, i < n → g i 0 = s 7 i 0 ∧ g i 1 = s 7 i 1) (hb : ∀ i, i < n → ¬ 20 * s 7 i 0 + s 7 i 1 = bs) (kt : zN X mc ms fr lo B 5 62 [(2, .int dw), (1, .int bs), (0, .ref (a 0))] [] (zto (zcA X) a x r g u v ++ W) ck sk) (kf : (∀ i, i < n → ¬ 20 * s 7 i 0 + s 7 i 1 = dw) → zN X mc ms fr lo B 5 70 [(2, .int dw), (1, .int bs), (0, .ref (a 0))] [] (zto (zcA X) a x r g u v ++ W) ck sk) : ∀ d k, k + d = n → (∀ i, i < k → ¬ 20 * s 7 i 0 + s 7 i 1 = dw) → zN X mc ms fr lo B 5 18 ((3, .int (Int32.ofNat k)) :: [(2, .int dw), (1, .int bs), (0, .ref (a 0))]) [] (zto (zcA X) a x r g u v ++ W) ck sk := by
  intro d
  induction d with
  | zero =>
    intro k hk hf
    obtain rfl : k = n := by omega
    refine zn_iload_n F (i := 3) (k := 0) dL_isBest_18 rfl rfl ?_
    refine zn_aload_n F (i := 0) (k := 3) dL_isBest_19 rfl rfl ?_
    refine zn_get F (j := 0) (v := .int (Int32.ofNat k)) dL_isBest_20 yfRL_22 zCl_9 rfl (by show some (Value.int (x 1)) = _; rw [h1]) ?_
    refine zn_icmp_ge F (tgt := 70) dL_isBest_23 (by decide) (fun _ => ?_) (fun z => absurd ((znle (by omega) (by omega)).mpr (Nat.le_refl k)) z)
    exact zn_pick [1, 2, 3] rfl (kf hf)
  | succ d ih =>
    intro k hk hf
    have hkn : k < n := by omega
    refine zn_iload_n F (i := 3) (k := 0) dL_isBest_18 rfl rfl ?_
    refine zn_aload_n F (i := 0) (k := 3) dL_isBest_19 rfl rfl ?_
    refine zn_get F (j := 0) (v := .int ((Int32.ofNat n))) dL_isBest_20 yfRL_22 zCl_9 rfl (by show some (Value.int (x 1)) = _; rw [h1]) ?_
    refine zn_icmp_ge F (tgt := 70) dL_isBest_23 (by decide) (fun z => absurd hkn (by rw [znle (by omega) (by omega)] at z; omega)) (fun _ => ?_)
    refine zn_bipush F (v := 20) dL_isBest_26 (by decide) ?_
    refine zn_aload_n F (i := 0) (k := 3) dL_isBest_28 rfl rfl ?_
    refine zn_get F (j := 0) (v := .ref (a 3)) dL_isBest_29 yfRL_71 zCl_9 rfl rfl ?_
    refine zn_iload_n F (i := 3) (k := 0) dL_isBest_32 rfl rfl ?_
    refine zn_aald F (q0 := 1) (n := 8) (jn := k) (b := r k) dL_isBest_33 rfl (zvin (by omega) (by decide)) (zclm k (by omega)) rfl ?_
    refine zn_iconst F (v := 0) dL_isBest_34 (by decide) ?_
    refine zn_iald F (q0 := 6 + k) (n := 15) (f := g k) (jn := 0) (x := s 7 k 0) dL_isBest_35 (zto_row _ _ _ _ _ _ _ _ (by omega)) (vp_in_nI (n := 0) (by decide) (by decide)) (by decide) (hg k hkn).1 ?_
    refine zn_imul F dL_isBest_36 ?_
    refine zn_aload_n F (i := 0) (k := 3) dL_isBest_37 rfl rfl ?_
    refine zn_get F (j := 0) (v := .ref (a 3)) dL_isBest_38 yfRL_71 zCl_9 rfl rfl ?_
    refine zn_iload_n F (i := 3) (k := 0) dL_isBest_41 rfl rfl ?_
    refine zn_aald F (q0 := 1) (n := 8) (jn := k) (b := r k) dL_isBest_42 rfl (zvin (by omega) (by decide)) (zclm k (by omega)) rfl ?_
    refine zn_iconst F (v := 1) dL_isBest_43 (by decide) ?_
    refine zn_iald F (q0 := 6 + k) (n := 15) (f := g k) (jn := 1) (x := s 7 k 1) dL_isBest_44 (zto_row _ _ _ _ _ _ _ _ (by omega)) (vp_in_nI (n := 1) (by decide) (by decide)) (by decide) (hg k hkn).2 ?_
    refine zn_iadd F dL_isBest_45 ?_
    refine zn_istore F (i := 4) (lv' := [(4, .int (((20 * (s 7 k 0)) + (s 7 k 1)))), (3, .int ((Int32.ofNat k))), (2, .int dw), (1, .int bs), (0, .ref ((a 0)))]) dL_isBest_46 (by decide) rfl ?_
    refine zn_iload F (i := 4) (k := 0) dL_isBest_48 rfl ?_
    refine zn_iload_n F (i := 1) (k := 3) dL_isBest_50 rfl rfl ?_
    refine zn_icmp_ne F (tgt := 56) dL_isBest_51 (by decide) (fun _ => ?_) (fun z => absurd z (hb k hkn))
    refine zn_iload F (i := 4) (k := 0) dL_isBest_56 rfl ?_
    refine zn_iload_n F (i := 2) (k := 2) dL_isBest_58 rfl rfl ?_
    refine zn_icmp_ne F (tgt := 64) dL_isBest_59 (by decide) (fun h59 => ?_) (fun h59 => ?_)
    · refine zn_iinc F (i := 3) (k := 1) (v := Int32.ofNat (k + 1)) (lv' := [(3, .int (Int32.ofNat (k + 1))), (4, .int (((20 * (s 7 k 0)) + (s 7 k 1)))), (2, .int dw), (1, .int bs), (0, .ref ((a 0)))]) dL_isBest_64 rfl (zn1 k) (by decide) rfl ?_
      refine zn_goto F (tgt := 18) dL_isBest_67 (by decide) ?_
      exact zn_pick [0, 2, 3, 4] rfl (ih (k + 1) (by omega) fun i hi => by
        by_cases e : i = k
        · subst e
          exact h59
        · exact hf i (by omega))
    · exact zn_pick [2, 3, 4] rfl (kt)
set_option maxHeartbeats 4000000 in
set_option maxRecDepth 20000 in
theorem zt_isBest {b L : Nat} {xs : Nat → Int32} (hL : L < 2147483648) {ad : zR → Nat} {a : Nat → Nat} {x : Nat → Int32} {r : Nat → Nat} {g : Nat → Nat → Int32} {u : Nat → Nat} {v : Nat → Nat → Int32} {n e : Nat} {s t p : zM} (he : e < 200) (hab : a 2 = b) (h0 : a 1 = ad (0, 0, 0)) (hx : x 0 = Int32.ofNat e) (hn : n < 8) (h1 : x 1 = Int32.ofNat n) (hT : s_T n s) (hg : ∀ i, i < n → g i 0 = s 7 i 0 ∧ g i 1 = s 7 i 1) : zAs b L xs yL_isBest cL_isBest 5 (some .boolean) 9 184 220 2498 [.ref (a 0)] (fun cA => zto cA a x r g u v ++ zww cA ad s t p) (fun cA w ws => w = some (.int 1) ∧ ∃ p', ws = zto cA a (upd x 0 (Int32.ofNat (e + 1))) r g u v ++ zww cA ad s t p') := by
  obtain ⟨j, p', hj, hbp, hfb, hbest⟩ := s_bestPlace p hn hT.1.2.1 (s_T99 hT)
  generalize hbs : Int32.ofNat j = bs at *
  replace hbs := hbs.symm
  have hnb : ∀ i, i < n → ¬ 20 * s 7 i 0 + s 7 i 1 = bs := fun i hi z => hfb i hi (by rw [hbs]; exact (s_its (hT.2.1 i hi).1 (hT.2.1 i hi).2 hj).mp (by rw [← hbs]; exact z))
  have hd := z_dvb xs L (Int32.ofNat e) (n := 400) (by decide)
  rw [show (400 : Int32).toInt = 400 from by decide] at hd
  obtain ⟨⟨dj, hdj2⟩, hdj⟩ := zfin (a := z_dv xs L (Int32.ofNat e) 400) 0 400 (by decide) (by omega) (by omega)
  rw [Nat.zero_add] at hdj
  replace hdj : z_dv xs L (Int32.ofNat e) 400 = Int32.ofNat dj := hdj
  refine zAs_of (by decide) (Nat.le_of_ble_eq_true rfl) fun X F hX hr => ?_
  show zN X _ _ _ _ _ 5 0 [(0, .ref (a 0))] [] (zto (zcA X) a x r g u v ++ zww (zcA X) ad s t p) 0 0
  refine zn_aload_n F (i := 0) (k := 0) dL_isBest_0 rfl rfl ?_
  refine zn_get F (j := 0) (v := .ref ((ad (0, 0, 0)))) dL_isBest_1 yfRL_14 zCl_9 rfl (by show some (Value.ref (a 1)) = _; rw [h0]) ?_
  refine zn_perm List.perm_append_comm ?_
  refine zn_callV F (h0 := ad (0, 0, 0)) (as := []) (st := []) (j0 := 0) (zx_bestPlace ad (hbp zm0 t)) dL_isBest_4 ycRL_67 yyyX9_bestPlace rfl (wsB := zto (zcA X) a x r g u v) rfl (ci := 8) rfl rfl rfl (Nat.le_of_ble_eq_true rfl) (by omega) (by omega) (by omega) (by omega) fun w1 w2 hB => ?_
  obtain ⟨rfl, rfl⟩ := hB
  refine zn_perm List.perm_append_comm ?_
  refine zn_istore_n F (i := 1) (lv' := [(1, .int bs), (0, .ref ((a 0)))]) dL_isBest_7 rfl (by decide) rfl ?_
  refine zn_aload_n F (i := 0) (k := 1) dL_isBest_8 rfl rfl ?_
  refine zn_sipush F (v := 400) dL_isBest_9 (by decide) ?_
  refine zn_callVs F (h0 := a 0) (as := [.int 400]) (st := []) (j0 := 0) hX (zt_drawN hL (e := e) he hab hx (n := 400) (by decide)) dL_isBest_12 ycRL_26 yyyX10_draw rfl (wsB := zww (zcA X) ad s t p') rfl (ci := 9) rfl rfl rfl (Nat.le_of_ble_eq_true rfl) (by omega) (by omega) (by omega) (by omega) fun w1 w2 hB => ?_
  obtain ⟨rfl, rfl⟩ := hB
  refine zn_istore_n F (i := 2) (lv' := [(2, .int (z_dv xs L (Int32.ofNat e) 400)), (1, .int bs), (0, .ref ((a 0)))]) dL_isBest_15 rfl (by decide) rfl ?_
  refine zn_iconst F (v := 0) dL_isBest_16 (by decide) ?_
  refine zn_istore_n F (i := 3) (lv' := [(3, .int 0), (2, .int (z_dv xs L (Int32.ofNat e) 400)), (1, .int bs), (0, .ref ((a 0)))]) dL_isBest_17 rfl (by decide) rfl ?_
  generalize hdw : z_dv xs L (Int32.ofNat e) 400 = dw at *
  refine zb_loop F hn (x := (upd x 0 (Int32.ofNat (e + 1)))) (s := s) (dw := dw) (bs := bs) h1 hg hnb ?_ (fun hnd => ?_) n 0 (by omega) (fun i hi => absurd hi (Nat.not_lt_zero i))
  · refine zn_iconst F (v := 1) dL_isBest_62 (by decide) ?_
    exact zn_zreturn F hr dL_isBest_63 rfl ⟨rfl, p', rfl⟩ (by omega) (by omega)
  · have hfd : s_free n s (dw / 20) (dw % 20) := fun i hi z => hnd i hi (by rw [hdj]; exact (s_its (hT.2.1 i hi).1 (hT.2.1 i hi).2 hdj2).mpr (by rw [← hdj]; exact z))
    have hmx := hbest dj hdj2 (by rw [← hdj]; exact hfd)
    rw [← hdj] at hmx
    have hmb := zt_made (a := a) (x := (upd x 0 (Int32.ofNat (e + 1)))) (r := r) (g := g) (u := u) (v := v) (s := s) hj hbs hn h1 hT hg hfb
    have hmd := zt_made (a := a) (x := (upd x 0 (Int32.ofNat (e + 1)))) (r := r) (g := g) (u := u) (v := v) (s := s) hdj2 hdj hn h1 hT hg hfd
    generalize s_P s n (bs / 20) (bs % 20) = Pb at hmx hmb
    generalize s_P s n (dw / 20) (dw % 20) = Pd at hmx hmd
    obtain ⟨m1, m2⟩ := hmx
    clear hbest hbp hfb hfd hnd hnb hX
    refine zn_aload_n F (i := 0) (k := 2) dL_isBest_70 rfl rfl ?_
    refine zn_iload_n F (i := 1) (k := 1) dL_isBest_71 rfl rfl ?_
    refine zn_callS F (as := [.ref (a 0), .int bs]) (st := []) (hmb) dL_isBest_72 ycRL_75 yyyL_made rfl (wsB := zww (zcA X) ad s t p') rfl rfl (Nat.le_of_ble_eq_true rfl) (by omega) (by omega) (by omega) (by omega) fun w1 w2 hB => ?_
    obtain ⟨rfl, rfl⟩ := hB
    refine zn_istore_n F (i := 3) (lv' := [(3, .int Pb), (2, .int dw), (1, .int bs), (0, .ref ((a 0)))]) dL_isBest_75 rfl (by decide) rfl ?_
    refine zn_aload_n F (i := 0) (k := 3) dL_isBest_76 rfl rfl ?_
    refine zn_iload_n F (i := 2) (k := 1) dL_isBest_77 rfl rfl ?_
    refine zn_callS F (as := [.ref (a 0), .int dw]) (st := []) (hmd) dL_isBest_78 ycRL_75 yyyL_made rfl (wsB := zww (zcA X) ad s t p') rfl rfl (Nat.le_of_ble_eq_true rfl) (by omega) (by omega) (by omega) (by omega) fun w1 w2 hB => ?_
    obtain ⟨rfl, rfl⟩ := hB
    refine zn_istore F (i := 4) (lv' := [(4, .int Pd), (3, .int Pb), (2, .int dw), (1, .int bs), (0, .ref ((a 0)))]) dL_isBest_81 (by decide) rfl ?_
    refine zn_iload_n F (i := 3) (k := 1) dL_isBest_83 rfl rfl ?_
    refine zn_iload F (i := 4) (k := 0) dL_isBest_84 rfl ?_
    refine zn_icmp_gt F (tgt := 100) dL_isBest_86 (by decide) (fun h86 => ?_) (fun h86 => ?_)
    · refine zn_iconst F (v := 1) dL_isBest_100 (by decide) ?_
      refine zn_goto F (tgt := 105) dL_isBest_101 (by decide) ?_
      exact zn_zreturn F hr dL_isBest_105 rfl ⟨rfl, p', rfl⟩ (by omega) (by omega)
    · refine zn_iload_n F (i := 3) (k := 1) dL_isBest_89 rfl rfl ?_
      refine zn_iload F (i := 4) (k := 0) dL_isBest_90 rfl ?_
      refine zn_icmp_ne F (tgt := 104) dL_isBest_92 (by decide) (fun z => absurd (show Pb = Pd from Int32.toInt_inj.mp (by rw [zlt] at h86; omega)) z) (fun _ => ?_)
      refine zn_iload_n F (i := 1) (k := 3) dL_isBest_95 rfl rfl ?_
      refine zn_iload_n F (i := 2) (k := 2) dL_isBest_96 rfl rfl ?_
      refine zn_icmp_gt F (tgt := 104) dL_isBest_97 (by decide) (fun z => absurd (m2 (by rw [hbs, hdj, zlt, zon (by omega), zon (by omega)] at z; omega)) (by rw [zlt] at h86; omega)) (fun _ => ?_)
      refine zn_iconst F (v := 1) dL_isBest_100 (by decide) ?_
      refine zn_goto F (tgt := 105) dL_isBest_101 (by decide) ?_
      exact zn_zreturn F hr dL_isBest_105 rfl ⟨rfl, p', rfl⟩ (by omega) (by omega)
