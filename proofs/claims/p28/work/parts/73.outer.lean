/-! ===== the law: its outer loop ===== -/
theorem zpX {A B C D : va_W} : ((C ++ D) ++ (A ++ B)).Perm (A ++ (C ++ (B ++ D))) := by
  refine List.perm_append_comm.trans ?_
  rw [List.append_assoc]
  refine List.Perm.append_left A ?_
  rw [← List.append_assoc, ← List.append_assoc]
  exact List.Perm.append_right D List.perm_append_comm
theorem knRL_9 : Cond.classLink RL 9 RX10 ∈ zTg ∧ Cond.instantiable RX10 20 ∈ zTg ∧ Cond.initialized RX10 ∈ zTg := ⟨zm_f 425 (by decide +kernel) rfl, zm_f 426 (by decide +kernel) rfl, zm_f 20 (by decide +kernel) rfl⟩
theorem kiRL_11 : Cond.methodLink RL 11 yX10_init ∈ zTg ∧ Cond.instanceMethod yX10_init ∈ zTg ∧ Cond.initialized yX10_init.cls ∈ zTg ∧ Cond.code yX10_init cX10_init 3 none ∈ zTg := ⟨zm_f 427 (by decide +kernel) rfl, zm_f 428 (by decide +kernel) rfl, zm_f 20 (by decide +kernel) rfl, zm_f 429 (by decide +kernel) rfl⟩
theorem kyX10_init : yX10_init.name = "<init>" ∧ yX10_init.cls ≠ "java/lang/invoke/MethodHandle" ∧ yX10_init.cls ≠ "java/lang/invoke/VarHandle" ∧ (parseMethodDescriptor yX10_init.desc).map (fun d => d.parameters.length) = some 2 := by decide +kernel
theorem ydX10 : ∀ j, j < 20 → defaultValue (tyX10 j) = vp_V [.null, .null, .int 0, .null, .null, .null, .null, .int 0, .int 0, .int 0, .int 0, .int 0, .int 0, .int 0, .int 0, .int 0, .int 0, .int 0, .int 0, .int 0] j := by
  intro j hj
  rcases (show j = 0 ∨ j = 1 ∨ j = 2 ∨ j = 3 ∨ j = 4 ∨ j = 5 ∨ j = 6 ∨ j = 7 ∨ j = 8 ∨ j = 9 ∨ j = 10 ∨ j = 11 ∨ j = 12 ∨ j = 13 ∨ j = 14 ∨ j = 15 ∨ j = 16 ∨ j = 17 ∨ j = 18 ∨ j = 19 by omega) with rfl | rfl | rfl | rfl | rfl | rfl | rfl | rfl | rfl | rfl | rfl | rfl | rfl | rfl | rfl | rfl | rfl | rfl | rfl | rfl <;> rfl
theorem ycRL_18 : Cond.methodLink RL 18 yX10_found ∈ zTg ∧ Cond.instanceMethod yX10_found ∈ zTg ∧ Cond.selects "WakeBanksLaw$Told" yX10_found yX10_found ∈ zTg ∧ Cond.initialized "WakeBanksLaw$Told" ∈ zTg ∧ Cond.code yX10_found cX10_found 3 (some .boolean) ∈ zTg := ⟨zm_f 784 (by decide +kernel) rfl, zm_f 785 (by decide +kernel) rfl, zm_f 786 (by decide +kernel) rfl, zm_f 20 (by decide +kernel) rfl, zm_f 787 (by decide +kernel) rfl⟩
theorem yyyX10_found : yX10_found.cls = "WakeBanksLaw$Told" ∧ yX10_found.cls ≠ "java/lang/invoke/MethodHandle" ∧ yX10_found.cls ≠ "java/lang/invoke/VarHandle" ∧ (parseMethodDescriptor yX10_found.desc).map (fun d => d.parameters.length) = some 1 := by decide +kernel
set_option maxHeartbeats 4000000 in
set_option maxRecDepth 20000 in
theorem zl_7 {X : zX} (F : zLr X cL_law 19 RL) {b L : Nat} {xs : Nat → Int32} (hX : zScr X b L xs) (hL : L < 2147483648) {E : Nat} {tm : Int32} {mc ms fr lo ck sk : Nat} {B : State → Prop} (hE : 31 * tm + 7 = Int32.ofNat E) (hE2 : E ≤ 60) (hroom : ck + 2272 ≤ mc ∧ sk + 25580 ≤ ms ∧ 12 ≤ fr ∧ 300 ≤ lo) (kk : zN X mc ms fr lo B 19 508 [(0, .ref b), (1, .int tm)] [] [] (ck + 2272) (sk + 25580)) : zN X mc ms fr lo B 19 7 [(0, .ref b), (1, .int tm)] [] [] ck sk := by
  obtain ⟨hT, hle, h1le⟩ := z_fi_T xs L E 4 (Nat.le_refl 4)
  obtain ⟨Q, hQ⟩ : ∃ Q, z_fi xs L E 4 = Q := ⟨_, rfl⟩
  rw [hQ] at hT hle h1le
  refine zn_new F (ci := 9) (N := 20) (fs := [.null, .null, .int 0, .null, .null, .null, .null, .int 0, .int 0, .int 0, .int 0, .int 0, .int 0, .int 0, .int 0, .int 0, .int 0, .int 0, .int 0, .int 0]) dL_law_7 rfl zCl_9 tyX10_ok knRL_9 ydX10 (by omega) (by omega) fun q0 => ?_
  refine zn_dup F dL_law_10 rfl ?_
  refine zn_aload_n F (i := 0) (k := 0) dL_law_11 rfl rfl ?_
  refine zn_bipush F (v := 31) dL_law_12 (by decide) ?_
  refine zn_iload_n F (i := 1) (k := 1) dL_law_14 rfl rfl ?_
  refine zn_imul F dL_law_15 ?_
  refine zn_bipush F (v := 7) dL_law_16 (by decide) ?_
  refine zn_iadd F dL_law_18 ?_
  refine zn_callI (as := [.ref b, .int (31 * tm + 7)]) (st := [.ref q0]) (ws0 := []) F (zcTold b (31 * tm + 7)) dL_law_19 kiRL_11 kyX10_init rfl rfl rfl (Nat.le_of_ble_eq_true rfl) (by omega) (by omega) (by omega) (by omega) fun w1 hB => ?_
  obtain ⟨ad, a, x, r, g, u, v, rfl, h0, hab, hx, h1, h2, rfl⟩ := hB
  refine zn_ws (List.nil_append _) ?_
  refine zn_astore_n F (i := 2) (lv' := [(2, .ref (a 0)), (0, .ref b), (1, .int tm)]) dL_law_22 rfl (by decide) rfl ?_
  refine zn_new F (ci := 9) (N := 20) (fs := [.null, .null, .int 0, .null, .null, .null, .null, .int 0, .int 0, .int 0, .int 0, .int 0, .int 0, .int 0, .int 0, .int 0, .int 0, .int 0, .int 0, .int 0]) dL_law_23 rfl zCl_9 tyX10_ok knRL_9 ydX10 (by omega) (by omega) fun q0 => ?_
  refine zn_dup F dL_law_26 rfl ?_
  refine zn_aload_n F (i := 0) (k := 1) dL_law_27 rfl rfl ?_
  refine zn_bipush F (v := 31) dL_law_28 (by decide) ?_
  refine zn_iload_n F (i := 1) (k := 2) dL_law_30 rfl rfl ?_
  refine zn_imul F dL_law_31 ?_
  refine zn_bipush F (v := 7) dL_law_32 (by decide) ?_
  refine zn_iadd F dL_law_34 ?_
  refine zn_callI (as := [.ref b, .int (31 * tm + 7)]) (st := [.ref q0]) (ws0 := zto (zcA X) a x r g u v ++ zww (zcA X) ad zfr0 zfr0 zm0) F (zcTold b (31 * tm + 7)) dL_law_35 kiRL_11 kyX10_init rfl rfl rfl (Nat.le_of_ble_eq_true rfl) (by omega) (by omega) (by omega) (by omega) fun w1 hB => ?_
  obtain ⟨ad', a', x', r', g', u', v', rfl, h0', hab', hx', h1', h2', rfl⟩ := hB
  refine zn_astore_n F (i := 3) (lv' := [(3, .ref (a' 0)), (2, .ref (a 0)), (0, .ref b), (1, .int tm)]) dL_law_38 rfl (by decide) rfl ?_
  refine zn_aload_n F (i := 2) (k := 1) dL_law_39 rfl rfl ?_
  refine zn_get F (j := 0) (v := .ref (ad (0, 0, 0))) dL_law_40 yfRL_14 zCl_9 rfl (by show some (Value.ref (a 1)) = _; rw [h0]) ?_
  refine zn_astore F (i := 4) (lv' := [(4, .ref (ad (0, 0, 0))), (3, .ref (a' 0)), (2, .ref (a 0)), (0, .ref b), (1, .int tm)]) dL_law_43 (by decide) rfl ?_
  refine zn_aload_n F (i := 2) (k := 2) dL_law_45 rfl rfl ?_
  refine zn_iconst F (v := 4) dL_law_46 (by decide) ?_
  refine zn_callVs F (h0 := a 0) (as := [.int 4]) (st := []) (j0 := 0) hX (zt_found hL (e := E) (by omega) hab h0 (hx.trans hE) h1 h2) dL_law_47 ycRL_18 yyyX10_found rfl (wsB := zto (zcA X) a' x' r' g' u' v' ++ zww (zcA X) ad' zfr0 zfr0 zm0) rfl (ci := 9) rfl rfl rfl (Nat.le_of_ble_eq_true rfl) (by omega) (by omega) (by omega) (by omega) fun w1 w2 hB => ?_
  obtain ⟨rfl, x2, r2, g2, v2, q0, q1, -, -, hg, rfl⟩ := hB
  rw [hQ] at q1 hg
  rw [hQ]
  refine zn_if_eq F (tgt := 61) dL_law_50 (by decide) (fun z => absurd z (by decide)) (fun _ => ?_)
  refine zn_perm List.perm_append_comm ?_
  refine zn_aload_n F (i := 3) (k := 1) dL_law_53 rfl rfl ?_
  refine zn_iconst F (v := 4) dL_law_54 (by decide) ?_
  refine zn_callVs F (h0 := a' 0) (as := [.int 4]) (st := []) (j0 := 0) hX (zt_found hL (e := E) (by omega) hab' h0' (hx'.trans hE) h1' h2') dL_law_55 ycRL_18 yyyX10_found rfl (wsB := zto (zcA X) a x2 r2 g2 u v2 ++ zww (zcA X) ad Q.2 zfr0 zm0) rfl (ci := 9) rfl rfl rfl (Nat.le_of_ble_eq_true rfl) (by omega) (by omega) (by omega) (by omega) fun w1 w2 hB => ?_
  obtain ⟨rfl, x3, r3, g3, v3, -, -, -, -, -, rfl⟩ := hB
  rw [hQ]
  refine zn_if_ne F (tgt := 63) dL_law_58 (by decide) (fun _ => ?_) (fun z => absurd z (by decide))
  refine zn_iconst F (v := 0) dL_law_63 (by decide) ?_
  refine zn_istore F (i := 5) (lv' := [(5, .int 0), (4, .ref (ad (0, 0, 0))), (3, .ref (a' 0)), (2, .ref (a 0)), (0, .ref b), (1, .int tm)]) dL_law_64 (by decide) rfl ?_
  refine zn_perm zpX ?_
  refine zn_wid (ck' := (ck + 292) + 220 * 0) (sk' := (sk + 3098) + 2498 * 0) (by omega) (by omega) ?_
  refine zn_pick [4, 5, 3, 2, 1, 0] rfl (zl_66 F hX hL ⟨by omega, by omega, hroom.2.2⟩ hab h0 h0' ⟨h1le (by decide), hle⟩ ?_ 9 0 rfl x2 (E + 14) Q.2 zfr0 zfr0 zm0 q0 (by omega) q1 (s_B_Iv (by omega) hT.1) (s_B_K hT.1) (s_B_K hT.1) (fun _ => ⟨hT, hg⟩) (fun z => absurd z (by decide)))
  exact zn_wid (by omega) (by omega) kk
set_option maxHeartbeats 4000000 in
set_option maxRecDepth 20000 in
theorem zlc_law {X : zX} (F : zLr X cL_law 19 RL) {b L mc ms fr lo : Nat} {xs : Nat → Int32} {B : State → Prop} (hX : zScr X b L xs) (hL : L < 2147483648) (hr : 12 ≤ fr ∧ 300 ≤ lo ∧ 5000 ≤ mc ∧ 60000 ≤ ms) (T : zN X mc ms fr lo B 19 515 [] [.int 1] [] 5000 60000) : zN X mc ms fr lo B 19 0 [(0, .ref b)] [] [] 0 0 := by
  refine zn_iconst F (v := 0) dL_law_0 (by decide) ?_
  refine zn_istore_n F (i := 1) (lv' := [(1, .int 0), (0, .ref b)]) dL_law_1 rfl (by decide) rfl ?_
  refine zn_iload_n F (i := 1) (k := 0) dL_law_2 rfl rfl ?_
  refine zn_iconst F (v := 2) dL_law_3 (by decide) ?_
  refine zn_icmp_ge F (tgt := 514) dL_law_4 (by decide) (fun z => absurd z (by decide)) (fun _ => ?_)
  refine zn_pick [1, 0] rfl (zl_7 F hX hL (E := 7) (tm := 0) (by decide) (by decide) ⟨by omega, by omega, hr.1, hr.2.1⟩ ?_)
  refine zn_iinc F (i := 1) (k := 1) (v := 1) (lv' := [(1, .int 1), (0, .ref b)]) dL_law_508 rfl (by decide) (by decide) rfl ?_
  refine zn_goto F (tgt := 2) dL_law_511 (by decide) ?_
  refine zn_iload_n F (i := 1) (k := 0) dL_law_2 rfl rfl ?_
  refine zn_iconst F (v := 2) dL_law_3 (by decide) ?_
  refine zn_icmp_ge F (tgt := 514) dL_law_4 (by decide) (fun z => absurd z (by decide)) (fun _ => ?_)
  refine zn_pick [1, 0] rfl (zl_7 F hX hL (E := 38) (tm := 1) (by decide) (by decide) ⟨by omega, by omega, hr.1, hr.2.1⟩ ?_)
  refine zn_iinc F (i := 1) (k := 1) (v := 2) (lv' := [(1, .int 2), (0, .ref b)]) dL_law_508 rfl (by decide) (by decide) rfl ?_
  refine zn_goto F (tgt := 2) dL_law_511 (by decide) ?_
  refine zn_iload_n F (i := 1) (k := 0) dL_law_2 rfl rfl ?_
  refine zn_iconst F (v := 2) dL_law_3 (by decide) ?_
  refine zn_icmp_ge F (tgt := 514) dL_law_4 (by decide) (fun _ => ?_) (fun z => absurd (by decide) z)
  refine zn_iconst F (v := 1) dL_law_514 (by decide) ?_
  exact zn_pick [] rfl (zn_wid (by omega) (by omega) T)
