/-! ===== the law: its loop's parts ===== -/
theorem zpB {A C B D : va_W} : (A ++ (C ++ (B ++ D))).Perm (B ++ (A ++ (C ++ D))) := by
  have h1 : (C ++ (B ++ D)).Perm (B ++ (C ++ D)) := by
    rw [← List.append_assoc, ← List.append_assoc]
    exact List.Perm.append_right D List.perm_append_comm
  refine (List.Perm.append_left A h1).trans ?_
  have h2 : ((A ++ B) ++ (C ++ D)).Perm ((B ++ A) ++ (C ++ D)) := List.Perm.append_right _ List.perm_append_comm
  rw [List.append_assoc, List.append_assoc] at h2
  exact h2
theorem zpD {A C B D : va_W} : (A ++ (C ++ (B ++ D))).Perm (D ++ (A ++ (C ++ B))) := by
  have h1 : (B ++ D).Perm (D ++ B) := List.perm_append_comm
  exact (List.Perm.append_left A (List.Perm.append_left C h1)).trans zpB
theorem ycRL_58 : Cond.methodLink RL 58 yX9_turn ∈ zTg ∧ Cond.instanceMethod yX9_turn ∈ zTg ∧ Cond.selects "WakeBanks" yX9_turn yX9_turn ∈ zTg ∧ Cond.initialized "WakeBanks" ∈ zTg ∧ Cond.code yX9_turn cX9_turn 5 (some .int) ∈ zTg := ⟨zm_f 273 (by decide +kernel) rfl, zm_f 274 (by decide +kernel) rfl, zm_f 275 (by decide +kernel) rfl, zm_f 21 (by decide +kernel) rfl, zm_f 276 (by decide +kernel) rfl⟩
theorem yyyX9_turn : yX9_turn.cls = "WakeBanks" ∧ yX9_turn.cls ≠ "java/lang/invoke/MethodHandle" ∧ yX9_turn.cls ≠ "java/lang/invoke/VarHandle" ∧ (parseMethodDescriptor yX9_turn.desc).map (fun d => d.parameters.length) = some 2 := by decide +kernel
theorem ypRL_48 : zFw RL 48 9 10 .int := ⟨_, rfl, by decide, zm_f 727 (by decide +kernel) rfl, rfl, by decide +kernel⟩
theorem ypRL_51 : zFw RL 51 9 11 .int := ⟨_, rfl, by decide, zm_f 728 (by decide +kernel) rfl, rfl, by decide +kernel⟩
set_option maxHeartbeats 4000000 in
set_option maxRecDepth 20000 in
theorem zl_398 {X : zX} (F : zLr X cL_law 19 RL) {b L : Nat} {xs : Nat → Int32} (hX : zScr X b L xs) (hL : L < 2147483648) {ad ad' : zR → Nat} {a a' : Nat → Nat} {x x' : Nat → Int32} {r r' : Nat → Nat} {g g' : Nat → Nat → Int32} {u u' : Nat → Nat} {v v' : Nat → Nat → Int32} {n wi e : Nat} {sc sp tm kn : Int32} {s t t' p p' : zM} {mc ms fr lo ck sk : Nat} {B : State → Prop} (hroom : ck ≤ mc ∧ sk ≤ ms ∧ 12 ≤ fr ∧ 300 ≤ lo) (hab : a 2 = b) (h0 : a 1 = ad (0, 0, 0)) (h0' : a' 1 = ad' (0, 0, 0)) (hx : x 0 = Int32.ofNat e) (he : e < 200) (hI : s_Iv n s) (hwi : wi < n) (hsc : 0 ≤ sc.toInt ∧ sc.toInt ≤ 7) (hsp : 0 ≤ sp.toInt ∧ sp.toInt ≤ 30)
    (kk : ∀ (x2 : Nat → Int32) (s2 : zM), x2 0 = Int32.ofNat (e + 1) → x2 1 = x 1 → x2 3 = sc → x2 4 = sp → zK (s_CP n) s s2 → s_Iv n s2 → s2 4 0 0 = sc → s2 4 0 1 = sp → s2 4 0 2 = 0 → s2 4 0 3 = 60 → s2 4 0 4 = 20000 → zN X mc ms fr lo B 19 502 [(0, .ref b), (1, .int tm), (2, .ref (a 0)), (3, .ref (a' 0)), (4, .ref (ad (0, 0, 0))), (5, .int kn)] [] (zto (zcA X) a x2 r g u v ++ (zto (zcA X) a' x' r' g' u' v' ++ (zww (zcA X) ad s2 t p ++ zww (zcA X) ad' s2 t' p'))) ck sk) : zN X mc ms fr lo B 19 398 [(0, .ref b), (1, .int tm), (2, .ref (a 0)), (3, .ref (a' 0)), (4, .ref (ad (0, 0, 0))), (5, .int kn), (6, .int (Int32.ofNat wi)), (7, .int sc), (8, .int sp)] [] (zto (zcA X) a x r g u v ++ (zto (zcA X) a' x' r' g' u' v' ++ (zww (zcA X) ad s t p ++ zww (zcA X) ad' s t' p'))) ck sk := by
  have h8 := hI.1.1
  have h5 := hI.1.2.1
  have hd := z_dvb xs L (Int32.ofNat e) (n := 5) (by decide)
  rw [show (5 : Int32).toInt = 5 from by decide] at hd
  have hxt : -2 ≤ (z_dv xs L (Int32.ofNat (e)) 5 - 2).toInt ∧ (z_dv xs L (Int32.ofNat (e)) 5 - 2).toInt ≤ 2 := by
    rw [zsub32 (by rw [z2i]; omega) (by rw [z2i]; omega), z2i]
    omega
  have hI1 := s_wx_Iv (a := sc) (b := sp) (c := 0) (d := 60) (e := 20000) (s_turn_Iv (w := wi) hI hxt) (by decide)
  have k1 : zK (s_CP n) s (s_wx sc sp 0 60 20000 (zu s 7 wi 7 (z_dv xs L (Int32.ofNat (e)) 5 - 2))) := (s_turn_K hwi s (z_dv xs L (Int32.ofNat (e)) 5 - 2)).tr (s_wx_K n sc sp 0 60 20000 _)
  obtain ⟨q1, eq1, -, kq1, Iq1⟩ := s_passHour hI1
  obtain ⟨q2, eq2, -, kq2, hI2⟩ := s_passHour Iq1
  have hK : zK (s_CP n) s q2.2 := (k1.tr (kq1.mono (s_PHC n))).tr (kq2.mono (s_PHC n))
  have np : ∀ o, ¬ s_PH n 4 0 o := fun o z => by unfold s_PH at z; omega
  have d0 : ∀ o, q1.2 4 0 o = s_wx sc sp 0 60 20000 (zu s 7 wi 7 (z_dv xs L (Int32.ofNat (e)) 5 - 2)) 4 0 o := fun o => kq1 4 0 o (np o)
  have dd : ∀ o, q2.2 4 0 o = q1.2 4 0 o := fun o => kq2 4 0 o (np o)
  have e0 : q2.2 4 0 0 = sc := (dd 0).trans (d0 0)
  have e1 : q2.2 4 0 1 = sp := (dd 1).trans (d0 1)
  have e2 : q2.2 4 0 2 = 0 := (dd 2).trans (d0 2)
  have e3 : q2.2 4 0 3 = 60 := (dd 3).trans (d0 3)
  have e4 : q2.2 4 0 4 = 20000 := (dd 4).trans (d0 4)
  have hb2 : ∀ s0 z2 z3, fWB_blow 2 sc sp 0 60 20000 s0 (zu s 7 wi 7 (z_dv xs L (Int32.ofNat (e)) 5 - 2)) z2 z3 = some (.inl (0 + q1.1 + q2.1, q2.2)) := fun s0 z2 z3 => by
    have h := s_blow (h := 2) (a := sc) (b := sp) (c := 0) (d := 60) (e := 20000) (s0 := s0) (s := (zu s 7 wi 7 (z_dv xs L (Int32.ofNat (e)) 5 - 2))) (s2 := z2) (s3 := z3) (by decide) (by decide) hsc hsp (by decide) (by decide) (by decide)
    rw [show s_F 2 0 (s_wx sc sp 0 60 20000 (zu s 7 wi 7 (z_dv xs L (Int32.ofNat (e)) 5 - 2))) = some (0 + q1.1 + q2.1, q2.2) from by show Option.bind (fSe_passHour _) _ = _; rw [eq1, Option.bind_some]; show Option.bind (fSe_passHour _) _ = _; rw [eq2, Option.bind_some]; rfl, Option.bind_some] at h
    exact h
  have hb1 : ∀ s0 z2 z3, fWB_blow 1 sc sp 0 60 20000 s0 (zu s 7 wi 7 (z_dv xs L (Int32.ofNat (e)) 5 - 2)) z2 z3 = some (.inl (0 + q1.1, q1.2)) := fun s0 z2 z3 => by
    have h := s_blow (h := 1) (a := sc) (b := sp) (c := 0) (d := 60) (e := 20000) (s0 := s0) (s := (zu s 7 wi 7 (z_dv xs L (Int32.ofNat (e)) 5 - 2))) (s2 := z2) (s3 := z3) (by decide) (by decide) hsc hsp (by decide) (by decide) (by decide)
    rw [s_F1, eq1, Option.bind_some, Option.bind_some] at h
    exact h
  have hb3 : ∀ s0 z2 z3, fWB_blow 1 sc sp 0 60 20000 s0 q1.2 z2 z3 = some (.inl (0 + q2.1, q2.2)) := fun s0 z2 z3 => by
    have h := s_blow (h := 1) (a := sc) (b := sp) (c := 0) (d := 60) (e := 20000) (s0 := s0) (s := q1.2) (s2 := z2) (s3 := z3) (by decide) (by decide) hsc hsp (by decide) (by decide) (by decide)
    rw [s_wx_id (show q1.2 4 0 0 = sc from d0 0) (show q1.2 4 0 1 = sp from d0 1) (show q1.2 4 0 2 = 0 from d0 2) (show q1.2 4 0 3 = 60 from d0 3) (show q1.2 4 0 4 = 20000 from d0 4), s_F1, eq2, Option.bind_some, Option.bind_some] at h
    exact h
  refine zn_aload_n F (i := 2) (k := 2) dL_law_398 rfl rfl ?_
  refine zn_iconst F (v := 5) dL_law_399 (by decide) ?_
  refine zn_callVs F (h0 := a 0) (as := [.int 5]) (st := []) (j0 := 0) hX (zt_drawN hL (e := e) (by omega) hab hx (n := 5) (by decide)) dL_law_400 ycRL_26 yyyX10_draw rfl (wsB := zto (zcA X) a' x' r' g' u' v' ++ (zww (zcA X) ad s t p ++ zww (zcA X) ad' s t' p')) rfl (ci := 9) rfl rfl rfl (Nat.le_of_ble_eq_true rfl) (by omega) (by omega) (by omega) (by omega) fun w1 w2 hB => ?_
  obtain ⟨rfl, rfl⟩ := hB
  refine zn_iconst F (v := 2) dL_law_403 (by decide) ?_
  refine zn_isub F dL_law_404 ?_
  refine zn_istore F (i := 14) (lv' := [(14, .int ((z_dv xs L (Int32.ofNat (e)) 5 - 2))), (0, .ref b), (1, .int tm), (2, .ref ((a 0))), (3, .ref ((a' 0))), (4, .ref ((ad (0, 0, 0)))), (5, .int kn), (6, .int ((Int32.ofNat wi))), (7, .int sc), (8, .int sp)]) dL_law_405 (by decide) rfl ?_
  refine zn_aload F (i := 4) (k := 5) dL_law_407 rfl ?_
  refine zn_iload F (i := 6) (k := 7) dL_law_409 rfl ?_
  refine zn_iload F (i := 14) (k := 0) dL_law_411 rfl ?_
  refine zn_perm zpB ?_
  refine zn_callV F (h0 := ad (0, 0, 0)) (as := [.int ((Int32.ofNat wi)), .int ((z_dv xs L (Int32.ofNat (e)) 5 - 2))]) (st := []) (j0 := 0) (zx_turn ad (s_turn (s0 := zm0) (s2 := t) (s3 := p) h8 h5 hwi hxt)) dL_law_413 ycRL_58 yyyX9_turn rfl (wsB := zto (zcA X) a (upd x 0 (Int32.ofNat (e + 1))) r g u v ++ (zto (zcA X) a' x' r' g' u' v' ++ zww (zcA X) ad' s t' p')) rfl (ci := 8) rfl rfl rfl (Nat.le_of_ble_eq_true rfl) (by omega) (by omega) (by omega) (by omega) fun w1 w2 hB => ?_
  obtain ⟨rfl, rfl⟩ := hB
  refine zn_perm zpB.symm ?_
  refine zn_aload_n F (i := 3) (k := 4) dL_law_416 rfl rfl ?_
  refine zn_get F (j := 14) (v := .ref ((ad' (0, 0, 0)))) dL_law_417 yfRL_14 zCl_9 rfl (by show some (Value.ref (a' 1)) = _; rw [h0']) ?_
  refine zn_iload F (i := 6) (k := 7) dL_law_420 rfl ?_
  refine zn_iload F (i := 14) (k := 0) dL_law_422 rfl ?_
  refine zn_perm zpD ?_
  refine zn_callV F (h0 := ad' (0, 0, 0)) (as := [.int ((Int32.ofNat wi)), .int ((z_dv xs L (Int32.ofNat (e)) 5 - 2))]) (st := [.int (s 7 wi 7)]) (j0 := 0) (zx_turn ad' (s_turn (s0 := zm0) (s2 := t') (s3 := p') h8 h5 hwi hxt)) dL_law_424 ycRL_58 yyyX9_turn rfl (wsB := zto (zcA X) a (upd x 0 (Int32.ofNat (e + 1))) r g u v ++ (zto (zcA X) a' x' r' g' u' v' ++ zww (zcA X) ad (zu s 7 wi 7 (z_dv xs L (Int32.ofNat (e)) 5 - 2)) t p)) rfl (ci := 8) rfl rfl rfl (Nat.le_of_ble_eq_true rfl) (by omega) (by omega) (by omega) (by omega) fun w1 w2 hB => ?_
  obtain ⟨rfl, rfl⟩ := hB
  refine zn_perm zpD.symm ?_
  refine zn_icmp_eq F (tgt := 432) dL_law_427 (by decide) (fun _ => ?_) (fun z => absurd rfl z)
  refine zn_aload_n F (i := 2) (k := 3) dL_law_432 rfl rfl ?_
  refine zn_iload F (i := 7) (k := 8) dL_law_433 rfl ?_
  refine zn_put F (j := 0) (ws' := zto (zcA X) a (upd (upd x 0 (Int32.ofNat (e + 1))) 3 sc) r g u v ++ (zto (zcA X) a' x' r' g' u' v' ++ (zww (zcA X) ad (zu s 7 wi 7 (z_dv xs L (Int32.ofNat (e)) 5 - 2)) t p ++ zww (zcA X) ad' (zu s 7 wi 7 (z_dv xs L (Int32.ofNat (e)) 5 - 2)) t' p'))) dL_law_435 ypRL_48 zCl_9 rfl (zlb rfl) rfl ?_
  refine zn_aload_n F (i := 2) (k := 3) dL_law_438 rfl rfl ?_
  refine zn_iload F (i := 8) (k := 9) dL_law_439 rfl ?_
  refine zn_put F (j := 0) (ws' := zto (zcA X) a (upd (upd (upd x 0 (Int32.ofNat (e + 1))) 3 sc) 4 sp) r g u v ++ (zto (zcA X) a' x' r' g' u' v' ++ (zww (zcA X) ad (zu s 7 wi 7 (z_dv xs L (Int32.ofNat (e)) 5 - 2)) t p ++ zww (zcA X) ad' (zu s 7 wi 7 (z_dv xs L (Int32.ofNat (e)) 5 - 2)) t' p'))) dL_law_441 ypRL_51 zCl_9 rfl (zlb rfl) rfl ?_
  refine zn_aload F (i := 4) (k := 5) dL_law_444 rfl ?_
  refine zn_iconst F (v := 2) dL_law_446 (by decide) ?_
  refine zn_iload F (i := 7) (k := 8) dL_law_447 rfl ?_
  refine zn_iload F (i := 8) (k := 9) dL_law_449 rfl ?_
  refine zn_iconst F (v := 0) dL_law_451 (by decide) ?_
  refine zn_bipush F (v := 60) dL_law_452 (by decide) ?_
  refine zn_sipush F (v := 20000) dL_law_454 (by decide) ?_
  refine zn_perm zpB ?_
  refine zn_callV F (h0 := ad (0, 0, 0)) (as := [.int (2), .int (sc), .int (sp), .int (0), .int (60), .int (20000)]) (st := []) (j0 := 0) (zx_blow ad (hb2 zm0 t p)) dL_law_457 ycRL_54 yyyX9_blow rfl (wsB := zto (zcA X) a (upd (upd (upd x 0 (Int32.ofNat (e + 1))) 3 sc) 4 sp) r g u v ++ (zto (zcA X) a' x' r' g' u' v' ++ zww (zcA X) ad' (zu s 7 wi 7 (z_dv xs L (Int32.ofNat (e)) 5 - 2)) t' p')) rfl (ci := 8) rfl rfl rfl (Nat.le_of_ble_eq_true rfl) (by omega) (by omega) (by omega) (by omega) fun w1 w2 hB => ?_
  obtain ⟨rfl, rfl⟩ := hB
  refine zn_perm zpB.symm ?_
  refine zn_aload_n F (i := 3) (k := 4) dL_law_460 rfl rfl ?_
  refine zn_get F (j := 14) (v := .ref ((ad' (0, 0, 0)))) dL_law_461 yfRL_14 zCl_9 rfl (by show some (Value.ref (a' 1)) = _; rw [h0']) ?_
  refine zn_iconst F (v := 1) dL_law_464 (by decide) ?_
  refine zn_iload F (i := 7) (k := 8) dL_law_465 rfl ?_
  refine zn_iload F (i := 8) (k := 9) dL_law_467 rfl ?_
  refine zn_iconst F (v := 0) dL_law_469 (by decide) ?_
  refine zn_bipush F (v := 60) dL_law_470 (by decide) ?_
  refine zn_sipush F (v := 20000) dL_law_472 (by decide) ?_
  refine zn_perm zpD ?_
  refine zn_callV F (h0 := ad' (0, 0, 0)) (as := [.int (1), .int (sc), .int (sp), .int (0), .int (60), .int (20000)]) (st := [.int (0 + q1.1 + q2.1)]) (j0 := 0) (zx_blow ad' (hb1 zm0 t' p')) dL_law_475 ycRL_54 yyyX9_blow rfl (wsB := zto (zcA X) a (upd (upd (upd x 0 (Int32.ofNat (e + 1))) 3 sc) 4 sp) r g u v ++ (zto (zcA X) a' x' r' g' u' v' ++ zww (zcA X) ad q2.2 t p)) rfl (ci := 8) rfl rfl rfl (Nat.le_of_ble_eq_true rfl) (by omega) (by omega) (by omega) (by omega) fun w1 w2 hB => ?_
  obtain ⟨rfl, rfl⟩ := hB
  refine zn_perm zpD.symm ?_
  refine zn_aload_n F (i := 3) (k := 4) dL_law_478 rfl rfl ?_
  refine zn_get F (j := 14) (v := .ref ((ad' (0, 0, 0)))) dL_law_479 yfRL_14 zCl_9 rfl (by show some (Value.ref (a' 1)) = _; rw [h0']) ?_
  refine zn_iconst F (v := 1) dL_law_482 (by decide) ?_
  refine zn_iload F (i := 7) (k := 8) dL_law_483 rfl ?_
  refine zn_iload F (i := 8) (k := 9) dL_law_485 rfl ?_
  refine zn_iconst F (v := 0) dL_law_487 (by decide) ?_
  refine zn_bipush F (v := 60) dL_law_488 (by decide) ?_
  refine zn_sipush F (v := 20000) dL_law_490 (by decide) ?_
  refine zn_perm zpD ?_
  refine zn_callV F (h0 := ad' (0, 0, 0)) (as := [.int (1), .int (sc), .int (sp), .int (0), .int (60), .int (20000)]) (st := [.int (0 + q1.1), .int (0 + q1.1 + q2.1)]) (j0 := 0) (zx_blow ad' (hb3 zm0 t' p')) dL_law_493 ycRL_54 yyyX9_blow rfl (wsB := zto (zcA X) a (upd (upd (upd x 0 (Int32.ofNat (e + 1))) 3 sc) 4 sp) r g u v ++ (zto (zcA X) a' x' r' g' u' v' ++ zww (zcA X) ad q2.2 t p)) rfl (ci := 8) rfl rfl rfl (Nat.le_of_ble_eq_true rfl) (by omega) (by omega) (by omega) (by omega) fun w1 w2 hB => ?_
  obtain ⟨rfl, rfl⟩ := hB
  refine zn_perm zpD.symm ?_
  refine zn_iadd F dL_law_496 ?_
  refine zn_icmp_eq F (tgt := 502) dL_law_497 (by decide) (fun _ => ?_) (fun z => absurd (by rw [Int32.zero_add, Int32.zero_add]) z)
  exact zn_pick [1, 2, 3, 4, 5, 6] rfl (kk ((upd (upd (upd x 0 (Int32.ofNat (e + 1))) 3 sc) 4 sp)) q2.2 rfl rfl rfl rfl hK hI2 e0 e1 e2 e3 e4)
