/-! a turn that is best -/
theorem ycRL_36 : Cond.methodLink RL 36 yX9_wouldDeliver ∈ zTg ∧ Cond.instanceMethod yX9_wouldDeliver ∈ zTg ∧ Cond.selects "WakeBanks" yX9_wouldDeliver yX9_wouldDeliver ∈ zTg ∧ Cond.initialized "WakeBanks" ∈ zTg ∧ Cond.code yX9_wouldDeliver cX9_wouldDeliver 2 (some .int) ∈ zTg := ⟨zm_f 300 (by decide +kernel) rfl, zm_f 301 (by decide +kernel) rfl, zm_f 302 (by decide +kernel) rfl, zm_f 21 (by decide +kernel) rfl, zm_f 303 (by decide +kernel) rfl⟩
theorem yyyX9_wouldDeliver : yX9_wouldDeliver.cls = "WakeBanks" ∧ yX9_wouldDeliver.cls ≠ "java/lang/invoke/MethodHandle" ∧ yX9_wouldDeliver.cls ≠ "java/lang/invoke/VarHandle" ∧ (parseMethodDescriptor yX9_wouldDeliver.desc).map (fun d => d.parameters.length) = some 1 := by decide +kernel
theorem ymRL_62 : Cond.methodLink RL 62 Lib.Math.abs.name ∈ zTg ∧ Cond.static Lib.Math.abs.name ∈ zTg ∧ Cond.initialized "java/lang/Math" ∈ zTg ∧ Cond.code Lib.Math.abs.name Lib.Math.abs.code 1 (some .int) ∈ zTg := ⟨zm_f 871 (by decide +kernel) rfl, zm_f 231 (by decide +kernel) rfl, zm_f 37 (by decide +kernel) rfl, zm_f 232 (by decide +kernel) rfl⟩
def zab (x : Int32) : Int32 := if 0 ≤ x then x else 0 - x
theorem s_ah1 : ∀ i j : Fin 5, zab (s_X i) < zab (s_X j) → i < j := by decide
theorem s_ah2 : ∀ i j : Fin 5, s_X i = -s_X j → s_X i < s_X j → i < j := by decide
theorem s_Xb : ∀ i : Fin 5, -2 ≤ (s_X i).toInt ∧ (s_X i).toInt ≤ 2 := by decide
theorem s_Xof {x : Int32} (h : -2 ≤ x.toInt ∧ x.toInt ≤ 2) : ∃ i : Fin 5, x = s_X i := by
  rcases (show x.toInt = -2 ∨ x.toInt = -1 ∨ x.toInt = 0 ∨ x.toInt = 1 ∨ x.toInt = 2 by omega) with q | q | q | q | q
  · exact ⟨3, Int32.toInt_inj.mp q⟩
  · exact ⟨1, Int32.toInt_inj.mp q⟩
  · exact ⟨0, Int32.toInt_inj.mp q⟩
  · exact ⟨2, Int32.toInt_inj.mp q⟩
  · exact ⟨4, Int32.toInt_inj.mp q⟩
set_option maxHeartbeats 4000000 in
set_option maxRecDepth 20000 in
theorem zl_271 {X : zX} (F : zLr X cL_law 19 RL) {b L : Nat} {xs : Nat → Int32} (hX : zScr X b L xs) (hL : L < 2147483648) {ad ad' : zR → Nat} {a a' : Nat → Nat} {x x' : Nat → Int32} {r r' : Nat → Nat} {g g' : Nat → Nat → Int32} {u u' : Nat → Nat} {v v' : Nat → Nat → Int32} {n wi e : Nat} {sc sp tm kn bt : Int32} {s t t' p p' : zM} {mc ms fr lo ck sk : Nat} {B : State → Prop} (hroom : ck ≤ mc ∧ sk ≤ ms ∧ 12 ≤ fr ∧ 300 ≤ lo) (hab : a 2 = b) (h0 : a 1 = ad (0, 0, 0)) (h0' : a' 1 = ad' (0, 0, 0)) (hx : x 0 = Int32.ofNat e) (he : e < 200) (hI : s_Iv n s) (hwi : wi < n) (hbest : bt = s_best s wi) (hKt : zK (s_CP n) s t')
    (kk : ∀ (x2 : Nat → Int32) (e2 : Nat), x2 0 = Int32.ofNat e2 → e2 ≤ e + 1 → x2 1 = x 1 → x2 3 = x 3 → x2 4 = x 4 → ∀ t2, zK (s_CP n) s t2 → zN X mc ms fr lo B 19 398 [(0, .ref b), (1, .int tm), (2, .ref (a 0)), (3, .ref (a' 0)), (4, .ref (ad (0, 0, 0))), (5, .int kn), (6, .int (Int32.ofNat wi)), (7, .int sc), (8, .int sp)] [] (zto (zcA X) a x2 r g u v ++ (zto (zcA X) a' x' r' g' u' v' ++ (zww (zcA X) ad s t p ++ zww (zcA X) ad' s t2 p'))) ck sk) : zN X mc ms fr lo B 19 271 [(0, .ref b), (1, .int tm), (2, .ref (a 0)), (3, .ref (a' 0)), (4, .ref (ad (0, 0, 0))), (5, .int kn), (6, .int (Int32.ofNat wi)), (7, .int sc), (8, .int sp), (13, .int bt)] [] (zto (zcA X) a x r g u v ++ (zto (zcA X) a' x' r' g' u' v' ++ (zww (zcA X) ad s t p ++ zww (zcA X) ad' s t' p'))) ck sk := by
  have h8 := hI.1.1
  have h5 := hI.1.2.1
  obtain ⟨ot, hog⟩ : ∃ q, q = (z_dv xs L (Int32.ofNat (e)) 5 - 2) := ⟨_, rfl⟩
  have hot : -2 ≤ ot.toInt ∧ ot.toInt ≤ 2 := by
    have hd := z_dvb xs L (Int32.ofNat e) (n := 5) (by decide)
    rw [show (5 : Int32).toInt = 5 from by decide] at hd
    rw [hog, zsub32 (by rw [z2i]; omega) (by rw [z2i]; omega), z2i]
    omega
  obtain ⟨-, -, -, v0⟩ := s_bestTurn hI hwi
  obtain ⟨j, hj, hbj, hmx⟩ := s_bestOk v0
  rw [← hbest] at hbj
  have hbt : -2 ≤ bt.toInt ∧ bt.toInt ≤ 2 := by rw [hbj]; exact s_Xb ⟨j, hj⟩
  have Ibt := s_turn_Iv (w := wi) hI hbt
  have Iot := s_turn_Iv (w := wi) Ibt hot
  have hB5 : (zu s 7 wi 7 bt) 0 0 5 = Int32.ofNat n := Ibt.1.2.1
  obtain ⟨qb, eqb, -, kb, -⟩ := s_passHour Ibt
  obtain ⟨qo, eqo, -, ko, -⟩ := s_passHour Iot
  have kB : zK (s_CP n) (zu s 7 wi 7 bt) t' := (s_turn_K hwi s bt).sy.tr hKt
  have kO : zK (s_CP n) (zu (zu s 7 wi 7 bt) 7 wi 7 ot) qb.2 := (s_turn_K hwi (zu s 7 wi 7 bt) ot).sy.tr (kb.mono (s_PHC n))
  have eO : (zu (zu s 7 wi 7 bt) 7 wi 7 ot) = zu s 7 wi 7 ot := zu_zu s 7 wi 7 bt ot
  have Ko : zK (s_CP n) s qo.2 := ((s_turn_K hwi s bt).tr (s_turn_K hwi (zu s 7 wi 7 bt) ot)).tr (ko.mono (s_PHC n))
  have hback : ∀ z0 z2 z3, fWB_turn (Int32.ofNat wi) (s 7 wi 7) z0 (zu (zu s 7 wi 7 bt) 7 wi 7 ot) z2 z3 = some (.inl ((zu (zu s 7 wi 7 bt) 7 wi 7 ot) 7 wi 7, s)) := fun z0 z2 z3 => by
    rw [s_turn (s0 := z0) (s2 := z2) (s3 := z3) h8 Iot.1.2.1 hwi (hI.1.2.2.2.2.1 wi hwi), zu_zu, zu_zu, zu_id rfl]
  obtain ⟨vb, hvb⟩ : ∃ q, q = 0 + qb.1 := ⟨_, rfl⟩
  obtain ⟨vo, hvo⟩ : ∃ q, q = 0 + qo.1 := ⟨_, rfl⟩
  have hw1 : ∀ z0 z3, fWB_wouldDeliver 1 z0 (zu s 7 wi 7 bt) t' z3 = some (.inl (vb, qb.2)) := fun z0 z3 => by
    have h := s_would (h := 1) (s0 := z0) (s3 := z3) Ibt.1 kB (by decide) (by decide)
    rw [s_F1, eqb, Option.bind_some, Option.bind_some, ← hvb] at h
    exact h
  have hw2 : ∀ z0 z3, fWB_wouldDeliver 1 z0 (zu (zu s 7 wi 7 bt) 7 wi 7 ot) qb.2 z3 = some (.inl (vo, qo.2)) := fun z0 z3 => by
    have h := s_would (h := 1) (s0 := z0) (s3 := z3) Iot.1 kO (by decide) (by decide)
    rw [s_F1, eqo, Option.bind_some, Option.bind_some, ← hvo] at h
    exact h
  obtain ⟨i, hi⟩ := s_Xof hot
  have vv := hmx i i.isLt
  have y1 : s_val s wi (s_X j) = vb := by rw [hvb, Int32.zero_add, ← hbj]; unfold s_val; rw [eqb]
  have y2 : s_val s wi (s_X i) = vo := by rw [hvo, Int32.zero_add, ← hi]; unfold s_val; rw [← eO, eqo]
  rw [y1, y2] at vv
  obtain ⟨v1, v2⟩ := vv
  have hah : (zab ot < zab bt ∨ ot = -bt ∧ ot < bt) → vo = vb → False := fun h q => by
    have hl : i < (⟨j, hj⟩ : Fin 5) := by
      rcases h with h | ⟨h1, h2⟩
      · rw [hi, hbj] at h
        exact s_ah1 i ⟨j, hj⟩ h
      · rw [hi, hbj] at h1 h2
        exact s_ah2 i ⟨j, hj⟩ h1 h2
    have := v2 hl
    rw [q] at this
    omega
  refine zn_iload F (i := 5) (k := 5) dL_law_271 rfl ?_
  refine zn_if_le F (tgt := 398) dL_law_273 (by decide) (fun h273 => ?_) (fun h273 => ?_)
  · exact zn_pick [0, 1, 2, 3, 4, 5, 6, 7, 8] rfl (kk x e hx (by omega) rfl rfl rfl t' hKt)
  · refine zn_aload_n F (i := 3) (k := 3) dL_law_276 rfl rfl ?_
    refine zn_get F (j := 14) (v := .ref ((ad' (0, 0, 0)))) dL_law_277 yfRL_14 zCl_9 rfl (by show some (Value.ref (a' 1)) = _; rw [h0']) ?_
    refine zn_iload F (i := 6) (k := 6) dL_law_280 rfl ?_
    refine zn_iload F (i := 13) (k := 9) dL_law_282 rfl ?_
    refine zn_perm zpD ?_
    refine zn_callV F (h0 := ad' (0, 0, 0)) (as := [.int ((Int32.ofNat wi)), .int (bt)]) (st := []) (j0 := 0) (zx_turn ad' (s_turn (s0 := zm0) (s2 := t') (s3 := p') h8 h5 hwi hbt)) dL_law_284 ycRL_58 yyyX9_turn rfl (wsB := zto (zcA X) a x r g u v ++ (zto (zcA X) a' x' r' g' u' v' ++ zww (zcA X) ad s t p)) rfl (ci := 8) rfl rfl rfl (Nat.le_of_ble_eq_true rfl) (by omega) (by omega) (by omega) (by omega) fun w1 w2 hB => ?_
    obtain ⟨rfl, rfl⟩ := hB
    refine zn_perm zpD.symm ?_
    refine zn_istore F (i := 14) (lv' := [(14, .int (s 7 wi 7)), (0, .ref b), (1, .int tm), (2, .ref ((a 0))), (3, .ref ((a' 0))), (4, .ref ((ad (0, 0, 0)))), (5, .int kn), (6, .int ((Int32.ofNat wi))), (7, .int sc), (8, .int sp), (13, .int bt)]) dL_law_287 (by decide) rfl ?_
    refine zn_aload_n F (i := 3) (k := 4) dL_law_289 rfl rfl ?_
    refine zn_get F (j := 14) (v := .ref ((ad' (0, 0, 0)))) dL_law_290 yfRL_14 zCl_9 rfl (by show some (Value.ref (a' 1)) = _; rw [h0']) ?_
    refine zn_iconst F (v := 1) dL_law_293 (by decide) ?_
    refine zn_perm zpD ?_
    refine zn_callV F (h0 := ad' (0, 0, 0)) (as := [.int (1)]) (st := []) (j0 := 0) (zx_wouldDeliver ad' (hw1 zm0 p')) dL_law_294 ycRL_36 yyyX9_wouldDeliver rfl (wsB := zto (zcA X) a x r g u v ++ (zto (zcA X) a' x' r' g' u' v' ++ zww (zcA X) ad s t p)) rfl (ci := 8) rfl rfl rfl (Nat.le_of_ble_eq_true rfl) (by omega) (by omega) (by omega) (by omega) fun w1 w2 hB => ?_
    obtain ⟨rfl, rfl⟩ := hB
    refine zn_perm zpD.symm ?_
    refine zn_istore F (i := 15) (lv' := [(15, .int vb), (14, .int (s 7 wi 7)), (0, .ref b), (1, .int tm), (2, .ref ((a 0))), (3, .ref ((a' 0))), (4, .ref ((ad (0, 0, 0)))), (5, .int kn), (6, .int ((Int32.ofNat wi))), (7, .int sc), (8, .int sp), (13, .int bt)]) dL_law_297 (by decide) rfl ?_
    refine zn_aload_n F (i := 2) (k := 4) dL_law_299 rfl rfl ?_
    refine zn_iconst F (v := 5) dL_law_300 (by decide) ?_
    refine zn_callVs F (h0 := a 0) (as := [.int 5]) (st := []) (j0 := 0) hX (zt_drawN hL (e := e) (by omega) hab hx (n := 5) (by decide)) dL_law_301 ycRL_26 yyyX10_draw rfl (wsB := zto (zcA X) a' x' r' g' u' v' ++ (zww (zcA X) ad s t p ++ zww (zcA X) ad' (zu s 7 wi 7 bt) qb.2 p')) rfl (ci := 9) rfl rfl rfl (Nat.le_of_ble_eq_true rfl) (by omega) (by omega) (by omega) (by omega) fun w1 w2 hB => ?_
    obtain ⟨rfl, rfl⟩ := hB
    refine zn_iconst F (v := 2) dL_law_304 (by decide) ?_
    refine zn_isub F dL_law_305 ?_
    refine zn_istore F (i := 16) (lv' := [(16, .int (ot)), (15, .int vb), (14, .int (s 7 wi 7)), (0, .ref b), (1, .int tm), (2, .ref ((a 0))), (3, .ref ((a' 0))), (4, .ref ((ad (0, 0, 0)))), (5, .int kn), (6, .int ((Int32.ofNat wi))), (7, .int sc), (8, .int sp), (13, .int bt)]) dL_law_306 (by decide) (by rw [← hog]; rfl) ?_
    refine zn_aload_n F (i := 3) (k := 6) dL_law_308 rfl rfl ?_
    refine zn_get F (j := 14) (v := .ref ((ad' (0, 0, 0)))) dL_law_309 yfRL_14 zCl_9 rfl (by show some (Value.ref (a' 1)) = _; rw [h0']) ?_
    refine zn_iload F (i := 6) (k := 9) dL_law_312 rfl ?_
    refine zn_iload F (i := 16) (k := 0) dL_law_314 rfl ?_
    refine zn_perm zpD ?_
    refine zn_callV F (h0 := ad' (0, 0, 0)) (as := [.int ((Int32.ofNat wi)), .int (ot)]) (st := []) (j0 := 0) (zx_turn ad' (s_turn (s0 := zm0) (s2 := qb.2) (s3 := p') h8 hB5 hwi hot)) dL_law_316 ycRL_58 yyyX9_turn rfl (wsB := zto (zcA X) a (upd x 0 (Int32.ofNat (e + 1))) r g u v ++ (zto (zcA X) a' x' r' g' u' v' ++ zww (zcA X) ad s t p)) rfl (ci := 8) rfl rfl rfl (Nat.le_of_ble_eq_true rfl) (by omega) (by omega) (by omega) (by omega) fun w1 w2 hB => ?_
    obtain ⟨rfl, rfl⟩ := hB
    refine zn_perm zpD.symm ?_
    refine zn_pop F dL_law_319 rfl ?_
    refine zn_aload_n F (i := 3) (k := 6) dL_law_320 rfl rfl ?_
    refine zn_get F (j := 14) (v := .ref ((ad' (0, 0, 0)))) dL_law_321 yfRL_14 zCl_9 rfl (by show some (Value.ref (a' 1)) = _; rw [h0']) ?_
    refine zn_iconst F (v := 1) dL_law_324 (by decide) ?_
    refine zn_perm zpD ?_
    refine zn_callV F (h0 := ad' (0, 0, 0)) (as := [.int (1)]) (st := []) (j0 := 0) (zx_wouldDeliver ad' (hw2 zm0 p')) dL_law_325 ycRL_36 yyyX9_wouldDeliver rfl (wsB := zto (zcA X) a (upd x 0 (Int32.ofNat (e + 1))) r g u v ++ (zto (zcA X) a' x' r' g' u' v' ++ zww (zcA X) ad s t p)) rfl (ci := 8) rfl rfl rfl (Nat.le_of_ble_eq_true rfl) (by omega) (by omega) (by omega) (by omega) fun w1 w2 hB => ?_
    obtain ⟨rfl, rfl⟩ := hB
    refine zn_perm zpD.symm ?_
    refine zn_istore F (i := 17) (lv' := [(17, .int vo), (16, .int (ot)), (15, .int vb), (14, .int (s 7 wi 7)), (0, .ref b), (1, .int tm), (2, .ref ((a 0))), (3, .ref ((a' 0))), (4, .ref ((ad (0, 0, 0)))), (5, .int kn), (6, .int ((Int32.ofNat wi))), (7, .int sc), (8, .int sp), (13, .int bt)]) dL_law_328 (by decide) rfl ?_
    refine zn_aload_n F (i := 3) (k := 7) dL_law_330 rfl rfl ?_
    refine zn_get F (j := 14) (v := .ref ((ad' (0, 0, 0)))) dL_law_331 yfRL_14 zCl_9 rfl (by show some (Value.ref (a' 1)) = _; rw [h0']) ?_
    refine zn_iload F (i := 6) (k := 10) dL_law_334 rfl ?_
    refine zn_iload F (i := 14) (k := 3) dL_law_336 rfl ?_
    refine zn_perm zpD ?_
    refine zn_callV F (h0 := ad' (0, 0, 0)) (as := [.int ((Int32.ofNat wi)), .int (s 7 wi 7)]) (st := []) (j0 := 0) (zx_turn ad' (hback zm0 qo.2 p')) dL_law_338 ycRL_58 yyyX9_turn rfl (wsB := zto (zcA X) a (upd x 0 (Int32.ofNat (e + 1))) r g u v ++ (zto (zcA X) a' x' r' g' u' v' ++ zww (zcA X) ad s t p)) rfl (ci := 8) rfl rfl rfl (Nat.le_of_ble_eq_true rfl) (by omega) (by omega) (by omega) (by omega) fun w1 w2 hB => ?_
    obtain ⟨rfl, rfl⟩ := hB
    refine zn_perm zpD.symm ?_
    refine zn_pop F dL_law_341 rfl ?_
    refine zn_iload F (i := 16) (k := 1) dL_law_342 rfl ?_
    refine zn_mabs F dL_law_344 ymRL_62 (by omega) (Nat.le_trans (m := 100) (Nat.le_of_ble_eq_true rfl) (by omega)) (by omega) (by omega) ?_
    refine zn_iload F (i := 13) (k := 13) dL_law_347 rfl ?_
    refine zn_mabs F dL_law_349 ymRL_62 (by omega) (Nat.le_trans (m := 100) (Nat.le_of_ble_eq_true rfl) (by omega)) (by omega) (by omega) ?_
    refine zn_icmp_lt F (tgt := 370) dL_law_352 (by decide) (fun h352 => ?_) (fun h352 => ?_)
    · refine zn_iconst F (v := 1) dL_law_370 (by decide) ?_
      refine zn_goto F (tgt := 375) dL_law_371 (by decide) ?_
      refine zn_istore F (i := 18) (lv' := [(18, .int 1), (17, .int vo), (16, .int (ot)), (15, .int vb), (14, .int (s 7 wi 7)), (0, .ref b), (1, .int tm), (2, .ref ((a 0))), (3, .ref ((a' 0))), (4, .ref ((ad (0, 0, 0)))), (5, .int kn), (6, .int ((Int32.ofNat wi))), (7, .int sc), (8, .int sp), (13, .int bt)]) dL_law_375 (by decide) rfl ?_
      refine zn_iload F (i := 17) (k := 1) dL_law_377 rfl ?_
      refine zn_iload F (i := 15) (k := 3) dL_law_379 rfl ?_
      refine zn_icmp_gt F (tgt := 396) dL_law_381 (by decide) (fun z => absurd z (fun q => by rw [zlt] at q; omega)) (fun _ => ?_)
      refine zn_iload F (i := 17) (k := 1) dL_law_384 rfl ?_
      refine zn_iload F (i := 15) (k := 3) dL_law_386 rfl ?_
      refine zn_icmp_ne F (tgt := 398) dL_law_388 (by decide) (fun h388 => ?_) (fun h388 => ?_)
      · exact zn_pick [5, 6, 7, 8, 9, 10, 11, 12, 13] rfl (kk ((upd x 0 (Int32.ofNat (e + 1)))) (e + 1) rfl (Nat.le_refl _) rfl rfl rfl qo.2 Ko)
      · exact absurd (hah (by first | exact Or.inl h352 | exact Or.inr ⟨h360, Int32.not_le.mp h367⟩) h388) (fun q => q)
    · refine zn_iload F (i := 16) (k := 1) dL_law_355 rfl ?_
      refine zn_iload F (i := 13) (k := 13) dL_law_357 rfl ?_
      refine zn_ineg F dL_law_359 ?_
      refine zn_icmp_ne F (tgt := 374) dL_law_360 (by decide) (fun h360 => ?_) (fun h360 => ?_)
      · refine zn_iconst F (v := 0) dL_law_374 (by decide) ?_
        refine zn_istore F (i := 18) (lv' := [(18, .int 0), (17, .int vo), (16, .int (ot)), (15, .int vb), (14, .int (s 7 wi 7)), (0, .ref b), (1, .int tm), (2, .ref ((a 0))), (3, .ref ((a' 0))), (4, .ref ((ad (0, 0, 0)))), (5, .int kn), (6, .int ((Int32.ofNat wi))), (7, .int sc), (8, .int sp), (13, .int bt)]) dL_law_375 (by decide) rfl ?_
        refine zn_iload F (i := 17) (k := 1) dL_law_377 rfl ?_
        refine zn_iload F (i := 15) (k := 3) dL_law_379 rfl ?_
        refine zn_icmp_gt F (tgt := 396) dL_law_381 (by decide) (fun z => absurd z (fun q => by rw [zlt] at q; omega)) (fun _ => ?_)
        refine zn_iload F (i := 17) (k := 1) dL_law_384 rfl ?_
        refine zn_iload F (i := 15) (k := 3) dL_law_386 rfl ?_
        refine zn_icmp_ne F (tgt := 398) dL_law_388 (by decide) (fun h388 => ?_) (fun h388 => ?_)
        · exact zn_pick [5, 6, 7, 8, 9, 10, 11, 12, 13] rfl (kk ((upd x 0 (Int32.ofNat (e + 1)))) (e + 1) rfl (Nat.le_refl _) rfl rfl rfl qo.2 Ko)
        · refine zn_iload F (i := 18) (k := 0) dL_law_391 rfl ?_
          refine zn_if_eq F (tgt := 398) dL_law_393 (by decide) (fun _ => ?_) (fun z => absurd rfl z)
          exact zn_pick [5, 6, 7, 8, 9, 10, 11, 12, 13] rfl (kk ((upd x 0 (Int32.ofNat (e + 1)))) (e + 1) rfl (Nat.le_refl _) rfl rfl rfl qo.2 Ko)
      · refine zn_iload F (i := 16) (k := 1) dL_law_363 rfl ?_
        refine zn_iload F (i := 13) (k := 13) dL_law_365 rfl ?_
        refine zn_icmp_ge F (tgt := 374) dL_law_367 (by decide) (fun h367 => ?_) (fun h367 => ?_)
        · refine zn_iconst F (v := 0) dL_law_374 (by decide) ?_
          refine zn_istore F (i := 18) (lv' := [(18, .int 0), (17, .int vo), (16, .int (ot)), (15, .int vb), (14, .int (s 7 wi 7)), (0, .ref b), (1, .int tm), (2, .ref ((a 0))), (3, .ref ((a' 0))), (4, .ref ((ad (0, 0, 0)))), (5, .int kn), (6, .int ((Int32.ofNat wi))), (7, .int sc), (8, .int sp), (13, .int bt)]) dL_law_375 (by decide) rfl ?_
          refine zn_iload F (i := 17) (k := 1) dL_law_377 rfl ?_
          refine zn_iload F (i := 15) (k := 3) dL_law_379 rfl ?_
          refine zn_icmp_gt F (tgt := 396) dL_law_381 (by decide) (fun z => absurd z (fun q => by rw [zlt] at q; omega)) (fun _ => ?_)
          refine zn_iload F (i := 17) (k := 1) dL_law_384 rfl ?_
          refine zn_iload F (i := 15) (k := 3) dL_law_386 rfl ?_
          refine zn_icmp_ne F (tgt := 398) dL_law_388 (by decide) (fun h388 => ?_) (fun h388 => ?_)
          · exact zn_pick [5, 6, 7, 8, 9, 10, 11, 12, 13] rfl (kk ((upd x 0 (Int32.ofNat (e + 1)))) (e + 1) rfl (Nat.le_refl _) rfl rfl rfl qo.2 Ko)
          · refine zn_iload F (i := 18) (k := 0) dL_law_391 rfl ?_
            refine zn_if_eq F (tgt := 398) dL_law_393 (by decide) (fun _ => ?_) (fun z => absurd rfl z)
            exact zn_pick [5, 6, 7, 8, 9, 10, 11, 12, 13] rfl (kk ((upd x 0 (Int32.ofNat (e + 1)))) (e + 1) rfl (Nat.le_refl _) rfl rfl rfl qo.2 Ko)
        · refine zn_iconst F (v := 1) dL_law_370 (by decide) ?_
          refine zn_goto F (tgt := 375) dL_law_371 (by decide) ?_
          refine zn_istore F (i := 18) (lv' := [(18, .int 1), (17, .int vo), (16, .int (ot)), (15, .int vb), (14, .int (s 7 wi 7)), (0, .ref b), (1, .int tm), (2, .ref ((a 0))), (3, .ref ((a' 0))), (4, .ref ((ad (0, 0, 0)))), (5, .int kn), (6, .int ((Int32.ofNat wi))), (7, .int sc), (8, .int sp), (13, .int bt)]) dL_law_375 (by decide) rfl ?_
          refine zn_iload F (i := 17) (k := 1) dL_law_377 rfl ?_
          refine zn_iload F (i := 15) (k := 3) dL_law_379 rfl ?_
          refine zn_icmp_gt F (tgt := 396) dL_law_381 (by decide) (fun z => absurd z (fun q => by rw [zlt] at q; omega)) (fun _ => ?_)
          refine zn_iload F (i := 17) (k := 1) dL_law_384 rfl ?_
          refine zn_iload F (i := 15) (k := 3) dL_law_386 rfl ?_
          refine zn_icmp_ne F (tgt := 398) dL_law_388 (by decide) (fun h388 => ?_) (fun h388 => ?_)
          · exact zn_pick [5, 6, 7, 8, 9, 10, 11, 12, 13] rfl (kk ((upd x 0 (Int32.ofNat (e + 1)))) (e + 1) rfl (Nat.le_refl _) rfl rfl rfl qo.2 Ko)
          · exact absurd (hah (by first | exact Or.inl h352 | exact Or.inr ⟨h360, Int32.not_le.mp h367⟩) h388) (fun q => q)
