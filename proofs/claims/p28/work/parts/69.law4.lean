/-! a round of the law -/
theorem ycRL_30 : Cond.methodLink RL 30 yX9_digest ∈ zTg ∧ Cond.instanceMethod yX9_digest ∈ zTg ∧ Cond.selects "WakeBanks" yX9_digest yX9_digest ∈ zTg ∧ Cond.initialized "WakeBanks" ∈ zTg ∧ Cond.code yX9_digest cX9_digest 5 (some .long) ∈ zTg := ⟨zm_f 346 (by decide +kernel) rfl, zm_f 347 (by decide +kernel) rfl, zm_f 348 (by decide +kernel) rfl, zm_f 21 (by decide +kernel) rfl, zm_f 349 (by decide +kernel) rfl⟩
theorem yyyX9_digest : yX9_digest.cls = "WakeBanks" ∧ yX9_digest.cls ≠ "java/lang/invoke/MethodHandle" ∧ yX9_digest.cls ≠ "java/lang/invoke/VarHandle" ∧ (parseMethodDescriptor yX9_digest.desc).map (fun d => d.parameters.length) = some 0 := by decide +kernel
theorem ycRL_39 : Cond.methodLink RL 39 yX9_bestTurn ∈ zTg ∧ Cond.instanceMethod yX9_bestTurn ∈ zTg ∧ Cond.selects "WakeBanks" yX9_bestTurn yX9_bestTurn ∈ zTg ∧ Cond.initialized "WakeBanks" ∈ zTg ∧ Cond.code yX9_bestTurn cX9_bestTurn 6 (some .int) ∈ zTg := ⟨zm_f 339 (by decide +kernel) rfl, zm_f 340 (by decide +kernel) rfl, zm_f 341 (by decide +kernel) rfl, zm_f 21 (by decide +kernel) rfl, zm_f 342 (by decide +kernel) rfl⟩
theorem yyyX9_bestTurn : yX9_bestTurn.cls = "WakeBanks" ∧ yX9_bestTurn.cls ≠ "java/lang/invoke/MethodHandle" ∧ yX9_bestTurn.cls ≠ "java/lang/invoke/VarHandle" ∧ (parseMethodDescriptor yX9_bestTurn.desc).map (fun d => d.parameters.length) = some 1 := by decide +kernel
set_option maxHeartbeats 4000000 in
set_option maxRecDepth 20000 in
theorem zl_175 {X : zX} (F : zLr X cL_law 19 RL) {b L : Nat} {xs : Nat → Int32} (hX : zScr X b L xs) (hL : L < 2147483648) {ad ad' : zR → Nat} {a a' : Nat → Nat} {x x' : Nat → Int32} {r r' : Nat → Nat} {g g' : Nat → Nat → Int32} {u u' : Nat → Nat} {v v' : Nat → Nat → Int32} {e : Nat} {w sc sp ho wo bt tm kn : Int32} {s t t' p p' : zM} {mc ms fr lo ck sk : Nat} {B : State → Prop} (hroom : ck ≤ mc ∧ sk ≤ ms ∧ 12 ≤ fr ∧ 300 ≤ lo) (hab : a 2 = b) (hx : x 0 = Int32.ofNat e) (he : e < 200)
    (kA : 0 < kn → ∀ x2 : Nat → Int32, x2 0 = Int32.ofNat (e + 1) → x2 1 = x 1 → x2 3 = x 3 → x2 4 = x 4 → zN X mc ms fr lo B 19 188 [(0, .ref b), (1, .int tm), (2, .ref (a 0)), (3, .ref (a' 0)), (4, .ref (ad (0, 0, 0))), (5, .int kn), (9, .int ho), (12, .int wo)] [] (zto (zcA X) a x2 r g u v ++ (zto (zcA X) a' x' r' g' u' v' ++ (zww (zcA X) ad s t p ++ zww (zcA X) ad' s t' p'))) ck sk)
    (kB : ∀ (x2 : Nat → Int32) (e2 : Nat), x2 0 = Int32.ofNat e2 → e2 ≤ e + 1 → x2 1 = x 1 → x2 3 = x 3 → x2 4 = x 4 → zN X mc ms fr lo B 19 271 [(0, .ref b), (1, .int tm), (2, .ref (a 0)), (3, .ref (a' 0)), (4, .ref (ad (0, 0, 0))), (5, .int kn), (6, .int w), (7, .int sc), (8, .int sp), (13, .int bt)] [] (zto (zcA X) a x2 r g u v ++ (zto (zcA X) a' x' r' g' u' v' ++ (zww (zcA X) ad s t p ++ zww (zcA X) ad' s t' p'))) ck sk) : zN X mc ms fr lo B 19 175 [(0, .ref b), (1, .int tm), (2, .ref (a 0)), (3, .ref (a' 0)), (4, .ref (ad (0, 0, 0))), (5, .int kn), (6, .int w), (7, .int sc), (8, .int sp), (9, .int ho), (12, .int wo), (13, .int bt)] [] (zto (zcA X) a x r g u v ++ (zto (zcA X) a' x' r' g' u' v' ++ (zww (zcA X) ad s t p ++ zww (zcA X) ad' s t' p'))) ck sk := by
  refine zn_iload F (i := 5) (k := 5) dL_law_175 rfl ?_
  refine zn_if_le F (tgt := 271) dL_law_177 (by decide) (fun h177 => ?_) (fun h177 => ?_)
  · exact zn_pick [0, 1, 2, 3, 4, 5, 6, 7, 8, 11] rfl (kB x e hx (by omega) rfl rfl rfl)
  · refine zn_aload_n F (i := 2) (k := 2) dL_law_180 rfl rfl ?_
    refine zn_iconst F (v := 2) dL_law_181 (by decide) ?_
    refine zn_callVs F (h0 := a 0) (as := [.int 2]) (st := []) (j0 := 0) hX (zt_drawN hL (e := e) (by omega) hab hx (n := 2) (by decide)) dL_law_182 ycRL_26 yyyX10_draw rfl (wsB := zto (zcA X) a' x' r' g' u' v' ++ (zww (zcA X) ad s t p ++ zww (zcA X) ad' s t' p')) rfl (ci := 9) rfl rfl rfl (Nat.le_of_ble_eq_true rfl) (by omega) (by omega) (by omega) (by omega) fun w1 w2 hB => ?_
    obtain ⟨rfl, rfl⟩ := hB
    refine zn_if_ne F (tgt := 271) dL_law_185 (by decide) (fun h185 => ?_) (fun h185 => ?_)
    · exact zn_pick [0, 1, 2, 3, 4, 5, 6, 7, 8, 11] rfl (kB ((upd x 0 (Int32.ofNat (e + 1)))) (e + 1) rfl (Nat.le_refl _) rfl rfl rfl)
    · exact zn_pick [0, 1, 2, 3, 4, 5, 9, 10] rfl (kA (by rw [zle, z0i] at h177; rw [zlt, z0i]; omega) ((upd x 0 (Int32.ofNat (e + 1)))) rfl rfl rfl rfl)
theorem lg_self (d : Int64) : lg_cmp d d = 0 := by
  unfold lg_cmp
  simp
set_option maxHeartbeats 4000000 in
set_option maxRecDepth 20000 in
theorem zl_73 {X : zX} (F : zLr X cL_law 19 RL) {b L : Nat} {xs : Nat → Int32} (hX : zScr X b L xs) (hL : L < 2147483648) {ad ad' : zR → Nat} {a a' : Nat → Nat} {x x' : Nat → Int32} {r r' : Nat → Nat} {g g' : Nat → Nat → Int32} {u u' : Nat → Nat} {v v' : Nat → Nat → Int32} {e n : Nat} {tm kn : Int32} {s t t' p p' : zM} {mc ms fr lo ck sk : Nat} {B : State → Prop} (hroom : ck ≤ mc ∧ sk ≤ ms ∧ 12 ≤ fr ∧ 300 ≤ lo) (hab : a 2 = b) (h0 : a 1 = ad (0, 0, 0)) (h0' : a' 1 = ad' (0, 0, 0)) (hx : x 0 = Int32.ofNat e) (he : e < 190) (h1 : x 1 = Int32.ofNat n) (hn : 1 ≤ n ∧ n ≤ 4) (hI : s_Iv n s) (hKt : zK (s_CP n) s t) (hKt' : zK (s_CP n) s t')
    (kk : ∀ (wi : Nat) (sc sp : Int32) (h : Nat) (R : Int32 × zM) (t4 t5 : zM) (x2 : Nat → Int32), wi < n → (0 ≤ sc.toInt ∧ sc.toInt ≤ 7) → (0 ≤ sp.toInt ∧ sp.toInt ≤ 30) → (1 ≤ h ∧ h ≤ 4) → s_F h 0 s = some R → zK (s_CP n) s t4 → zK (s_CP n) s t5 → x2 0 = Int32.ofNat (e + 4) → x2 1 = x 1 → x2 3 = x 3 → x2 4 = x 4 → zN X mc ms fr lo B 19 161 [(0, .ref b), (1, .int tm), (2, .ref (a 0)), (3, .ref (a' 0)), (4, .ref (ad (0, 0, 0))), (5, .int kn), (6, .int (Int32.ofNat wi)), (7, .int sc), (8, .int sp), (9, .int (Int32.ofNat h)), (12, .int R.1), (13, .int (s_best s wi))] [] (zto (zcA X) a x2 r g u v ++ (zto (zcA X) a' x' r' g' u' v' ++ (zww (zcA X) ad s t4 p ++ zww (zcA X) ad' s t5 p'))) ck sk) : zN X mc ms fr lo B 19 73 [(0, .ref b), (1, .int tm), (2, .ref (a 0)), (3, .ref (a' 0)), (4, .ref (ad (0, 0, 0))), (5, .int kn)] [] (zto (zcA X) a x r g u v ++ (zto (zcA X) a' x' r' g' u' v' ++ (zww (zcA X) ad s t p ++ zww (zcA X) ad' s t' p'))) ck sk := by
  have hnz : ¬ x 1 = 0 := fun z => by
    have y := congrArg Int32.toInt z
    rw [h1, zon (by omega), z0i] at y
    omega
  have y1 := z_dvb xs L (Int32.ofNat e) (n := x 1) (by rw [h1, zon (by omega)]; omega)
  rw [h1, zon (by omega), ← h1] at y1
  obtain ⟨wi, hwi, hw⟩ : ∃ wi, wi < n ∧ z_dv xs L (Int32.ofNat (e)) (x 1) = Int32.ofNat wi := by
    obtain ⟨k, hk⟩ := zfin (a := z_dv xs L (Int32.ofNat (e)) (x 1)) 0 n (by omega) (by omega) (by omega)
    exact ⟨k, k.isLt, by rw [hk, Nat.zero_add]⟩
  have y4 := z_dvb xs L (Int32.ofNat (e + 1 + 1 + 1)) (n := 4) (by decide)
  rw [z4i] at y4
  obtain ⟨h, hh1, hh⟩ : ∃ h, (1 ≤ h ∧ h ≤ 4) ∧ 1 + z_dv xs L (Int32.ofNat ((e + 1 + 1 + 1))) 4 = Int32.ofNat h := by
    obtain ⟨k, hk⟩ := zfin (a := 1 + z_dv xs L (Int32.ofNat ((e + 1 + 1 + 1))) 4) 1 4 (by decide) (by rw [zadd (by rw [z1i]; omega) (by rw [z1i]; omega), z1i]; omega) (by rw [zadd (by rw [z1i]; omega) (by rw [z1i]; omega), z1i]; omega)
    exact ⟨1 + k, ⟨by omega, by have := k.isLt; omega⟩, hk⟩
  have y2 := z_dvb xs L (Int32.ofNat (e + 1)) (n := 8) (by decide)
  rw [show (8 : Int32).toInt = 8 from by decide] at y2
  have hsc : 0 ≤ (z_dv xs L (Int32.ofNat (e + 1)) 8).toInt ∧ (z_dv xs L (Int32.ofNat (e + 1)) 8).toInt ≤ 7 := ⟨y2.1, by omega⟩
  have y3 := z_dvb xs L (Int32.ofNat (e + 1 + 1)) (n := 20) (by decide)
  rw [show (20 : Int32).toInt = 20 from by decide] at y3
  have hsp : 0 ≤ (4 + z_dv xs L (Int32.ofNat (e + 1 + 1)) 20).toInt ∧ (4 + z_dv xs L (Int32.ofNat (e + 1 + 1)) 20).toInt ≤ 30 := by
    rw [zadd (by rw [z4i]; omega) (by rw [z4i]; omega), z4i]
    omega
  obtain ⟨dg, hdg⟩ := s_digest hI
  obtain ⟨t1, kt1, g1⟩ := hdg zm0 t p hKt
  obtain ⟨R, hR, kR, -⟩ := s_FT h 0 s hI
  have g2 : ∀ z0 z3, fWB_wouldDeliver (1 + z_dv xs L (Int32.ofNat ((e + 1 + 1 + 1))) 4) z0 s t1 z3 = some (.inl (R.1, R.2)) := fun z0 z3 => by
    rw [hh, s_would hI.1 kt1 hh1.1 (by omega), hR, Option.bind_some]
  obtain ⟨t3, kt3, g3', -⟩ := s_bestTurn hI hwi
  have g3 : fWB_bestTurn (z_dv xs L (Int32.ofNat (e)) (x 1)) zm0 s R.2 p = some (.inl (s_best s wi, t3)) := by
    rw [hw]
    exact g3' zm0 R.2 p (kR.mono (s_PHC n))
  obtain ⟨t4, kt4, g4⟩ := hdg zm0 t3 p kt3
  obtain ⟨t5, kt5, g5⟩ := hdg zm0 t' p' hKt'
  refine zn_aload_n F (i := 2) (k := 2) dL_law_73 rfl rfl ?_
  refine zn_aload_n F (i := 2) (k := 2) dL_law_74 rfl rfl ?_
  refine zn_get F (j := 0) (v := .int ((x 1))) dL_law_75 yfRL_22 zCl_9 rfl rfl ?_
  refine zn_callVs F (h0 := a 0) (as := [.int (x 1)]) (st := []) (j0 := 0) hX (zt_drawN hL (e := e) (by omega) hab hx (n := (x 1)) hnz) dL_law_78 ycRL_26 yyyX10_draw rfl (wsB := zto (zcA X) a' x' r' g' u' v' ++ (zww (zcA X) ad s t p ++ zww (zcA X) ad' s t' p')) rfl (ci := 9) rfl rfl rfl (Nat.le_of_ble_eq_true rfl) (by omega) (by omega) (by omega) (by omega) fun w1 w2 hB => ?_
  obtain ⟨rfl, rfl⟩ := hB
  refine zn_istore F (i := 6) (lv' := [(6, .int (z_dv xs L (Int32.ofNat (e)) (x 1))), (0, .ref b), (1, .int tm), (2, .ref ((a 0))), (3, .ref ((a' 0))), (4, .ref ((ad (0, 0, 0)))), (5, .int kn)]) dL_law_81 (by decide) rfl ?_
  refine zn_aload_n F (i := 2) (k := 3) dL_law_83 rfl rfl ?_
  refine zn_bipush F (v := 8) dL_law_84 (by decide) ?_
  refine zn_callVs F (h0 := a 0) (as := [.int 8]) (st := []) (j0 := 0) hX (zt_drawN hL (e := (e + 1)) (by omega) hab rfl (n := 8) (by decide)) dL_law_86 ycRL_26 yyyX10_draw rfl (wsB := zto (zcA X) a' x' r' g' u' v' ++ (zww (zcA X) ad s t p ++ zww (zcA X) ad' s t' p')) rfl (ci := 9) rfl rfl rfl (Nat.le_of_ble_eq_true rfl) (by omega) (by omega) (by omega) (by omega) fun w1 w2 hB => ?_
  obtain ⟨rfl, rfl⟩ := hB
  refine zn_istore F (i := 7) (lv' := [(7, .int (z_dv xs L (Int32.ofNat ((e + 1))) 8)), (6, .int (z_dv xs L (Int32.ofNat (e)) (x 1))), (0, .ref b), (1, .int tm), (2, .ref ((a 0))), (3, .ref ((a' 0))), (4, .ref ((ad (0, 0, 0)))), (5, .int kn)]) dL_law_89 (by decide) rfl ?_
  refine zn_iconst F (v := 4) dL_law_91 (by decide) ?_
  refine zn_aload_n F (i := 2) (k := 4) dL_law_92 rfl rfl ?_
  refine zn_bipush F (v := 20) dL_law_93 (by decide) ?_
  refine zn_callVs F (h0 := a 0) (as := [.int 20]) (st := [.int 4]) (j0 := 0) hX (zt_drawN hL (e := (e + 1 + 1)) (by omega) hab rfl (n := 20) (by decide)) dL_law_95 ycRL_26 yyyX10_draw rfl (wsB := zto (zcA X) a' x' r' g' u' v' ++ (zww (zcA X) ad s t p ++ zww (zcA X) ad' s t' p')) rfl (ci := 9) rfl rfl rfl (Nat.le_of_ble_eq_true rfl) (by omega) (by omega) (by omega) (by omega) fun w1 w2 hB => ?_
  obtain ⟨rfl, rfl⟩ := hB
  refine zn_iadd F dL_law_98 ?_
  refine zn_istore F (i := 8) (lv' := [(8, .int ((4 + z_dv xs L (Int32.ofNat ((e + 1 + 1))) 20))), (7, .int (z_dv xs L (Int32.ofNat ((e + 1))) 8)), (6, .int (z_dv xs L (Int32.ofNat (e)) (x 1))), (0, .ref b), (1, .int tm), (2, .ref ((a 0))), (3, .ref ((a' 0))), (4, .ref ((ad (0, 0, 0)))), (5, .int kn)]) dL_law_99 (by decide) rfl ?_
  refine zn_iconst F (v := 1) dL_law_101 (by decide) ?_
  refine zn_aload_n F (i := 2) (k := 5) dL_law_102 rfl rfl ?_
  refine zn_iconst F (v := 4) dL_law_103 (by decide) ?_
  refine zn_callVs F (h0 := a 0) (as := [.int 4]) (st := [.int 1]) (j0 := 0) hX (zt_drawN hL (e := (e + 1 + 1 + 1)) (by omega) hab rfl (n := 4) (by decide)) dL_law_104 ycRL_26 yyyX10_draw rfl (wsB := zto (zcA X) a' x' r' g' u' v' ++ (zww (zcA X) ad s t p ++ zww (zcA X) ad' s t' p')) rfl (ci := 9) rfl rfl rfl (Nat.le_of_ble_eq_true rfl) (by omega) (by omega) (by omega) (by omega) fun w1 w2 hB => ?_
  obtain ⟨rfl, rfl⟩ := hB
  refine zn_iadd F dL_law_107 ?_
  refine zn_istore F (i := 9) (lv' := [(9, .int ((1 + z_dv xs L (Int32.ofNat ((e + 1 + 1 + 1))) 4))), (8, .int ((4 + z_dv xs L (Int32.ofNat ((e + 1 + 1))) 20))), (7, .int (z_dv xs L (Int32.ofNat ((e + 1))) 8)), (6, .int (z_dv xs L (Int32.ofNat (e)) (x 1))), (0, .ref b), (1, .int tm), (2, .ref ((a 0))), (3, .ref ((a' 0))), (4, .ref ((ad (0, 0, 0)))), (5, .int kn)]) dL_law_108 (by decide) rfl ?_
  refine zn_aload F (i := 4) (k := 8) dL_law_110 rfl ?_
  refine zn_perm zpB ?_
  refine zn_callV F (h0 := ad (0, 0, 0)) (as := []) (st := []) (j0 := 0) (zx_digest ad g1) dL_law_112 ycRL_30 yyyX9_digest rfl (wsB := zto (zcA X) a (upd (upd (upd (upd x 0 (Int32.ofNat (e + 1))) 0 (Int32.ofNat ((e + 1) + 1))) 0 (Int32.ofNat ((e + 1 + 1) + 1))) 0 (Int32.ofNat ((e + 1 + 1 + 1) + 1))) r g u v ++ (zto (zcA X) a' x' r' g' u' v' ++ zww (zcA X) ad' s t' p')) rfl (ci := 8) rfl rfl rfl (Nat.le_of_ble_eq_true rfl) (by omega) (by omega) (by omega) (by omega) fun w1 w2 hB => ?_
  obtain ⟨rfl, rfl⟩ := hB
  refine zn_perm zpB.symm ?_
  refine zn_lstore F (i := 10) (lv' := [(10, .long dg), (9, .int ((1 + z_dv xs L (Int32.ofNat ((e + 1 + 1 + 1))) 4))), (8, .int ((4 + z_dv xs L (Int32.ofNat ((e + 1 + 1))) 20))), (7, .int (z_dv xs L (Int32.ofNat ((e + 1))) 8)), (6, .int (z_dv xs L (Int32.ofNat (e)) (x 1))), (0, .ref b), (1, .int tm), (2, .ref ((a 0))), (3, .ref ((a' 0))), (4, .ref ((ad (0, 0, 0)))), (5, .int kn)]) dL_law_115 (by decide) rfl ?_
  refine zn_aload F (i := 4) (k := 9) dL_law_117 rfl ?_
  refine zn_iload F (i := 9) (k := 1) dL_law_119 rfl ?_
  refine zn_perm zpB ?_
  refine zn_callV F (h0 := ad (0, 0, 0)) (as := [.int ((1 + z_dv xs L (Int32.ofNat ((e + 1 + 1 + 1))) 4))]) (st := []) (j0 := 0) (zx_wouldDeliver ad (g2 zm0 p)) dL_law_121 ycRL_36 yyyX9_wouldDeliver rfl (wsB := zto (zcA X) a (upd (upd (upd (upd x 0 (Int32.ofNat (e + 1))) 0 (Int32.ofNat ((e + 1) + 1))) 0 (Int32.ofNat ((e + 1 + 1) + 1))) 0 (Int32.ofNat ((e + 1 + 1 + 1) + 1))) r g u v ++ (zto (zcA X) a' x' r' g' u' v' ++ zww (zcA X) ad' s t' p')) rfl (ci := 8) rfl rfl rfl (Nat.le_of_ble_eq_true rfl) (by omega) (by omega) (by omega) (by omega) fun w1 w2 hB => ?_
  obtain ⟨rfl, rfl⟩ := hB
  refine zn_perm zpB.symm ?_
  refine zn_istore F (i := 12) (lv' := [(12, .int R.1), (10, .long dg), (9, .int ((1 + z_dv xs L (Int32.ofNat ((e + 1 + 1 + 1))) 4))), (8, .int ((4 + z_dv xs L (Int32.ofNat ((e + 1 + 1))) 20))), (7, .int (z_dv xs L (Int32.ofNat ((e + 1))) 8)), (6, .int (z_dv xs L (Int32.ofNat (e)) (x 1))), (0, .ref b), (1, .int tm), (2, .ref ((a 0))), (3, .ref ((a' 0))), (4, .ref ((ad (0, 0, 0)))), (5, .int kn)]) dL_law_124 (by decide) rfl ?_
  refine zn_aload F (i := 4) (k := 10) dL_law_126 rfl ?_
  refine zn_iload F (i := 6) (k := 5) dL_law_128 rfl ?_
  refine zn_perm zpB ?_
  refine zn_callV F (h0 := ad (0, 0, 0)) (as := [.int (z_dv xs L (Int32.ofNat (e)) (x 1))]) (st := []) (j0 := 0) (zx_bestTurn ad g3) dL_law_130 ycRL_39 yyyX9_bestTurn rfl (wsB := zto (zcA X) a (upd (upd (upd (upd x 0 (Int32.ofNat (e + 1))) 0 (Int32.ofNat ((e + 1) + 1))) 0 (Int32.ofNat ((e + 1 + 1) + 1))) 0 (Int32.ofNat ((e + 1 + 1 + 1) + 1))) r g u v ++ (zto (zcA X) a' x' r' g' u' v' ++ zww (zcA X) ad' s t' p')) rfl (ci := 8) rfl rfl rfl (Nat.le_of_ble_eq_true rfl) (by omega) (by omega) (by omega) (by omega) fun w1 w2 hB => ?_
  obtain ⟨rfl, rfl⟩ := hB
  refine zn_perm zpB.symm ?_
  refine zn_istore F (i := 13) (lv' := [(13, .int (s_best s wi)), (12, .int R.1), (10, .long dg), (9, .int ((1 + z_dv xs L (Int32.ofNat ((e + 1 + 1 + 1))) 4))), (8, .int ((4 + z_dv xs L (Int32.ofNat ((e + 1 + 1))) 20))), (7, .int (z_dv xs L (Int32.ofNat ((e + 1))) 8)), (6, .int (z_dv xs L (Int32.ofNat (e)) (x 1))), (0, .ref b), (1, .int tm), (2, .ref ((a 0))), (3, .ref ((a' 0))), (4, .ref ((ad (0, 0, 0)))), (5, .int kn)]) dL_law_133 (by decide) rfl ?_
  refine zn_aload F (i := 4) (k := 11) dL_law_135 rfl ?_
  refine zn_perm zpB ?_
  refine zn_callV F (h0 := ad (0, 0, 0)) (as := []) (st := []) (j0 := 0) (zx_digest ad g4) dL_law_137 ycRL_30 yyyX9_digest rfl (wsB := zto (zcA X) a (upd (upd (upd (upd x 0 (Int32.ofNat (e + 1))) 0 (Int32.ofNat ((e + 1) + 1))) 0 (Int32.ofNat ((e + 1 + 1) + 1))) 0 (Int32.ofNat ((e + 1 + 1 + 1) + 1))) r g u v ++ (zto (zcA X) a' x' r' g' u' v' ++ zww (zcA X) ad' s t' p')) rfl (ci := 8) rfl rfl rfl (Nat.le_of_ble_eq_true rfl) (by omega) (by omega) (by omega) (by omega) fun w1 w2 hB => ?_
  obtain ⟨rfl, rfl⟩ := hB
  refine zn_perm zpB.symm ?_
  refine zn_lload F (i := 10) (k := 2) dL_law_140 rfl ?_
  refine zn_lcmp F dL_law_142 ?_
  refine zn_if_ne F (tgt := 159) dL_law_143 (by decide) (fun z => absurd (lg_self dg) z) (fun _ => ?_)
  refine zn_aload_n F (i := 3) (k := 10) dL_law_146 rfl rfl ?_
  refine zn_get F (j := 14) (v := .ref ((ad' (0, 0, 0)))) dL_law_147 yfRL_14 zCl_9 rfl (by show some (Value.ref (a' 1)) = _; rw [h0']) ?_
  refine zn_perm zpD ?_
  refine zn_callV F (h0 := ad' (0, 0, 0)) (as := []) (st := []) (j0 := 0) (zx_digest ad' g5) dL_law_150 ycRL_30 yyyX9_digest rfl (wsB := zto (zcA X) a (upd (upd (upd (upd x 0 (Int32.ofNat (e + 1))) 0 (Int32.ofNat ((e + 1) + 1))) 0 (Int32.ofNat ((e + 1 + 1) + 1))) 0 (Int32.ofNat ((e + 1 + 1 + 1) + 1))) r g u v ++ (zto (zcA X) a' x' r' g' u' v' ++ zww (zcA X) ad s t4 p)) rfl (ci := 8) rfl rfl rfl (Nat.le_of_ble_eq_true rfl) (by omega) (by omega) (by omega) (by omega) fun w1 w2 hB => ?_
  obtain ⟨rfl, rfl⟩ := hB
  refine zn_perm zpD.symm ?_
  refine zn_lload F (i := 10) (k := 2) dL_law_153 rfl ?_
  refine zn_lcmp F dL_law_155 ?_
  refine zn_if_eq F (tgt := 161) dL_law_156 (by decide) (fun _ => ?_) (fun z => absurd (lg_self dg) z)
  exact zn_pick [7, 8, 9, 10, 11, 12, 6, 5, 4, 3, 1, 0] (by rw [← hw, ← hh]; rfl) (kk wi _ _ h R t4 t5 ((upd (upd (upd (upd x 0 (Int32.ofNat (e + 1))) 0 (Int32.ofNat ((e + 1) + 1))) 0 (Int32.ofNat ((e + 1 + 1) + 1))) 0 (Int32.ofNat ((e + 1 + 1 + 1) + 1)))) hwi hsc hsp hh1 hR kt4 kt5 rfl rfl rfl rfl)
