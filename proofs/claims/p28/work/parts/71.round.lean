/-! a round -/
set_option maxHeartbeats 4000000 in
set_option maxRecDepth 20000 in
theorem zl_round {X : zX} (F : zLr X cL_law 19 RL) {b L : Nat} {xs : Nat → Int32} (hX : zScr X b L xs) (hL : L < 2147483648) {ad ad' : zR → Nat} {a a' : Nat → Nat} {x x' : Nat → Int32} {r r' : Nat → Nat} {g g' : Nat → Nat → Int32} {u u' : Nat → Nat} {v v' : Nat → Nat → Int32} {e n : Nat} {tm kn : Int32} {s t t' p p' : zM} {mc ms fr lo ck sk : Nat} {B : State → Prop} (hroom : ck + 220 ≤ mc ∧ sk + 2498 ≤ ms ∧ 12 ≤ fr ∧ 300 ≤ lo) (hab : a 2 = b) (h0 : a 1 = ad (0, 0, 0)) (h0' : a' 1 = ad' (0, 0, 0)) (hx : x 0 = Int32.ofNat e) (he : e < 180) (h1 : x 1 = Int32.ofNat n) (hn : 1 ≤ n ∧ n ≤ 4) (hI : s_Iv n s) (hKt : zK (s_CP n) s t) (hKt' : zK (s_CP n) s t') (h00 : kn = 0 → s_T n s ∧ ∀ i, i < n → g i 0 = s 7 i 0 ∧ g i 1 = s 7 i 1)
    (hwx : 0 < kn → (0 ≤ (x 3).toInt ∧ (x 3).toInt ≤ 7) ∧ (0 ≤ (x 4).toInt ∧ (x 4).toInt ≤ 30) ∧ s 4 0 0 = x 3 ∧ s 4 0 1 = x 4 ∧ s 4 0 2 = 0 ∧ s 4 0 3 = 60 ∧ s 4 0 4 = 20000)
    (kk : ∀ (x2 : Nat → Int32) (e2 : Nat) (s2 t2 t3 p2 : zM), x2 0 = Int32.ofNat e2 → e2 ≤ e + 8 → x2 1 = x 1 → s_Iv n s2 → zK (s_CP n) s2 t2 → zK (s_CP n) s2 t3 → ((0 ≤ (x2 3).toInt ∧ (x2 3).toInt ≤ 7) ∧ (0 ≤ (x2 4).toInt ∧ (x2 4).toInt ≤ 30) ∧ s2 4 0 0 = x2 3 ∧ s2 4 0 1 = x2 4 ∧ s2 4 0 2 = 0 ∧ s2 4 0 3 = 60 ∧ s2 4 0 4 = 20000) → zN X mc ms fr lo B 19 502 [(0, .ref b), (1, .int tm), (2, .ref (a 0)), (3, .ref (a' 0)), (4, .ref (ad (0, 0, 0))), (5, .int kn)] [] (zto (zcA X) a x2 r g u v ++ (zto (zcA X) a' x' r' g' u' v' ++ (zww (zcA X) ad s2 t2 p2 ++ zww (zcA X) ad' s2 t3 p'))) (ck + 220) (sk + 2498)) : zN X mc ms fr lo B 19 73 [(0, .ref b), (1, .int tm), (2, .ref (a 0)), (3, .ref (a' 0)), (4, .ref (ad (0, 0, 0))), (5, .int kn)] [] (zto (zcA X) a x r g u v ++ (zto (zcA X) a' x' r' g' u' v' ++ (zww (zcA X) ad s t p ++ zww (zcA X) ad' s t' p'))) ck sk := by
  refine zl_73 F hX hL ⟨by omega, by omega, hroom.2.2⟩ hab h0 h0' hx (by omega) h1 hn hI hKt hKt' (fun wi sc sp h R t4 t5 x2 hwi hsc hsp hh hR kt4 kt5 q0 q1 q3 q4 => ?_)
  refine zl_161 F hX hL hroom hab h0 q0 (by omega) (by omega) (q1.trans h1) h00 (fun x3 e3 p2 r0 r1 r2 r3 r4 => ?_)
  refine zl_175 F hX hL ⟨hroom.1, hroom.2⟩ hab r0 (by omega) (fun hk x4 u0 u1 u3 u4 => ?_) (fun x4 e4 u0 u1 u2 u3 u4 => ?_)
  · obtain ⟨b3, b4, w0, w1, w2, w3, w4⟩ := hwx hk
    have y3 : x4 3 = x 3 := u3.trans (r3.trans q3)
    have y4 : x4 4 = x 4 := u4.trans (r4.trans q4)
    obtain ⟨R', eR, kR, I2⟩ := s_FT h 0 s hI
    rw [hR] at eR
    obtain rfl := Option.some.inj eR
    have k2 : zK (s_CP n) s R.2 := kR.mono (s_PHC n)
    have dd : ∀ o, R.2 4 0 o = s 4 0 o := fun o => kR 4 0 o fun z => by unfold s_PH at z; omega
    refine zl_188 F ⟨hroom.1, hroom.2⟩ h0' hI hh (by rw [y3]; exact b3) (by rw [y4]; exact b4) (w0.trans y3.symm) (w1.trans y4.symm) w2 w3 w4 h0 hR rfl ?_
    exact kk x4 (e3 + 1) R.2 t4 t5 p2 u0 (by omega) (u1.trans (r2.trans q1)) I2 (k2.sy.tr kt4) (k2.sy.tr kt5) ⟨by rw [y3]; exact b3, by rw [y4]; exact b4, (dd 0).trans (w0.trans y3.symm), (dd 1).trans (w1.trans y4.symm), (dd 2).trans w2, (dd 3).trans w3, (dd 4).trans w4⟩
  · refine zl_271 F hX hL ⟨hroom.1, hroom.2⟩ hab h0 h0' u0 (by omega) hI hwi rfl kt5 (fun x5 e5 v0 v1 v2 v3 v4 t6 kt6 => ?_)
    refine zl_398 F hX hL ⟨hroom.1, hroom.2⟩ hab h0 h0' v0 (by omega) hI hwi hsc hsp (fun x6 s2 z0 z1 z3 z4 hK I2 e0 e1 e2 e3 e4 => ?_)
    exact kk x6 (e5 + 1) s2 t4 t6 p2 z0 (by omega) (z1.trans (v2.trans (u2.trans (r2.trans q1)))) I2 (hK.sy.tr kt4) (hK.sy.tr kt6) ⟨by rw [z3]; exact hsc, by rw [z4]; exact hsp, e0.trans z3.symm, e1.trans z4.symm, e2, e3, e4⟩
