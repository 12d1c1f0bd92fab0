/-! nine rounds -/
set_option maxHeartbeats 4000000 in
set_option maxRecDepth 20000 in
theorem zl_66 {X : zX} (F : zLr X cL_law 19 RL) {b L : Nat} {xs : Nat → Int32} (hX : zScr X b L xs) (hL : L < 2147483648) {ad ad' : zR → Nat} {a a' : Nat → Nat} {x' : Nat → Int32} {r r' : Nat → Nat} {g g' : Nat → Nat → Int32} {u u' : Nat → Nat} {v v' : Nat → Nat → Int32} {n c0 d0 : Nat} {tm : Int32} {p' : zM} {mc ms fr lo : Nat} {B : State → Prop} (hroom : c0 + 1980 ≤ mc ∧ d0 + 22482 ≤ ms ∧ 12 ≤ fr ∧ 300 ≤ lo) (hab : a 2 = b) (h0 : a 1 = ad (0, 0, 0)) (h0' : a' 1 = ad' (0, 0, 0)) (hn : 1 ≤ n ∧ n ≤ 4) (kk : zN X mc ms fr lo B 19 508 [(0, .ref b), (1, .int tm)] [] [] (c0 + 1980) (d0 + 22482)) : ∀ d k, k + d = 9 → ∀ (x : Nat → Int32) (e : Nat) (s t t' p : zM), x 0 = Int32.ofNat e → e ≤ 80 + 8 * k → x 1 = Int32.ofNat n → s_Iv n s → zK (s_CP n) s t → zK (s_CP n) s t' → (k = 0 → s_T n s ∧ ∀ i, i < n → g i 0 = s 7 i 0 ∧ g i 1 = s 7 i 1) → (0 < k → (0 ≤ (x 3).toInt ∧ (x 3).toInt ≤ 7) ∧ (0 ≤ (x 4).toInt ∧ (x 4).toInt ≤ 30) ∧ s 4 0 0 = x 3 ∧ s 4 0 1 = x 4 ∧ s 4 0 2 = 0 ∧ s 4 0 3 = 60 ∧ s 4 0 4 = 20000) → zN X mc ms fr lo B 19 66 [(0, .ref b), (1, .int tm), (2, .ref (a 0)), (3, .ref (a' 0)), (4, .ref (ad (0, 0, 0))), (5, .int (Int32.ofNat k))] [] (zto (zcA X) a x r g u v ++ (zto (zcA X) a' x' r' g' u' v' ++ (zww (zcA X) ad s t p ++ zww (zcA X) ad' s t' p'))) (c0 + 220 * k) (d0 + 2498 * k) := by
  intro d
  induction d with
  | zero =>
    intro k hk x e s t t' p hx he h1 hI hKt hKt' h00 hwx
    obtain rfl : k = 9 := by omega
    refine zn_iload F (i := 5) (k := 5) dL_law_66 rfl ?_
    refine zn_bipush F (v := 9) dL_law_68 (by decide) ?_
    refine zn_icmp_ge F (tgt := 508) dL_law_70 (by decide) (fun _ => ?_) (fun z => absurd (by decide) z)
    exact zn_pick [0, 1] rfl (zn_sub [] (ws' := []) rfl rfl kk)
  | succ d ih =>
    intro k hk x e s t t' p hx he h1 hI hKt hKt' h00 hwx
    refine zn_iload F (i := 5) (k := 5) dL_law_66 rfl ?_
    refine zn_bipush F (v := 9) dL_law_68 (by decide) ?_
    refine zn_icmp_ge F (tgt := 508) dL_law_70 (by decide) (fun z => absurd z (by rw [show (9 : Int32) = Int32.ofNat 9 from rfl, znle (by omega) (by omega)]; omega)) (fun _ => ?_)
    refine zl_round F hX hL ⟨by omega, by omega, hroom.2.2⟩ hab h0 h0' hx (by omega) h1 hn hI hKt hKt' (fun z => h00 (by
      have y := congrArg Int32.toInt z
      rw [zon (by omega), z0i] at y
      omega)) (fun z => hwx (by rw [zlt, zon (by omega), z0i] at z; omega)) (fun x2 e2 s2 t2 t3 p2 q0 q1 q2 q3 q4 q5 q6 => ?_)
    refine zn_iinc F (i := 5) (k := 5) (v := Int32.ofNat (k + 1)) (lv' := [(5, .int (Int32.ofNat (k + 1))), (0, .ref b), (1, .int tm), (2, .ref (a 0)), (3, .ref (a' 0)), (4, .ref (ad (0, 0, 0)))]) dL_law_502 rfl (zn1 k) (by decide) rfl ?_
    refine zn_goto F (tgt := 66) dL_law_505 (by decide) ?_
    refine zn_wid (ck' := c0 + 220 * (k + 1)) (sk' := d0 + 2498 * (k + 1)) (by omega) (by omega) ?_
    exact zn_pick [1, 2, 3, 4, 5, 0] rfl (ih (k + 1) (by omega) x2 e2 s2 t2 t3 p2 q0 (by omega) (q2.trans h1) q3 q4 q5 (fun z => absurd z (by omega)) (fun _ => q6))
