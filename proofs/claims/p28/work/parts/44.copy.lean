/-! ===== copies ===== -/
def s_CP (n : Nat) : zP := fun k i o => (k = 0 ∧ i = 0 ∧ 5 ≤ o ∧ o ≤ 10) ∨ (k = 4 ∧ i = 0 ∧ o ≤ 4) ∨ (k = 5 ∧ i = 0 ∧ 1 ≤ o ∧ o ≤ 4) ∨ (k = 6 ∧ i = 0 ∧ o < 24) ∨ (k = 7 ∧ i < n ∧ o ≤ 10) ∨ (k = 8 ∧ i < n ∧ o < 3) ∨ (k = 9 ∧ i < n ∧ o < 8) ∨ (k = 10 ∧ i < n ∧ 1 ≤ o ∧ o ≤ 3) ∨ (k = 11 ∧ i < n ∧ o < 30) ∨ (k = 12 ∧ i < 2 ∧ o ≤ 2)
theorem s_PHC (n k i o : Nat) (h : s_PH n k i o) : s_CP n k i o := by
  rcases h with ⟨rfl, rfl, rfl⟩ | h | h | ⟨rfl, hi, h1, h2, -⟩ | h | h | h | h | ⟨rfl, hi, -, h2⟩
  · exact Or.inl ⟨rfl, rfl, by decide, by decide⟩
  · exact Or.inr (Or.inr (Or.inl h))
  · exact Or.inr (Or.inr (Or.inr (Or.inl h)))
  · exact Or.inr (Or.inr (Or.inr (Or.inr (Or.inl ⟨rfl, hi, h2⟩))))
  · exact Or.inr (Or.inr (Or.inr (Or.inr (Or.inr (Or.inl h)))))
  · exact Or.inr (Or.inr (Or.inr (Or.inr (Or.inr (Or.inr (Or.inl h))))))
  · exact Or.inr (Or.inr (Or.inr (Or.inr (Or.inr (Or.inr (Or.inr (Or.inl h)))))))
  · exact Or.inr (Or.inr (Or.inr (Or.inr (Or.inr (Or.inr (Or.inr (Or.inr (Or.inl h))))))))
  · exact Or.inr (Or.inr (Or.inr (Or.inr (Or.inr (Or.inr (Or.inr (Or.inr (Or.inr ⟨rfl, hi, h2⟩))))))))
/-- the right value is written -/
theorem zK.w {P : zP} {s s' : zM} (h : zK P s s') (a b c : Nat) : zK (fun k i o => P k i o ∧ ¬ (k = a ∧ i = b ∧ o = c)) s (zu s' a b c (s a b c)) := by
  intro k i o hn
  by_cases hz : k = a ∧ i = b ∧ o = c
  · obtain ⟨rfl, rfl, rfl⟩ := hz
    exact zzs _ _ _ _ _
  · rw [zzu hz]
    exact h k i o fun z => hn ⟨z, hz⟩
theorem zK.wr {P : zP} {s s' : zM} (h : zK P s s') (a b m : Nat) : zK (fun k i o => P k i o ∧ ¬ (k = a ∧ i = b ∧ o < m)) s (zur s' a b (va_cpy (s a b) (s' a b) 0 0 m)) := by
  intro k i o hn
  by_cases hz : k = a ∧ i = b
  · obtain ⟨rfl, rfl⟩ := hz
    rw [zur_here]
    unfold va_cpy
    by_cases ho : o < m
    · rw [if_pos ⟨Nat.zero_le _, by omega⟩, Nat.sub_zero, Nat.zero_add]
    · rw [if_neg (fun z => ho (by omega))]
      exact h k i o fun z => hn ⟨z, fun y => ho y.2.2⟩
  · rw [zur_row hz]
    exact h k i o fun z => hn ⟨z, fun y => hz ⟨y.1, y.2.1⟩⟩
theorem zK.no {P : zP} {s s' : zM} (h : zK P s s') (hp : ∀ k i o, ¬ P k i o) : s' = s := funext fun k => funext fun i => funext fun o => h k i o (hp k i o)
def s_Tj (j : Nat) : zP := fun k i o => i = j ∧ ((k = 7 ∧ o ≤ 10) ∨ (k = 8 ∧ o < 3) ∨ (k = 9 ∧ o < 8) ∨ (k = 10 ∧ 1 ≤ o ∧ o ≤ 3) ∨ (k = 11 ∧ o < 30))
theorem s_tcopy {P : zP} {s s' : zM} (h : zK P s s') (j : Nat) : zT (fTu_copyFrom j j s' s) (zK (fun k i o => P k i o ∧ ¬ s_Tj j k i o) s) := by
  unfold fTu_copyFrom fEx_copyFrom
  refine zT_l (zT_l (zT_l (zT_l (zT_l (zT_l (zT_l (zT_l (zT_l (zT_l (zT_l (zT_l (zT_l ?_))))))))))))
  refine zT_c (R := fun r => zK (fun k i o => P k i o ∧ ¬ s_Tj j k i o) s r) (zT_l (zT_l (zT_l (zT_l (zT_s ?_))))) fun r _ hr => zT_s hr
  refine zK.mono ((((((((((((((((((h.w 7 j 0).w 7 j 1).w 7 j 2).w 7 j 3).w 7 j 4).w 7 j 5).w 7 j 6).w 7 j 7).w 7 j 8).w 7 j 9).w 7 j 10).wr 8 j 3).wr 9 j 8).wr 11 j 30).w 10 j 1).w 10 j 2).w 10 j 3)) ?_
  rintro k i o ⟨⟨⟨⟨⟨⟨⟨⟨⟨⟨⟨⟨⟨⟨⟨⟨⟨hP, h0⟩, h1⟩, h2⟩, h3⟩, h4⟩, h5⟩, h6⟩, h7⟩, h8⟩, h9⟩, h10⟩, w⟩, l⟩, x⟩, e1⟩, e2⟩, e3⟩
  refine ⟨hP, ?_⟩
  rintro ⟨rfl, ⟨rfl, ho⟩ | ⟨rfl, ho⟩ | ⟨rfl, ho⟩ | ⟨rfl, ho, ho2⟩ | ⟨rfl, ho⟩⟩
  · rcases (show o = 0 ∨ o = 1 ∨ o = 2 ∨ o = 3 ∨ o = 4 ∨ o = 5 ∨ o = 6 ∨ o = 7 ∨ o = 8 ∨ o = 9 ∨ o = 10 by omega) with rfl | rfl | rfl | rfl | rfl | rfl | rfl | rfl | rfl | rfl | rfl
    · exact h0 ⟨rfl, rfl, rfl⟩
    · exact h1 ⟨rfl, rfl, rfl⟩
    · exact h2 ⟨rfl, rfl, rfl⟩
    · exact h3 ⟨rfl, rfl, rfl⟩
    · exact h4 ⟨rfl, rfl, rfl⟩
    · exact h5 ⟨rfl, rfl, rfl⟩
    · exact h6 ⟨rfl, rfl, rfl⟩
    · exact h7 ⟨rfl, rfl, rfl⟩
    · exact h8 ⟨rfl, rfl, rfl⟩
    · exact h9 ⟨rfl, rfl, rfl⟩
    · exact h10 ⟨rfl, rfl, rfl⟩
  · exact w ⟨rfl, rfl, ho⟩
  · exact l ⟨rfl, rfl, ho⟩
  · rcases (show o = 1 ∨ o = 2 ∨ o = 3 by omega) with rfl | rfl | rfl
    · exact e1 ⟨rfl, rfl, rfl⟩
    · exact e2 ⟨rfl, rfl, rfl⟩
    · exact e3 ⟨rfl, rfl, rfl⟩
  · exact x ⟨rfl, rfl, ho⟩
theorem s_ccopy {P : zP} {s s' : zM} (h : zK P s s') (j : Nat) : zT (fCa_copyFrom j j s' s) (zK (fun k i o => P k i o ∧ ¬ (k = 12 ∧ i = j ∧ o ≤ 2)) s) := by
  unfold fCa_copyFrom
  refine zT_l (zT_l (zT_l (zT_s (zK.mono (((h.w 12 j 0).w 12 j 1).w 12 j 2) ?_))))
  rintro k i o ⟨⟨⟨hP, h0⟩, h1⟩, h2⟩
  refine ⟨hP, fun z => ?_⟩
  omega
/-- what is still to be copied, from turbine j on -/
def s_Cj (n j : Nat) : zP := fun k i o => (j ≤ i ∧ i < n ∧ ((k = 7 ∧ o ≤ 10) ∨ (k = 8 ∧ o < 3) ∨ (k = 9 ∧ o < 8) ∨ (k = 10 ∧ 1 ≤ o ∧ o ≤ 3) ∨ (k = 11 ∧ o < 30))) ∨ (k = 12 ∧ i < 2 ∧ o ≤ 2)
theorem s_copy {n : Nat} {s s' : zM} (hS : s_St n s) (h : zK (s_CP n) s s') : fSe_copyFrom s' s = some s := by
  obtain ⟨h8, h5, h6, h7, -⟩ := hS
  have key : zT (fSe_copyFrom s' s) fun r => r = s := by
    unfold fSe_copyFrom
    refine zT_l (zT_l (zT_l (zT_l (zT_l (zT_l ?_)))))
    have a1 : zK (fun k i o => 1 ≤ k ∧ s_CP n k i o) s (zu (zu (zu (zu (zu (zu s' 0 0 5 (s 0 0 5)) 0 0 6 (s 0 0 6)) 0 0 7 (s 0 0 7)) 0 0 8 (s 0 0 8)) 0 0 9 (s 0 0 9)) 0 0 10 (s 0 0 10)) := by
      refine zK.mono ((((((h.w 0 0 5).w 0 0 6).w 0 0 7).w 0 0 8).w 0 0 9).w 0 0 10) ?_
      rintro k i o ⟨⟨⟨⟨⟨⟨hP, c5⟩, c6⟩, c7⟩, c8⟩, c9⟩, c10⟩
      refine ⟨Nat.pos_of_ne_zero ?_, hP⟩
      rintro rfl
      rcases hP with ⟨-, rfl, g1, g2⟩ | ⟨g, -⟩ | ⟨g, -⟩ | ⟨g, -⟩ | ⟨g, -⟩ | ⟨g, -⟩ | ⟨g, -⟩ | ⟨g, -⟩ | ⟨g, -⟩ | ⟨g, -⟩
      · rcases (show o = 5 ∨ o = 6 ∨ o = 7 ∨ o = 8 ∨ o = 9 ∨ o = 10 by omega) with rfl | rfl | rfl | rfl | rfl | rfl
        · exact c5 ⟨rfl, rfl, rfl⟩
        · exact c6 ⟨rfl, rfl, rfl⟩
        · exact c7 ⟨rfl, rfl, rfl⟩
        · exact c8 ⟨rfl, rfl, rfl⟩
        · exact c9 ⟨rfl, rfl, rfl⟩
        · exact c10 ⟨rfl, rfl, rfl⟩
      all_goals exact absurd g (by decide)
    generalize zu (zu (zu (zu (zu (zu s' 0 0 5 (s 0 0 5)) 0 0 6 (s 0 0 6)) 0 0 7 (s 0 0 7)) 0 0 8 (s 0 0 8)) 0 0 9 (s 0 0 9)) 0 0 10 (s 0 0 10) = u1 at a1 ⊢
    refine zT_c (R := fun r => zK (fun k i o => 5 ≤ k ∧ s_CP n k i o) s r) ?_ fun u2 _ a2 => zT_c (R := fun r => zK (s_Cj n 0) s r) ?_ fun u3 _ a3 => ?_
    · unfold fWe_copyFrom fWe_set
      refine zT_c (R := fun r => zK (fun k i o => 5 ≤ k ∧ s_CP n k i o) s r) (zT_l (zT_l (zT_l (zT_l (zT_l (zT_s ?_)))))) fun r _ hr => zT_s hr
      refine zK.mono (((((a1.w 4 0 0).w 4 0 1).w 4 0 2).w 4 0 3).w 4 0 4) ?_
      rintro k i o ⟨⟨⟨⟨⟨⟨hk, hP⟩, c0⟩, c1⟩, c2⟩, c3⟩, c4⟩
      refine ⟨?_, hP⟩
      rcases hP with ⟨g, -⟩ | ⟨rfl, rfl, g1⟩ | ⟨g, -⟩ | ⟨g, -⟩ | ⟨g, -⟩ | ⟨g, -⟩ | ⟨g, -⟩ | ⟨g, -⟩ | ⟨g, -⟩ | ⟨g, -⟩
      · omega
      · rcases (show o = 0 ∨ o = 1 ∨ o = 2 ∨ o = 3 ∨ o = 4 by omega) with rfl | rfl | rfl | rfl | rfl
        · exact absurd ⟨rfl, rfl, rfl⟩ c0
        · exact absurd ⟨rfl, rfl, rfl⟩ c1
        · exact absurd ⟨rfl, rfl, rfl⟩ c2
        · exact absurd ⟨rfl, rfl, rfl⟩ c3
        · exact absurd ⟨rfl, rfl, rfl⟩ c4
      all_goals omega
    · unfold fLe_copyFrom
      refine zT_l (zT_l (zT_l (zT_l (zT_l (zT_s ?_)))))
      refine zK.mono (((((a2.wr 6 0 24).w 5 0 1).w 5 0 2).w 5 0 3).w 5 0 4) ?_
      rintro k i o ⟨⟨⟨⟨⟨⟨hk, hP⟩, c6⟩, c1⟩, c2⟩, c3⟩, c4⟩
      rcases hP with ⟨g, -⟩ | ⟨g, -⟩ | ⟨rfl, rfl, g1, g2⟩ | ⟨rfl, rfl, g1⟩ | ⟨g, g1, g2⟩ | ⟨g, g1, g2⟩ | ⟨g, g1, g2⟩ | ⟨g, g1, g2, g3⟩ | ⟨g, g1, g2⟩ | ⟨g, g1, g2⟩
      · omega
      · omega
      · rcases (show o = 1 ∨ o = 2 ∨ o = 3 ∨ o = 4 by omega) with rfl | rfl | rfl | rfl
        · exact absurd ⟨rfl, rfl, rfl⟩ c1
        · exact absurd ⟨rfl, rfl, rfl⟩ c2
        · exact absurd ⟨rfl, rfl, rfl⟩ c3
        · exact absurd ⟨rfl, rfl, rfl⟩ c4
      · exact absurd ⟨rfl, rfl, g1⟩ c6
      · exact Or.inl ⟨Nat.zero_le _, g1, Or.inl ⟨g, g2⟩⟩
      · exact Or.inl ⟨Nat.zero_le _, g1, Or.inr (Or.inl ⟨g, g2⟩)⟩
      · exact Or.inl ⟨Nat.zero_le _, g1, Or.inr (Or.inr (Or.inl ⟨g, g2⟩))⟩
      · exact Or.inl ⟨Nat.zero_le _, g1, Or.inr (Or.inr (Or.inr (Or.inl ⟨g, g2, g3⟩)))⟩
      · exact Or.inl ⟨Nat.zero_le _, g1, Or.inr (Or.inr (Or.inr (Or.inr ⟨g, g2⟩)))⟩
      · exact Or.inr ⟨g, g1, g2⟩
    · refine zT_c (R := fun r => zK (fun k i o => k = 12 ∧ i < 2 ∧ o ≤ 2) s r) (zT_it (fun d q => ∃ j : Nat, q.1 = Int32.ofNat j ∧ j + d = n ∧ zK (s_Cj n j) s q.2) ?_ n 1000 _ (by omega) ⟨0, rfl, by omega, a3⟩) fun u4 _ a4 => ?_
      · rintro d ⟨i, u⟩ ⟨j, hi, hj, ku⟩
        dsimp only at hi ku
        subst hi
        have eu : u 0 0 5 = Int32.ofNat n := (ku 0 0 5 (fun z => by
          rcases z with ⟨-, -, ⟨g, -⟩ | ⟨g, -⟩ | ⟨g, -⟩ | ⟨g, -⟩ | ⟨g, -⟩⟩ | ⟨g, -⟩ <;> exact absurd g (by decide))).trans h5
        unfold fSe_copyFrom_l72
        dsimp only
        refine zT_i (fun hh => zT_s (ku.mono ?_)) fun hh => ?_
        · rw [eu, znle (by omega) (by omega)] at hh
          rintro k i o (⟨g1, g2, -⟩ | g)
          · omega
          · exact g
        · have hjn : j < n := by
            rw [eu, znle (by omega) (by omega)] at hh
            omega
          refine zT_xn (by omega) (by decide) (zT_xn (by omega) (by decide) (zT_c (s_tcopy ku j) fun r _ hr => zT_l (zT_s ⟨d - 1, by omega, j + 1, zn1 j, by omega, hr.mono ?_⟩)))
          rintro k i o ⟨⟨g1, g2, g3⟩ | g, hn⟩
          · refine Or.inl ⟨?_, g2, g3⟩
            rcases Nat.lt_or_ge j i with q | q
            · exact q
            · exact absurd ⟨by omega, g3⟩ hn
          · exact Or.inr g
      · refine zT_c (R := fun r => r = s) (zT_it (fun d q => ∃ j : Nat, q.1 = Int32.ofNat j ∧ j + d = 2 ∧ zK (fun k i o => k = 12 ∧ j ≤ i ∧ i < 2 ∧ o ≤ 2) s q.2) ?_ 2 1000 _ (by decide) ⟨0, rfl, rfl, a4.mono fun k i o z => ⟨z.1, Nat.zero_le _, z.2.1, z.2.2⟩⟩) fun u5 _ a5 => ?_
        · rintro d ⟨i, u⟩ ⟨j, hi, hj, ku⟩
          dsimp only at hi ku
          subst hi
          have eu : u 0 0 6 = Int32.ofNat 2 := (ku 0 0 6 (by omega)).trans h6
          unfold fSe_copyFrom_l103
          dsimp only
          refine zT_i (fun hh => zT_s (ku.no ?_)) fun hh => ?_
          · rw [eu, znle (by omega) (by omega)] at hh
            intro k i o
            omega
          · have hjn : j < 2 := by
              rw [eu, znle (by omega) (by omega)] at hh
              omega
            refine zT_xn (by omega) (by decide) (zT_xn (by omega) (by decide) (zT_c (s_ccopy ku j) fun r _ hr => zT_l (zT_s ⟨d - 1, by omega, j + 1, zn1 j, by omega, hr.mono ?_⟩)))
            rintro k i o ⟨⟨g1, g2, g3, g4⟩, hn⟩
            exact ⟨g1, by omega, g3, g4⟩
        · subst a5
          exact zT_c (R := fun r => r = u5) ⟨u5, zit_end 999 (by unfold fSe_copyFrom_l134; exact if_pos (show u5 0 0 7 ≤ (0 : Int32) by rw [h7]; decide)), rfl⟩ fun r _ hr => zT_s hr
  obtain ⟨r, e, rfl⟩ := key
  exact e
/-! ===== hours ===== -/
def s_F : Nat → Int32 → zM → Option (Int32 × zM)
  | 0, m, u => some (m, u)
  | d + 1, m, u => Option.bind (fSe_passHour u) fun q => s_F d (m + q.1) q.2
theorem s_phs (h : Nat) (hh : h < 1000) (s : zM) : fSe_passHours (Int32.ofNat h) s = s_F h 0 s := by
  have key : ∀ (d n i : Nat) (m : Int32) (u : zM), i + d = h → d < n → ziter (fSe_passHours_l4 (Int32.ofNat h)) n (m, Int32.ofNat i, u) = s_F d m u := by
    intro d
    induction d with
    | zero =>
      intro n i m u hi hn
      obtain ⟨n, rfl⟩ : ∃ k, n = k + 1 := ⟨n - 1, by omega⟩
      refine zit_end n ?_
      unfold fSe_passHours_l4
      exact if_pos ((znle (by omega) (by omega)).mpr (by omega))
    | succ d ih =>
      intro n i m u hi hn
      obtain ⟨n, rfl⟩ : ∃ k, n = k + 1 := ⟨n - 1, by omega⟩
      rw [ziter_succ]
      unfold s_F
      cases hq : fSe_passHour u with
      | none =>
        rw [show fSe_passHours_l4 (Int32.ofNat h) (m, Int32.ofNat i, u) = none by
          unfold fSe_passHours_l4
          rw [if_neg (fun z => by rw [znle (by omega) (by omega)] at z; omega), hq]
          rfl]
        rfl
      | some q =>
        rw [show fSe_passHours_l4 (Int32.ofNat h) (m, Int32.ofNat i, u) = some (.inl (m + q.1, Int32.ofNat (i + 1), q.2)) by
          unfold fSe_passHours_l4
          rw [if_neg (fun z => by rw [znle (by omega) (by omega)] at z; omega), hq, ← zn1 i]
          rfl]
        exact ih n (i + 1) (m + q.1) q.2 (by omega) (by omega)
  unfold fSe_passHours
  rw [show ((0 : Int32), (0 : Int32), s) = (0, Int32.ofNat 0, s) from rfl, key h 1000 0 0 s (by omega) hh]
  cases s_F h 0 s with
  | none => rfl
  | some q => rfl
theorem s_Fs : ∀ (a b : Nat) (m : Int32) (u : zM), s_F (a + b) m u = Option.bind (s_F a m u) fun r => s_F b r.1 r.2
  | 0, b, m, u => by rw [Nat.zero_add]; rfl
  | a + 1, b, m, u => by
    rw [show a + 1 + b = (a + b) + 1 by omega]
    show Option.bind (fSe_passHour u) _ = Option.bind (Option.bind (fSe_passHour u) _) _
    cases fSe_passHour u with
    | none => rfl
    | some q => exact s_Fs a b (m + q.1) q.2
theorem s_F1 (m : Int32) (u : zM) : s_F 1 m u = Option.bind (fSe_passHour u) fun q => some (m + q.1, q.2) := rfl
theorem s_FT {n : Nat} : ∀ (h : Nat) (m : Int32) (u : zM), s_Iv n u → zT (s_F h m u) fun r => zK (s_PH n) u r.2 ∧ s_Iv n r.2
  | 0, m, u, hI => zT_s ⟨zK.rf, hI⟩
  | h + 1, m, u, hI => zT_c (s_passHour hI) fun q _ hq => zT_m (s_FT h (m + q.1) q.2 hq.2.2) fun r hr => ⟨hq.2.1.tr hr.1, hr.2⟩
