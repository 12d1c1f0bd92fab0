/-! an hour of a sea that is made -/
def s_M (M : Nat) (X Y : Nat → Int32) (d : Nat) (s : zM) : Prop := s_Iv M s ∧ s_Rn M X Y s ∧ s 0 0 9 = -51 ∧ (∀ o, o < 2 → s 12 o 0 = 9999) ∧ ∀ i, i < M → s_We d s i
def s_Q3 (M : Nat) : zP := fun k i o => (k = 7 ∧ i < M ∧ 8 ≤ o ∧ o ≤ 10) ∨ (k = 9 ∧ i < M ∧ o < 8)
def s_Q4 : zP := fun k _ o => (k = 0 ∧ o = 8) ∨ k = 5 ∨ k = 6 ∨ (k = 7 ∧ 8 ≤ o) ∨ k = 9 ∨ (k = 12 ∧ 1 ≤ o)
def s_Q5 : zP := fun k _ o => (k = 0 ∧ o = 8) ∨ k = 5 ∨ k = 6 ∨ (k = 7 ∧ 8 ≤ o) ∨ k = 9
theorem s_Q54 (k i o : Nat) (h : s_Q5 k i o) : s_Q4 k i o := by
  rcases h with h | h | h | h | h
  · exact Or.inl h
  · exact Or.inr (Or.inl h)
  · exact Or.inr (Or.inr (Or.inl h))
  · exact Or.inr (Or.inr (Or.inr (Or.inl h)))
  · exact Or.inr (Or.inr (Or.inr (Or.inr (Or.inl h))))
def s_Pv : zP := fun k _ _ => k = 8 ∨ k = 10 ∨ k = 11
theorem s_Rn.k {M : Nat} {X Y : Nat → Int32} {s s' : zM} {P : zP} (h : s_Rn M X Y s) (hk : zK P s s') (hp : ∀ i o, o = 0 ∨ o = 1 ∨ o = 3 ∨ o = 7 → ¬ P 7 i o) : s_Rn M X Y s' := fun i hi => by
  obtain ⟨a, b, c, d⟩ := h i hi
  refine ⟨?_, ?_, ?_, ?_⟩
  · rw [hk 7 i 0 (hp i 0 (by omega))]; exact a
  · rw [hk 7 i 1 (hp i 1 (by omega))]; exact b
  · rw [hk 7 i 3 (hp i 3 (by omega))]; exact c
  · rw [hk 7 i 7 (hp i 7 (by omega))]; exact d
theorem s_pw10v : (s_pw 10).toInt = 1000 := by decide
theorem s_Mh {M d dd : Nat} {X Y : Nat → Int32} {s : zM} (hd : d < 8) (h : s_M M X Y d s) (hdd : dd < 8) (h40 : s 4 0 0 = Int32.ofNat dd) (h41 : s 4 0 1 = 10) (h43 : s 4 0 3 = 0) (h44 : s 4 0 4 = 20000) : zT (fSe_passHour s) fun r => r.1 = s_hr X Y (Int32.ofNat dd) M M ∧ s_M M X Y (d + 1) r.2 := by
  obtain ⟨hI, hR, h9, hr, hW⟩ := h
  obtain ⟨h8, h5, h6, h7, ht, -, ho⟩ := id hI.1
  have new : zT (fSe_passHour s) fun r => r.1 = s_hr X Y (Int32.ofNat dd) M M ∧ s_Rn M X Y r.2 ∧ ∀ i, i < M → s_We (d + 1) r.2 i := by
    unfold fSe_passHour
    refine zT_l ?_
    generalize hu : zu s 0 0 8 _ = s1
    have k1s : zK s_Q5 s s1 := by
      rw [← hu]
      exact zK.rf.u (Or.inl ⟨rfl, rfl⟩)
    have k1 : zK s_Q4 s s1 := k1s.mono s_Q54
    have W : ∀ {u : zM}, zK s_Q4 s u → ∀ i, i < M → s_We d u i := fun k i hi => (hW i hi).k k (fun o _ => by unfold s_Q4; omega) (by unfold s_Q4; omega) (fun o _ => by unfold s_Q4; omega)
    have R : ∀ {u : zM}, zK s_Q4 s u → s_Rn M X Y u := fun k => hR.k k (fun i o z => by unfold s_Q4; omega)
    have w4 : ∀ {u : zM}, zK s_Q4 s u → ∀ o, u 4 0 o = s 4 0 o := fun k o => k 4 0 o (by unfold s_Q4; omega)
    have w5 : ∀ {u : zM}, zK s_Q4 s u → u 0 0 5 = Int32.ofNat M := fun k => (k 0 0 5 (by unfold s_Q4; omega)).trans h5
    refine zT_c (R := fun s' => s' = s1) (zT_it (fun e q => ∃ k : Nat, q.1 = Int32.ofNat k ∧ k + e = M ∧ q.2 = s1) ?_ M 1000 _ (by omega) ⟨0, rfl, by omega, rfl⟩) fun s2 _ e2 => ?_
    · rintro e ⟨i, u⟩ ⟨k, hi, hk, ku⟩
      dsimp only at hi ku
      subst hi
      subst ku
      unfold fSe_passHour_l12
      dsimp only
      refine zT_i (fun _ => zT_s rfl) fun hh => ?_
      have hkn : k < M := by
        rw [w5 k1, znle (by omega) (by omega)] at hh
        omega
      refine zT_xn (by omega) (by decide) (zT_c (s_settleNo (R k1 k hkn).2.2.1 ?_ ((w4 k1 1).trans h41) ((W k1 k hkn).lim (by omega))) fun v _ hv => zT_l (zT_s ⟨e - 1, by omega, k + 1, zn1 k, by omega, hv⟩))
      rw [w4 k1 3, h43, k1 0 0 9 (by unfold s_Q4; omega), h9]
      decide
    subst e2
    rw [w4 k1 1, h41, s_pwE, Option.bind_some]
    have G : ∀ i, 0 ≤ (s_pA (s_GS X Y (Int32.ofNat dd) i M)).toInt ∧ (s_pA (s_GS X Y (Int32.ofNat dd) i M)).toInt ≤ 1000 := fun i => by
      obtain ⟨g1, g2, g3, g4⟩ := s_GSb X Y (Int32.ofNat dd) i M h8
      exact s_pAb g1 g2 g3 (by omega)
    refine zT_c (R := fun s' => zK s_Q5 s s' ∧ ∀ i, i < M → s' 7 i 10 = s_pA (s_GS X Y (Int32.ofNat dd) i M) ∧ s' 7 i 8 = s_wd (s_GS X Y (Int32.ofNat dd) i M)) (zT_it (fun e q => ∃ k : Nat, q.1 = Int32.ofNat k ∧ k + e = M ∧ zK s_Q5 s q.2 ∧ ∀ i, i < k → q.2 7 i 10 = s_pA (s_GS X Y (Int32.ofNat dd) i M) ∧ q.2 7 i 8 = s_wd (s_GS X Y (Int32.ofNat dd) i M)) ?_ M 1000 _ (by omega) ⟨0, rfl, by omega, k1s, fun i hi => absurd hi (Nat.not_lt_zero i)⟩) fun s3 _ h3 => ?_
    · rintro e ⟨i, u⟩ ⟨k, hi, hk, ku, lu⟩
      dsimp only at hi ku lu
      subst hi
      have kw := ku.mono s_Q54
      unfold fSe_passHour_l56
      dsimp only
      refine zT_i (fun hh => zT_s ⟨ku, by
        rw [w5 kw, znle (by omega) (by omega)] at hh
        intro i hi
        exact lu i (by omega)⟩) fun hh => ?_
      have hkn : k < M := by
        rw [w5 kw, znle (by omega) (by omega)] at hh
        omega
      obtain ⟨-, -, r3, r7⟩ := R kw k hkn
      refine zT_xn (by omega) (by decide) (zT_c (s_defM h8 (w5 kw) (R kw) hdd ((w4 kw 0).trans h40) hkn) fun df _ hdf => zT_c (R := fun w => w = s_wd (s_GS X Y (Int32.ofNat dd) k M)) ?_ fun w _ hw => ?_)
      · subst hdf
        rw [w4 kw 1, h41]
        unfold fWa_wind
        exact zT_s rfl
      · subst hw
        refine zT_c (s_takeM r3 r7 (G k).1 (by rw [s_pw10v]; exact (G k).2) (by rw [s_pw10v]; decide)) fun v _ hv => zT_l (zT_s ⟨e - 1, by omega, k + 1, zn1 k, by omega, ku.tr (hv.1.mono fun a b c z => ?_), fun i hi => ?_⟩)
        · rcases z with ⟨z, -, z2, -⟩ | ⟨z, -⟩
          · exact Or.inr (Or.inr (Or.inr (Or.inl ⟨z, z2⟩)))
          · exact Or.inr (Or.inr (Or.inr (Or.inr z)))
        · by_cases hik : i = k
          · subst hik
            exact ⟨hv.2.2, hv.2.1⟩
          · show v 7 i 10 = _ ∧ v 7 i 8 = _
            rw [hv.1 7 i 10 (by unfold s_Pl; omega), hv.1 7 i 8 (by unfold s_Pl; omega)]
            exact lu i (by omega)
    obtain ⟨k3s, l3⟩ := h3
    have k3 := k3s.mono s_Q54
    have L3 : ∀ i, i < M → 0 ≤ (s3 7 i 10).toInt ∧ (s3 7 i 10).toInt ≤ 1000 := fun i hi => by
      rw [(l3 i hi).1]
      exact G i
    have e12 : ∀ o, o < 2 → s3 12 o 1 = s 12 o 1 := fun o ho => k3s 12 o 1 (by unfold s_Q5; omega)
    have H3 : ∀ o, o < 2 → s3 12 o 0 = 9999 ∧ 0 ≤ (s3 12 o 1).toInt ∧ (s3 12 o 1).toInt ≤ 9999 := fun o ho => by
      have h1 := hI.2.2 o ho
      rw [hr o ho] at h1
      rw [k3 12 o 0 (by unfold s_Q4; omega), e12 o ho]
      exact ⟨hr o ho, h1.1, h1.2⟩
    refine zT_c (s_loadNo h8 (w5 k3) ((k3 0 0 6 (by unfold s_Q4; omega)).trans h6) L3 H3) fun s4 _ k4' => ?_
    have k4 : zK s_Q4 s s4 := k3.tr (k4'.mono fun a b c z => Or.inr (Or.inr (Or.inr (Or.inr (Or.inr ⟨z.1, z.2.2.1⟩)))))
    have l4 : ∀ i, i < M → s4 7 i 10 = s_pA (s_GS X Y (Int32.ofNat dd) i M) ∧ s4 7 i 8 = s_wd (s_GS X Y (Int32.ofNat dd) i M) := fun i hi => by
      rw [k4' 7 i 10 (by unfold s_Pc; omega), k4' 7 i 8 (by unfold s_Pc; omega)]
      exact l3 i hi
    refine zT_c (s_giveNo h8 (w5 k4) (fun i hi => by rw [(l4 i hi).1]; exact G i) (-1) (s4 4 0 4) 7 (by rw [w4 k4 4, h44]; decide)) fun r _ hr5 => ?_
    obtain ⟨hr5a, hr5b⟩ := hr5
    have hsum : ∀ k, k ≤ M → s_sm s4 k = s_hr X Y (Int32.ofNat dd) M k := by
      intro k
      induction k with
      | zero => intro _; rfl
      | succ k ih =>
        intro hk
        show s_sm s4 k + s4 7 k 10 = s_hr X Y (Int32.ofNat dd) M k + s_pA (s_GS X Y (Int32.ofNat dd) k M)
        rw [ih (by omega), (l4 k (by omega)).1]
    have hval : r.1 = s_hr X Y (Int32.ofNat dd) M M := (hr5b rfl).trans (hsum M (Nat.le_refl M))
    rw [hr5a]
    refine zT_c (s_book _ _ _ s4) fun s6 _ k6' => ?_
    have k6 : zK s_Q4 s s6 := k4.tr (k6'.mono fun a b c z => by
      rcases z with z | z
      · exact Or.inr (Or.inl z.1)
      · exact Or.inr (Or.inr (Or.inl z.1)))
    have l6 : ∀ i, i < M → s6 7 i 8 = s_wd (s_GS X Y (Int32.ofNat dd) i M) := fun i hi => (k6' 7 i 8 (by unfold s_Pb; omega)).trans (l4 i hi).2
    refine zT_c (R := fun s' => zK s_Pv s6 s' ∧ ∀ i, i < M → s_We (d + 1) s' i) (zT_it (fun e q => ∃ k : Nat, q.1 = Int32.ofNat k ∧ k + e = M ∧ zK s_Pv s6 q.2 ∧ (∀ i, i < k → s_We (d + 1) q.2 i) ∧ ∀ i, k ≤ i → i < M → s_We d q.2 i) ?_ M 1000 _ (by omega) ⟨0, rfl, by omega, zK.rf, fun i hi => absurd hi (Nat.not_lt_zero i), fun i _ hi => W k6 i hi⟩) fun s7 _ h7' => ?_
    · rintro e ⟨i, u⟩ ⟨k, hi, hk, ku, lu, mu⟩
      dsimp only at hi ku lu mu
      subst hi
      unfold fSe_passHour_l137
      dsimp only
      have u5 : u 0 0 5 = Int32.ofNat M := (ku 0 0 5 (by unfold s_Pv; omega)).trans (w5 k6)
      refine zT_i (fun hh => zT_s ⟨ku, by
        rw [u5, znle (by omega) (by omega)] at hh
        intro i hi
        exact lu i (by omega)⟩) fun hh => ?_
      have hkn : k < M := by
        rw [u5, znle (by omega) (by omega)] at hh
        omega
      obtain ⟨-, -, r3, r7⟩ := R k6 k hkn
      have hwb : 0 ≤ (u 7 k 8).toInt ∧ (u 7 k 8).toInt ≤ 10 := by
        rw [ku 7 k 8 (by unfold s_Pv; omega), l6 k hkn]
        obtain ⟨g1, g2, g3, g4⟩ := s_GSb X Y (Int32.ofNat dd) k M h8
        exact s_wdb g1 g2 g3 (by omega)
      refine zT_xn (by omega) (by decide) (zT_c (s_wearM hd ((ku 7 k 3 (by unfold s_Pv; omega)).trans r3) ((ku 7 k 7 (by unfold s_Pv; omega)).trans r7) hwb (mu k (Nat.le_refl k) hkn)) fun v _ hv => zT_l (zT_s ⟨e - 1, by omega, k + 1, zn1 k, by omega, ku.tr (hv.1.mono fun a b c z => ?_), fun i hi => ?_, fun i hi hi2 => ?_⟩))
      · rcases z with z | z | z
        · exact Or.inl z.1
        · exact Or.inr (Or.inr z.1)
        · exact Or.inr (Or.inl z.1)
      · by_cases hik : i = k
        · subst hik
          exact hv.2
        · exact (lu i (by omega)).k hv.1 (fun o _ => by unfold s_Pw; omega) (by unfold s_Pw; omega) (fun o _ => by unfold s_Pw; omega)
      · exact (mu i (by omega) hi2).k hv.1 (fun o _ => by unfold s_Pw; omega) (by unfold s_Pw; omega) (fun o _ => by unfold s_Pw; omega)
    obtain ⟨k7, l7⟩ := h7'
    refine zT_c (R := fun s' => s' = s7) ⟨s7, zit_end 999 ?_, rfl⟩ fun s8 _ e8 => zT_s ⟨hval, ?_, ?_⟩
    · unfold fSe_passHour_l162
      dsimp only
      exact if_pos (by rw [show s7 0 0 7 = 0 from (k7 0 0 7 (by unfold s_Pv; omega)).trans ((k6 0 0 7 (by unfold s_Q4; omega)).trans h7)]; decide)
    · rw [e8]
      exact (R k6).k k7 (fun i o z => by unfold s_Pv; omega)
    · rw [e8]
      exact l7
  obtain ⟨r, e, v, R', W'⟩ := new
  obtain ⟨r2, e2, -, k2, I2⟩ := s_passHour hI
  obtain rfl : r = r2 := Option.some.inj (e.symm.trans e2)
  exact ⟨r, e, v, I2, R', (k2 0 0 9 (by unfold s_PH; omega)).trans h9, fun o ho => (k2 12 o 0 (by unfold s_PH; omega)).trans (hr o ho), W'⟩
