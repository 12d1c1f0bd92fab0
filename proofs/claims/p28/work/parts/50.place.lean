/-! ===== the first of the places that none passes ===== -/
def s_V (s : zM) (n p : Nat) : Int32 := if fSe_isTaken (Int32.ofNat p / 20) (Int32.ofNat p % 20) s = some 0 then s_P s n (Int32.ofNat p / 20) (Int32.ofNat p % 20) else -1
def s_W (V : Nat → Int32) (k : Nat) (b m : Int32) : Prop := (b = -1 ∧ m = -1 ∧ ∀ p, p < k → (V p).toInt ≤ -1) ∨ ∃ j, j < k ∧ b = Int32.ofNat j ∧ m = V j ∧ -1 < (V j).toInt ∧ ∀ p, p < k → (V p).toInt ≤ (V j).toInt ∧ (p < j → (V p).toInt < (V j).toInt)
theorem s_W_keep {V : Nat → Int32} {k : Nat} {b m : Int32} (h : s_W V k b m) (hc : (V k).toInt ≤ m.toInt) : s_W V (k + 1) b m := by
  rcases h with ⟨h1, h2, h3⟩ | ⟨j, hj, h1, h2, h3, h4⟩
  · refine Or.inl ⟨h1, h2, fun p hp => ?_⟩
    by_cases e : p = k
    · subst e
      rw [h2] at hc
      exact hc
    · exact h3 p (by omega)
  · refine Or.inr ⟨j, by omega, h1, h2, h3, fun p hp => ?_⟩
    by_cases e : p = k
    · subst e
      rw [h2] at hc
      exact ⟨hc, fun z => absurd z (by omega)⟩
    · exact h4 p (by omega)
theorem s_W_new {V : Nat → Int32} {k : Nat} {b m : Int32} (h : s_W V k b m) (hc : m.toInt < (V k).toInt) : s_W V (k + 1) (Int32.ofNat k) (V k) := by
  rcases h with ⟨h1, h2, h3⟩ | ⟨j, hj, h1, h2, h3, h4⟩
  · have hm : m.toInt = -1 := by rw [h2]; rfl
    refine Or.inr ⟨k, by omega, rfl, rfl, by omega, fun p hp => ?_⟩
    by_cases e : p = k
    · subst e
      exact ⟨Int.le_refl _, fun z => absurd z (by omega)⟩
    · have := h3 p (by omega)
      exact ⟨by omega, fun _ => by omega⟩
  · rw [h2] at hc
    refine Or.inr ⟨k, by omega, rfl, rfl, by omega, fun p hp => ?_⟩
    by_cases e : p = k
    · subst e
      exact ⟨Int.le_refl _, fun z => absurd z (by omega)⟩
    · have := (h4 p (by omega)).1
      exact ⟨by omega, fun _ => by omega⟩
theorem s_taken0 {n : Nat} {s : zM} (h8 : n ≤ 8) (h5 : s 0 0 5 = Int32.ofNat n) {x y : Int32} (hf : s_free n s x y) : fSe_isTaken x y s = some 0 := by
  obtain ⟨r, e, h⟩ := s_isTaken h8 h5 x y
  rcases h with ⟨-, rfl⟩ | ⟨⟨i, hi, z⟩, -⟩
  · exact e
  · exact absurd z (hf i hi)
theorem s_taken_free {n : Nat} {s : zM} (h8 : n ≤ 8) (h5 : s 0 0 5 = Int32.ofNat n) {x y : Int32} (hf : fSe_isTaken x y s = some 0) : s_free n s x y := by
  obtain ⟨r, e, h⟩ := s_isTaken h8 h5 x y
  rcases h with ⟨h, -⟩ | ⟨-, rfl⟩
  · exact h
  · rw [e] at hf
    exact absurd hf (by decide)
theorem s_Pnn {s : zM} {n : Nat} (h8 : n < 8) (x y : Int32) : 0 ≤ (s_P s n x y).toInt := (s_alb _ _ (M := n + 1) (by omega) 8 (by decide)).1
theorem s_bestFor {n : Nat} {s : zM} (u : zM) (h8 : n < 8) (h5 : s 0 0 5 = Int32.ofNat n) : zT (fSi_bestFor u s) fun r => ∃ m, s_W (s_V s n) 400 r.1 m := by
  unfold fSi_bestFor
  refine zT_c (s_tds (u := u) (by omega) h5) fun q _ hq => zT_c (R := fun r => ∃ m, s_W (s_V s n) 400 r m) (zT_it (fun e r => ∃ k : Nat, r.2.2 = Int32.ofNat k ∧ k + e = 400 ∧ s_W (s_V s n) k r.1 r.2.1) ?_ 400 1000 _ (by omega) ⟨0, rfl, by omega, Or.inl ⟨rfl, rfl, fun p hp => absurd hp (Nat.not_lt_zero p)⟩⟩) fun r _ hr => zT_s hr
  rintro e ⟨b, m, i⟩ ⟨k, hi, hk, hw⟩
  dsimp only at hi hw
  subst hi
  unfold fSi_bestFor_l27
  dsimp only
  refine zT_i (fun hh => zT_s ?_) fun hh => ?_
  · rw [show (400 : Int32) = Int32.ofNat 400 from rfl, znle (by omega) (by omega)] at hh
    obtain rfl : k = 400 := by omega
    exact ⟨m, hw⟩
  have hkn : k < 400 := by
    rw [show (400 : Int32) = Int32.ofNat 400 from rfl, znle (by omega) (by omega)] at hh
    omega
  refine zT_l (zT_l (zT_c (s_isTaken (by omega) h5 (Int32.ofNat k / 20) (Int32.ofNat k % 20)) fun t ht _ => zT_c (R := fun v => v = s_V s n k) ?_ fun v _ hv => zT_c (R := fun r => s_W (s_V s n) (k + 1) r.1 r.2) ?_ fun r _ hr => zT_l (zT_s ⟨e - 1, by omega, k + 1, zn1 k, by omega, hr⟩)))
  · refine zT_i (fun h0 => ?_) fun h0 => zT_s ?_
    · rw [s_powerWith _ _ h8 h5 hq, Option.bind_some]
      refine zT_s ?_
      unfold s_V
      rw [if_pos (by rw [ht, h0])]
    · unfold s_V
      rw [if_neg (fun z => h0 (Option.some.inj (ht.symm.trans z)))]
  · subst hv
    refine zT_i (fun hc => zT_s (s_W_keep hw (zle.mp hc))) fun hc => zT_s (s_W_new hw (Int.not_le.mp fun z => hc (zle.mpr z)))
theorem s_bestPlace {n : Nat} {s : zM} (u : zM) (h8 : n < 8) (h5 : s 0 0 5 = Int32.ofNat n) (hl : s_free n s 19 19) : ∃ j u', j < 400 ∧ (∀ s0 s2, fWB_bestPlace s0 s s2 u = some (Int32.ofNat j, u')) ∧ s_free n s (Int32.ofNat j / 20) (Int32.ofNat j % 20) ∧ ∀ p, p < 400 → s_free n s (Int32.ofNat p / 20) (Int32.ofNat p % 20) → (s_P s n (Int32.ofNat p / 20) (Int32.ofNat p % 20)).toInt ≤ (s_P s n (Int32.ofNat j / 20) (Int32.ofNat j % 20)).toInt ∧ (p < j → (s_P s n (Int32.ofNat p / 20) (Int32.ofNat p % 20)).toInt < (s_P s n (Int32.ofNat j / 20) (Int32.ofNat j % 20)).toInt) := by
  obtain ⟨r, e, m, hW⟩ := s_bestFor u h8 h5
  have hv : ∀ p, s_free n s (Int32.ofNat p / 20) (Int32.ofNat p % 20) → s_V s n p = s_P s n (Int32.ofNat p / 20) (Int32.ofNat p % 20) := fun p hf => if_pos (s_taken0 (by omega) h5 hf)
  rcases hW with ⟨-, -, h⟩ | ⟨j, hj, h1, h2, h3, h4⟩
  · have h9 := h 399 (by decide)
    rw [hv 399 hl] at h9
    have := s_Pnn (s := s) h8 (Int32.ofNat 399 / 20) (Int32.ofNat 399 % 20)
    omega
  · have hf : s_free n s (Int32.ofNat j / 20) (Int32.ofNat j % 20) := s_taken_free (by omega) h5 (by
      apply Classical.byContradiction
      intro hn
      unfold s_V at h3
      rw [if_neg hn] at h3
      exact absurd h3 (by decide))
    refine ⟨j, r.2, hj, fun s0 s2 => ?_, hf, fun p hp hp2 => ?_⟩
    · unfold fWB_bestPlace
      rw [if_pos (by rw [h5, zlt, zon (by omega), show (8 : Int32).toInt = 8 from rfl]; omega), e, Option.bind_some, h1]
    · have := h4 p hp
      rw [hv p hp2, hv j hf] at this
      exact this
