/-! ===== a sea that is told: strings and turbines ===== -/
theorem zK.sy {P : zP} {s s' : zM} (h : zK P s s') : zK P s' s := fun k i o hn => (h k i o hn).symm
def s_str (r : Int32) (k : Nat) (s : zM) : zM := zu (zu s 12 k 0 r) 0 0 6 (Int32.ofNat (k + 1))
theorem s_nm1 (k : Nat) (hk : k < 100) : Int32.ofNat (k + 1) - 1 = Int32.ofNat k := s_ofs (c := k + 1) (m := 1) (by omega) rfl
theorem s_string {k : Nat} {r : Int32} {s : zM} (hk : k < 3) (h6 : s 0 0 6 = Int32.ofNat k) (hr : 100 ≤ r.toInt ∧ r.toInt ≤ 9999) (s0 s2 s3 : zM) : fWB_string r s0 s s2 s3 = some (.inl (Int32.ofNat k, s_str r k s)) := by
  unfold fWB_string fSe_addString
  dsimp only [zlet]
  rw [s_out (lo := 100) (hi := 9999) hr.1 hr.2, Option.bind_some, if_pos rfl, h6, if_pos (by rw [zlt, zon (by omega), z3i]; omega), show ∀ f : Nat → Option (Int32 × zM), zix (Int32.ofNat k) 3 f = f (Int32.ofNat k).toNatClampNeg from fun f => if_neg (zvin (by omega) (by decide)), zclm k (by omega), Option.bind_some, zzs, zzu (fun z => by omega), h6, zn1, s_nm1 k (by omega)]
  rfl
def s_free (n : Nat) (s : zM) (x y : Int32) : Prop := ∀ i, i < n → ¬ (s 7 i 0 = x ∧ s 7 i 1 = y)
theorem s_free_or (n : Nat) (s : zM) (x y : Int32) : s_free n s x y ∨ ∃ i, i < n ∧ s 7 i 0 = x ∧ s 7 i 1 = y := by
  by_cases h : ∃ i, i < n ∧ s 7 i 0 = x ∧ s 7 i 1 = y
  · exact Or.inr h
  · exact Or.inl fun i hi z => h ⟨i, hi, z⟩
theorem s_isTaken {n : Nat} {s : zM} (h8 : n ≤ 8) (h5 : s 0 0 5 = Int32.ofNat n) (x y : Int32) : zT (fSe_isTaken x y s) fun r => (s_free n s x y ∧ r = 0) ∨ ((∃ i, i < n ∧ s 7 i 0 = x ∧ s 7 i 1 = y) ∧ r = 1) := by
  unfold fSe_isTaken
  refine zT_c (R := fun r => (s_free n s x y ∧ r = .inl ()) ∨ ((∃ i, i < n ∧ s 7 i 0 = x ∧ s 7 i 1 = y) ∧ r = .inr 1)) (zT_it (fun d q => ∃ k : Nat, q = Int32.ofNat k ∧ k + d = n ∧ s_free k s x y) ?_ n 1000 _ (by omega) ⟨0, rfl, by omega, fun i hi => absurd hi (Nat.not_lt_zero i)⟩) fun r _ hr => ?_
  · rintro d q ⟨k, rfl, hk, hf⟩
    unfold fSe_isTaken_l2
    rw [h5]
    refine zT_i (fun hh => zT_s (Or.inl ⟨?_, rfl⟩)) fun hh => ?_
    · rw [znle (by omega) (by omega)] at hh
      obtain rfl : k = n := by omega
      exact hf
    have hkn : k < n := by
      rw [znle (by omega) (by omega)] at hh
      omega
    have more : ¬ (s 7 k 0 = x ∧ s 7 k 1 = y) → ∃ d', d' < d ∧ ∃ k' : Nat, Int32.ofNat k + 1 = Int32.ofNat k' ∧ k' + d' = n ∧ s_free k' s x y := fun hn => ⟨d - 1, by omega, k + 1, zn1 k, by omega, fun i hi => by
      by_cases e : i = k
      · subst e; exact hn
      · exact hf i (by omega)⟩
    refine zT_xn (by omega) (by decide) (zT_i (fun e0 => zT_xn (by omega) (by decide) (zT_i (fun e1 => zT_s (Or.inr ⟨⟨k, hkn, e0, e1⟩, rfl⟩)) fun e1 => zT_l (zT_s (more fun z => e1 z.2)))) fun e0 => zT_l (zT_s (more fun z => e0 z.1)))
  · rcases hr with ⟨hf, rfl⟩ | ⟨he, rfl⟩
    · exact zT_s (Or.inl ⟨hf, rfl⟩)
    · exact zT_s (Or.inr ⟨he, rfl⟩)
def s_tur (x y g : Int32) (n : Nat) (s : zM) : zM := zu (zu (zu (zu s 7 n 0 x) 7 n 1 y) 7 n 2 g) 0 0 5 (Int32.ofNat (n + 1))
theorem s_turbine {n : Nat} {s : zM} {x y g : Int32} (h8 : n < 8) (h5 : s 0 0 5 = Int32.ofNat n) (h6 : s 0 0 6 = 2) (hx : 0 ≤ x.toInt ∧ x.toInt ≤ 19) (hy : 0 ≤ y.toInt ∧ y.toInt ≤ 19) (hg : 0 ≤ g.toInt ∧ g.toInt ≤ 1) (hf : s_free n s x y) (s0 s2 s3 : zM) : fWB_turbine x y g s0 s s2 s3 = some (.inl (Int32.ofNat n, s_tur x y g n s)) := by
  have ht : fSe_isTaken x y s = some 0 := by
    obtain ⟨r, e, h⟩ := s_isTaken (by omega) h5 x y
    rcases h with ⟨-, rfl⟩ | ⟨⟨i, hi, z⟩, -⟩
    · exact e
    · exact absurd z (hf i hi)
  unfold fWB_turbine fWB_checkString fSe_addTurbine
  dsimp only [zlet]
  rw [h6, if_neg (fun z => by rw [zlt, z0i] at z; omega), if_pos (by rw [zlt, z2i]; omega), Option.bind_some, Sum.elim_inl, s_out (lo := 0) (hi := 19) hx.1 hx.2, Option.bind_some, if_pos rfl, s_out (lo := 0) (hi := 19) hy.1 hy.2, Option.bind_some, if_pos rfl, h5, if_neg (fun z => by rw [show (8 : Int32) = Int32.ofNat 8 from rfl, znle (by omega) (by omega)] at z; omega), ht, Option.bind_some, if_pos rfl, show ∀ f : Nat → Option (Int32 × zM), zix (Int32.ofNat n) 8 f = f (Int32.ofNat n).toNatClampNeg from fun f => if_neg (zvin (by omega) (by decide)), zclm n (by omega), Option.bind_some, zzs, zzu (fun z => by omega), zzu (fun z => by omega), zzu (fun z => by omega), h5, zn1, s_nm1 n (by omega)]
  rfl
/-- as told: only counts, ratings and the turbines' places differ from a fresh sea -/
def s_PQ (n : Nat) : zP := fun k i o => (k = 0 ∧ i = 0 ∧ 5 ≤ o ∧ o ≤ 6) ∨ (k = 7 ∧ i < n ∧ o ≤ 2) ∨ (k = 12 ∧ i < 2 ∧ o = 0)
def s_B (n : Nat) (s : zM) : Prop := zK (s_PQ n) zfr0 s ∧ s 0 0 5 = Int32.ofNat n ∧ s 0 0 6 = 2 ∧ ∀ o, o < 2 → 100 ≤ (s 12 o 0).toInt ∧ (s 12 o 0).toInt ≤ 9999
theorem s_B_0 {a b : Int32} (ha : 100 ≤ a.toInt ∧ a.toInt ≤ 9999) (hb : 100 ≤ b.toInt ∧ b.toInt ≤ 9999) : s_B 0 (s_str b 1 (s_str a 0 zfr0)) := by
  refine ⟨?_, rfl, rfl, fun o ho => ?_⟩
  · have h1 : s_PQ 0 0 0 6 := Or.inl ⟨rfl, rfl, by decide, by decide⟩
    exact ((((zK.rf (P := s_PQ 0) (s := zfr0)).u (Or.inr (Or.inr ⟨rfl, by decide, rfl⟩))).u h1).u (Or.inr (Or.inr ⟨rfl, by decide, rfl⟩))).u h1
  · rcases (show o = 0 ∨ o = 1 by omega) with rfl | rfl
    · exact ha
    · exact hb
theorem s_B_tur {n : Nat} {s : zM} (h : s_B n s) (x y g : Int32) : s_B (n + 1) (s_tur x y g n s) := by
  obtain ⟨hk, h5, h6, hr⟩ := h
  have m : zK (s_PQ (n + 1)) zfr0 s := hk.mono fun k i o z => by
    rcases z with z | ⟨z1, z2, z3⟩ | z
    · exact Or.inl z
    · exact Or.inr (Or.inl ⟨z1, by omega, z3⟩)
    · exact Or.inr (Or.inr z)
  have p : ∀ o, o ≤ 2 → s_PQ (n + 1) 7 n o := fun o ho => Or.inr (Or.inl ⟨rfl, by omega, ho⟩)
  refine ⟨(((m.u (p 0 (by decide))).u (p 1 (by decide))).u (p 2 (by decide))).u (Or.inl ⟨rfl, rfl, by decide, by decide⟩), ?_, ?_, fun o ho => ?_⟩
  · exact zzs _ _ _ _ _
  · exact h6
  · exact hr o ho
theorem s_B_tur7 {n : Nat} {s : zM} (x y g : Int32) {i o : Nat} (hi : i ≠ n) : s_tur x y g n s 7 i o = s 7 i o := by
  unfold s_tur
  rw [zzu (fun z => by omega), zzu (fun z => by omega), zzu (fun z => by omega), zzu (fun z => by omega)]
theorem s_B_Iv {n : Nat} {s : zM} (h8 : n ≤ 8) (h : s_B n s) : s_Iv n s := by
  obtain ⟨hk, h5, h6, hr⟩ := h
  refine ⟨⟨h8, h5, h6, ?_, fun i hi => ?_, fun o ho => ⟨by have := (hr o ho).1; omega, (hr o ho).2⟩, ?_⟩, fun i hi => ⟨0, by decide, ?_⟩, fun o ho => ?_⟩
  · exact (hk 0 0 7 (by unfold s_PQ; omega)).trans rfl
  · rw [hk 7 i 7 (by unfold s_PQ; omega)]
    exact (by decide : -2 ≤ (0 : Int32).toInt ∧ (0 : Int32).toInt ≤ 2)
  · rw [hk 4 0 4 (by unfold s_PQ; omega)]
    exact (by decide : (0 : Int) ≤ (20000 : Int32).toInt)
  · exact (hk 10 i 1 (by unfold s_PQ; omega)).trans rfl
  · rw [hk 12 o 1 (by unfold s_PQ; omega)]
    have := (hr o ho).1
    show 0 ≤ (0 : Int32).toInt ∧ (0 : Int32).toInt ≤ _
    rw [z0i]
    omega
theorem s_PQC (n k i o : Nat) (z : s_PQ n k i o) : s_CP n k i o := by
  rcases z with ⟨rfl, rfl, h1, h2⟩ | ⟨rfl, hi, ho⟩ | ⟨rfl, hi, rfl⟩
  · exact Or.inl ⟨rfl, rfl, h1, by omega⟩
  · exact Or.inr (Or.inr (Or.inr (Or.inr (Or.inl ⟨rfl, hi, by omega⟩))))
  · exact Or.inr (Or.inr (Or.inr (Or.inr (Or.inr (Or.inr (Or.inr (Or.inr (Or.inr ⟨rfl, hi, by decide⟩))))))))
theorem s_B_K {n : Nat} {s : zM} (h : s_B n s) : zK (s_CP n) s zfr0 := (h.1.mono (s_PQC n)).sy
