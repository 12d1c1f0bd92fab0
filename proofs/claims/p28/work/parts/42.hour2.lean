/-! ===== cables, the order, the book ===== -/
def s_PH (n : Nat) : zP := fun k i o => (k = 0 ∧ i = 0 ∧ o = 8) ∨ (k = 5 ∧ i = 0 ∧ 1 ≤ o ∧ o ≤ 4) ∨ (k = 6 ∧ i = 0 ∧ o < 24) ∨ (k = 7 ∧ i < n ∧ 3 ≤ o ∧ o ≤ 10 ∧ o ≠ 7) ∨ (k = 8 ∧ i < n ∧ o < 3) ∨ (k = 9 ∧ i < n ∧ o < 8) ∨ (k = 10 ∧ i < n ∧ 1 ≤ o ∧ o ≤ 3) ∨ (k = 11 ∧ i < n ∧ o < 30) ∨ (k = 12 ∧ i < 2 ∧ 1 ≤ o ∧ o ≤ 2)
theorem s_PH0 {n : Nat} : s_PH n 0 0 8 := Or.inl ⟨rfl, rfl, rfl⟩
theorem s_PH5 {n o : Nat} (h1 : 1 ≤ o) (h2 : o ≤ 4) : s_PH n 5 0 o := Or.inr (Or.inl ⟨rfl, rfl, h1, h2⟩)
theorem s_PH6 {n o : Nat} (h : o < 24) : s_PH n 6 0 o := Or.inr (Or.inr (Or.inl ⟨rfl, rfl, h⟩))
theorem s_PH7 {n i o : Nat} (hi : i < n) (h1 : 3 ≤ o) (h2 : o ≤ 10) (h3 : o ≠ 7) : s_PH n 7 i o := Or.inr (Or.inr (Or.inr (Or.inl ⟨rfl, hi, h1, h2, h3⟩)))
theorem s_PH8 {n i o : Nat} (hi : i < n) (h : o < 3) : s_PH n 8 i o := Or.inr (Or.inr (Or.inr (Or.inr (Or.inl ⟨rfl, hi, h⟩))))
theorem s_PH9 {n i o : Nat} (hi : i < n) (h : o < 8) : s_PH n 9 i o := Or.inr (Or.inr (Or.inr (Or.inr (Or.inr (Or.inl ⟨rfl, hi, h⟩)))))
theorem s_PH10 {n i o : Nat} (hi : i < n) (h1 : 1 ≤ o) (h2 : o ≤ 3) : s_PH n 10 i o := Or.inr (Or.inr (Or.inr (Or.inr (Or.inr (Or.inr (Or.inl ⟨rfl, hi, h1, h2⟩))))))
theorem s_PH11 {n i o : Nat} (hi : i < n) (h : o < 30) : s_PH n 11 i o := Or.inr (Or.inr (Or.inr (Or.inr (Or.inr (Or.inr (Or.inr (Or.inl ⟨rfl, hi, h⟩)))))))
theorem s_PH12 {n i o : Nat} (hi : i < 2) (h1 : 1 ≤ o) (h2 : o ≤ 2) : s_PH n 12 i o := Or.inr (Or.inr (Or.inr (Or.inr (Or.inr (Or.inr (Or.inr (Or.inr ⟨rfl, hi, h1, h2⟩)))))))
theorem s_St.k {n : Nat} {s s' : zM} (h : s_St n s) (hk : zK (s_PH n) s s') : s_St n s' := by
  obtain ⟨h8, h5, h6, h7, ht, hr, ho⟩ := h
  have nn : ∀ k i o, ¬ s_PH n k i o → s' k i o = s k i o := hk
  refine ⟨h8, ?_, ?_, ?_, fun i hi => ?_, fun o ho => ?_, ?_⟩
  · rw [nn 0 0 5 (by unfold s_PH; omega)]; exact h5
  · rw [nn 0 0 6 (by unfold s_PH; omega)]; exact h6
  · rw [nn 0 0 7 (by unfold s_PH; omega)]; exact h7
  · rw [nn 7 i 7 (by unfold s_PH; omega)]; exact ht i hi
  · rw [nn 12 o 0 (by unfold s_PH; omega)]; exact hr o ho
  · rw [nn 4 0 4 (by unfold s_PH; omega)]; exact ho
def s_Lf (n : Nat) (s : zM) : Prop := ∀ i, i < n → 0 ≤ (s 7 i 10).toInt ∧ (s 7 i 10).toInt ≤ 2000
def s_Pg (n : Nat) : zP := fun k i o => (k = 7 ∧ i < n ∧ o = 10) ∨ (k = 9 ∧ i < n ∧ o < 8)
theorem s_PgH (n k i o : Nat) (h : s_Pg n k i o) : s_PH n k i o := by
  rcases h with ⟨rfl, hi, rfl⟩ | ⟨rfl, hi, ho⟩
  · exact s_PH7 hi (by decide) (by decide) (by decide)
  · exact s_PH9 hi ho
theorem s_Peg {n j : Nat} (hj : j < n) (k i o : Nat) (h : s_Pe j k i o) : s_Pg n k i o := by
  rcases h with ⟨rfl, rfl, rfl⟩ | ⟨rfl, rfl, ho⟩
  · exact Or.inl ⟨rfl, hj, rfl⟩
  · exact Or.inr ⟨rfl, hj, ho⟩
theorem s_isOn {k : Nat} (hk : k < 8) (st : Int32) (s : zM) : zT (fSe_isOn (Int32.ofNat k) st s) fun _ => True := by
  unfold fSe_isOn
  exact zT_i (fun _ => zT_s trivial) fun _ => zT_xn hk (by decide) (zT_i (fun _ => zT_s trivial) fun _ => zT_s trivial)
theorem s_Lf.lose {n j : Nat} {s s' : zM} {a : Int32} (h : s_Lf n s) (hk : zK (s_Pe j) s s') (e : s' 7 j 10 = s 7 j 10 - a) (h0 : 0 ≤ a.toInt) (h1 : j < n → a.toInt ≤ (s 7 j 10).toInt) : s_Lf n s' := by
  intro i hi
  by_cases hij : i = j
  · subst hij
    have := h i hi
    have := h1 hi
    rw [e, zsub32 (by omega) (by omega)]
    omega
  · rw [hk 7 i 10 (fun z => by unfold s_Pe at z; omega)]
    exact h i hi
theorem s_giveUp {n : Nat} {s : zM} (h8 : n ≤ 8) (h5 : s 0 0 5 = Int32.ofNat n) (hL : s_Lf n s) (st lim c : Int32) (hlim : 0 ≤ lim.toInt) : zT (fSe_giveUp st lim c s) fun r => 0 ≤ r.1.toInt ∧ r.1.toInt ≤ lim.toInt ∧ zK (s_Pg n) s r.2 ∧ s_Lf n r.2 := by
  have hlm := lim.toInt_lt
  unfold fSe_giveUp
  refine zT_c (R := fun q => 0 ≤ q.toInt ∧ q.toInt ≤ 2000 * (n : Int)) (zT_it (fun d q => ∃ k : Nat, q.2 = Int32.ofNat k ∧ k + d = n ∧ 0 ≤ q.1.toInt ∧ q.1.toInt ≤ 2000 * (k : Int)) ?_ n 1000 _ (by omega) ⟨0, rfl, by omega, by decide, by decide⟩) fun q _ hq => zT_l ?_
  · rintro d ⟨t, q⟩ ⟨k, hq, hk, t0, t1⟩
    dsimp only at hq t0 t1
    subst hq
    unfold fSe_giveUp_l6
    dsimp only
    rw [h5]
    refine zT_i (fun h => zT_s ⟨t0, by rw [znle (by omega) (by omega)] at h; omega⟩) fun h => ?_
    have hkn : k < n := by
      rw [znle (by omega) (by omega)] at h
      omega
    refine zT_c (s_isOn (by omega) st s) fun b _ _ => zT_c (R := fun v => 0 ≤ v.toInt ∧ v.toInt ≤ 2000) (zT_i (fun _ => zT_s (by decide)) fun _ => zT_xn (by omega) (by decide) (zT_s (hL k hkn))) fun v _ hv => zT_l (zT_l (zT_s ?_))
    refine ⟨d - 1, by omega, k + 1, zn1 k, by omega, ?_, ?_⟩
    · show 0 ≤ (t + v).toInt
      rw [zadd (by omega) (by omega)]
      omega
    · show (t + v).toInt ≤ 2000 * ((k + 1 : Nat) : Int)
      rw [zadd (by omega) (by omega)]
      omega
  · have e11 : (q - lim).toInt = q.toInt - lim.toInt := zsub32 (by omega) (by omega)
    refine zT_i (fun h => zT_s ⟨hq.1, ?_, zK.rf, hL⟩) fun h => zT_i (fun hp => ?_) fun hp => ?_
    · rw [zle, e11, z0i] at h
      exact (by omega : q.toInt ≤ lim.toInt)
    · have m0 : 0 < (q - lim).toInt := by rw [zle, z0i] at h; omega
      have m1 : (q - lim).toInt ≤ q.toInt := by omega
      have q0 : 0 < q.toInt := by omega
      refine zT_c (R := fun x => zK (s_Pg n) s x.2 ∧ s_Lf n x.2) (zT_it (fun d x => ∃ k : Nat, x.2.1 = Int32.ofNat k ∧ k + d = n ∧ zK (s_Pg n) s x.2.2 ∧ s_Lf n x.2.2) ?_ n 1000 _ (by omega) ⟨0, rfl, by omega, zK.rf, hL⟩) fun x _ hx => zT_c (R := fun y => zK (s_Pg n) s y ∧ s_Lf n y) (zT_it (fun d y => ∃ k : Nat, y.2.1 = Int32.ofNat k ∧ k + d = n ∧ zK (s_Pg n) s y.2.2 ∧ s_Lf n y.2.2) ?_ n 1000 _ (by omega) ⟨0, rfl, by omega, hx.1, hx.2⟩) fun y _ hy => zT_s ⟨hlim, Int.le_refl _, hy.1, hy.2⟩
      · rintro d ⟨r, i, u⟩ ⟨k, hi, hk, ku, lu⟩
        dsimp only at hi ku lu
        subst hi
        unfold fSe_giveUp_l76
        dsimp only
        have eu : u 0 0 5 = Int32.ofNat n := (ku 0 0 5 (by unfold s_Pg; omega)).trans h5
        refine zT_i (fun _ => zT_s ⟨ku, lu⟩) fun hh => ?_
        have hkn : k < n := by
          rw [eu, znle (by omega) (by omega)] at hh
          omega
        refine zT_c (s_isOn (by omega) st u) fun b _ _ => zT_c (R := fun v => zK (s_Pg n) s v.2 ∧ s_Lf n v.2) (zT_i (fun _ => zT_s ⟨ku, lu⟩) fun _ => zT_xn (by omega) (by decide) (zT_g (fun z => by rw [z, z0i] at q0; omega) (zT_l (zT_xn (by omega) (by decide) ?_)))) fun v _ hv => zT_l (zT_s ⟨d - 1, by omega, k + 1, zn1 k, by omega, hv.1, hv.2⟩)
        have hl := lu k hkn
        have p1 : 0 ≤ (u 7 k 10).toInt * (q - lim).toInt := Int.mul_nonneg hl.1 (by omega)
        have p2 : (u 7 k 10).toInt * (q - lim).toInt ≤ (u 7 k 10).toInt * q.toInt := Int.mul_le_mul_of_nonneg_left m1 hl.1
        have p3 : (u 7 k 10).toInt * q.toInt ≤ 2000 * q.toInt := Int.mul_le_mul_of_nonneg_right hl.2 (by omega)
        have e1 : ((u 7 k 10) * (q - lim)).toInt = (u 7 k 10).toInt * (q - lim).toInt := zmul32 (by omega) (by omega)
        have e2 : (((u 7 k 10) * (q - lim)) / q).toInt = (u 7 k 10).toInt * (q - lim).toInt / q.toInt := by rw [zdiv32 q0, e1, ztdiv p1 q0]
        have p4 : (u 7 k 10).toInt * (q - lim).toInt / q.toInt ≤ (u 7 k 10).toInt := Int.ediv_le_of_le_mul q0 p2
        have p5 : 0 ≤ (u 7 k 10).toInt * (q - lim).toInt / q.toInt := Int.ediv_nonneg p1 (by omega)
        refine zT_c (s_lose k _ c u) fun w _ hw => zT_l (zT_s ⟨ku.tr (hw.1.mono (s_Peg hkn)), lu.lose hw.1 hw.2.1 (by rw [e2]; exact p5) fun _ => by rw [e2]; exact p4⟩)
      · rintro d ⟨r, i, u⟩ ⟨k, hi, hk, ku, lu⟩
        dsimp only at hi ku lu
        subst hi
        unfold fSe_giveUp_l142
        dsimp only
        have eu : u 0 0 5 = Int32.ofNat n := (ku 0 0 5 (by unfold s_Pg; omega)).trans h5
        refine zT_i (fun _ => zT_s ⟨ku, lu⟩) fun hh => zT_i (fun _ => zT_s ⟨ku, lu⟩) fun _ => ?_
        have hkn : k < n := by
          rw [eu, znle (by omega) (by omega)] at hh
          omega
        refine zT_c (s_isOn (by omega) st u) fun b _ _ => zT_c (R := fun v => zK (s_Pg n) s v.2 ∧ s_Lf n v.2) (zT_i (fun _ => zT_s ⟨ku, lu⟩) fun _ => zT_xn (by omega) (by decide) (zT_i (fun _ => zT_s ⟨ku, lu⟩) fun hz => zT_xn (by omega) (by decide) ?_)) fun v _ hv => zT_l (zT_s ⟨d - 1, by omega, k + 1, zn1 k, by omega, hv.1, hv.2⟩)
        refine zT_c (s_lose k 1 c u) fun w _ hw => zT_l (zT_s ⟨ku.tr (hw.1.mono (s_Peg hkn)), lu.lose hw.1 hw.2.1 (by decide) fun _ => ?_⟩)
        rw [zle, z0i] at hz
        rw [z1i]
        omega
    · rw [zlt, z0i] at hp
      rw [zle, e11, z0i] at h
      exact absurd hp (by omega)
/-- what changes in hours and stays in bounds: the rows' lengths, the heat -/
def s_Ht (s : zM) : Prop := ∀ o, o < 2 → 0 ≤ (s 12 o 1).toInt ∧ (s 12 o 1).toInt ≤ (s 12 o 0).toInt
def s_Ps (n : Nat) : zP := fun k i o => (k = 7 ∧ i < n ∧ o = 10) ∨ (k = 9 ∧ i < n ∧ o < 8) ∨ (k = 12 ∧ i < 2 ∧ 1 ≤ o ∧ o ≤ 2)
theorem s_PsH (n k i o : Nat) (h : s_Ps n k i o) : s_PH n k i o := by
  rcases h with ⟨rfl, hi, rfl⟩ | ⟨rfl, hi, ho⟩ | ⟨rfl, hi, h1, h2⟩
  · exact s_PH7 hi (by decide) (by decide) (by decide)
  · exact s_PH9 hi ho
  · exact s_PH12 hi h1 h2
theorem s_Pgs (n k i o : Nat) (h : s_Pg n k i o) : s_Ps n k i o := by
  rcases h with h | h
  · exact Or.inl h
  · exact Or.inr (Or.inl h)
theorem s_loadStrings {n : Nat} {s : zM} (hS : s_St n s) (hL : s_Lf n s) (hH : s_Ht s) : zT (fSe_loadStrings s) fun s' => zK (s_Ps n) s s' ∧ s_Lf n s' ∧ s_Ht s' := by
  obtain ⟨h8, h5, h6, h7, ht, hr, ho⟩ := id hS
  unfold fSe_loadStrings
  refine zT_c (R := fun s' => zK (s_Ps n) s s' ∧ s_Lf n s' ∧ s_Ht s') (zT_it (fun d q => ∃ k : Nat, q.1 = Int32.ofNat k ∧ k + d = 2 ∧ zK (s_Ps n) s q.2 ∧ s_Lf n q.2 ∧ s_Ht q.2) ?_ 2 1000 _ (by decide) ⟨0, rfl, rfl, zK.rf, hL, hH⟩) fun q _ hq => zT_s hq
  rintro d ⟨i, u⟩ ⟨k, hi, hk, ku, lu, hu⟩
  dsimp only at hi ku lu hu
  subst hi
  unfold fSe_loadStrings_l2
  dsimp only
  have eu : u 0 0 6 = Int32.ofNat 2 := (ku 0 0 6 (by unfold s_Ps; omega)).trans h6
  refine zT_i (fun _ => zT_s ⟨ku, lu, hu⟩) fun hh => ?_
  have hkn : k < 2 := by
    rw [eu, znle (by omega) (by omega)] at hh
    omega
  have er : u 12 k 0 = s 12 k 0 := ku 12 k 0 (by unfold s_Ps; omega)
  have r1 := hr k hkn
  rw [← er] at r1
  have g1 := hu k hkn
  have ed : ((u 12 k 1) / 10).toInt = (u 12 k 1).toInt / 10 := by rw [zdiv32 (by decide), z10i, ztdiv g1.1 (by decide)]
  have el : (u 12 k 0 - (u 12 k 1) / 10).toInt = (u 12 k 0).toInt - (u 12 k 1).toInt / 10 := by rw [zsub32 (by rw [ed]; omega) (by rw [ed]; omega), ed]
  refine zT_xn (by omega) (by decide) (zT_xn (by omega) (by decide) (zT_c (R := fun v => v = u 12 k 0 - (u 12 k 1) / 10) (by unfold fCa_limit; exact zT_s rfl) fun v _ hv => ?_))
  subst hv
  refine zT_c (s_giveUp h8 ((ku 0 0 5 (by unfold s_Ps; omega)).trans h5) lu _ _ 6 (by rw [el]; omega)) fun r _ hr2 => ?_
  obtain ⟨v0, v1, kv, lv⟩ := hr2
  rw [el] at v1
  have w0 : r.2 12 k 0 = u 12 k 0 := kv 12 k 0 (by unfold s_Pg; omega)
  have w1 : r.2 12 k 1 = u 12 k 1 := kv 12 k 1 (by unfold s_Pg; omega)
  have e3 : ((3 : Int32) * u 12 k 1).toInt = 3 * (u 12 k 1).toInt := by rw [zmul32 (by rw [z3i]; omega) (by rw [z3i]; omega), z3i]
  have e4 : ((3 : Int32) * u 12 k 1 + r.1).toInt = 3 * (u 12 k 1).toInt + r.1.toInt := by rw [zadd (by rw [e3]; omega) (by rw [e3]; omega), e3]
  have e5 : (((3 : Int32) * u 12 k 1 + r.1) / 4).toInt = (3 * (u 12 k 1).toInt + r.1.toInt) / 4 := by rw [zdiv32 (by decide), e4, z4i, ztdiv (by omega) (by decide)]
  unfold fCa_carry
  refine zT_c (R := fun x => x = zu (zu r.2 12 k 2 r.1) 12 k 1 (((3 : Int32) * u 12 k 1 + r.1) / 4)) (zT_l (zT_l (zT_s ?_))) fun x _ hx => zT_l (zT_s ?_)
  · rw [show zu r.2 12 k 2 r.1 12 k 1 = u 12 k 1 from (zzu (fun z => by omega)).trans w1]
  · subst hx
    refine ⟨d - 1, by omega, k + 1, zn1 k, by omega, ((ku.tr (kv.mono (s_Pgs n))).u (Or.inr (Or.inr ⟨rfl, hkn, by decide, by decide⟩))).u (Or.inr (Or.inr ⟨rfl, hkn, by decide, by decide⟩)), fun i hi => ?_, fun o ho => ?_⟩
    · show 0 ≤ (zu (zu r.2 12 k 2 r.1) 12 k 1 (((3 : Int32) * u 12 k 1 + r.1) / 4) 7 i 10).toInt ∧ (zu (zu r.2 12 k 2 r.1) 12 k 1 (((3 : Int32) * u 12 k 1 + r.1) / 4) 7 i 10).toInt ≤ 2000
      rw [zzu (fun z => by omega), zzu (fun z => by omega)]
      exact lv i hi
    · show 0 ≤ (zu (zu r.2 12 k 2 r.1) 12 k 1 (((3 : Int32) * u 12 k 1 + r.1) / 4) 12 o 1).toInt ∧ (zu (zu r.2 12 k 2 r.1) 12 k 1 (((3 : Int32) * u 12 k 1 + r.1) / 4) 12 o 1).toInt ≤ (zu (zu r.2 12 k 2 r.1) 12 k 1 (((3 : Int32) * u 12 k 1 + r.1) / 4) 12 o 0).toInt
      by_cases hok : o = k
      · subst hok
        rw [zzs, zzu (fun z => by omega), zzu (fun z => by omega), w0, e5]
        omega
      · rw [zzu (fun z => by omega), zzu (fun z => by omega), zzu (fun z => by omega), zzu (fun z => by omega), kv 12 o 1 (by unfold s_Pg; omega), kv 12 o 0 (by unfold s_Pg; omega)]
        exact hu o ho
/-! the book -/
def s_Pb : zP := fun k i o => (k = 5 ∧ i = 0 ∧ 1 ≤ o ∧ o ≤ 4) ∨ (k = 6 ∧ i = 0 ∧ o < 24)
theorem s_takeNominated (s : zM) : zT (fLe_takeNominated s) fun r => zK s_Pb s r.2 := by
  unfold fLe_takeNominated
  refine zT_x (zvi (by decide)) fun _ => zT_l (zT_c (R := fun s' => zK s_Pb s s') (zT_it (fun d q => ∃ k : Nat, q.1 = Int32.ofNat k ∧ k + d = 24 ∧ 1 ≤ k ∧ zK s_Pb s q.2) ?_ 23 1000 _ (by decide) ⟨1, rfl, rfl, by decide, zK.rf⟩) fun q _ hq => zT_x (zvi (by decide)) fun _ => zT_l (zT_s (hq.u (Or.inr ⟨rfl, rfl, by decide⟩))))
  rintro d ⟨i, u⟩ ⟨k, hi, hk, h1, ku⟩
  dsimp only at hi ku
  subst hi
  unfold fLe_takeNominated_l9
  dsimp only
  refine zT_i (fun _ => zT_s ku) fun hh => ?_
  have hkn : k < 24 := by
    rw [show (24 : Int32) = Int32.ofNat 24 from rfl, znle (by omega) (by omega)] at hh
    omega
  refine zT_xn hkn (by decide) ?_
  rw [show Int32.ofNat k - 1 = Int32.ofNat (k - 1) from (Int32.ofNat_sub k 1 h1).symm]
  exact zT_xn (by omega) (by decide) (zT_l (zT_l (zT_s ⟨d - 1, by omega, k + 1, zn1 k, by omega, by omega, ku.u (Or.inr ⟨rfl, rfl, by omega⟩)⟩)))
theorem s_book (a b c : Int32) (s : zM) : zT (fLe_book a b c s) (zK s_Pb s) := by
  unfold fLe_book
  refine zT_l (zT_l (zT_l (zT_l ?_)))
  have hk : zK s_Pb s (zu (zu (zu (zu s 5 0 1 (s 5 0 1 + a)) 5 0 3 b) 5 0 2 (zu (zu s 5 0 1 (s 5 0 1 + a)) 5 0 3 b 5 0 2 + b)) 5 0 4 (zu (zu (zu s 5 0 1 (s 5 0 1 + a)) 5 0 3 b) 5 0 2 (zu (zu s 5 0 1 (s 5 0 1 + a)) 5 0 3 b 5 0 2 + b) 5 0 4 + b * c / 100)) := (((zK.rf.u (Or.inl ⟨rfl, rfl, by decide, by decide⟩)).u (Or.inl ⟨rfl, rfl, by decide, by decide⟩)).u (Or.inl ⟨rfl, rfl, by decide, by decide⟩)).u (Or.inl ⟨rfl, rfl, by decide, by decide⟩)
  exact zT_c (s_takeNominated _) fun q _ hq => zT_i (fun _ => zT_s (hk.tr hq)) fun _ => zT_l (zT_s ((hk.tr hq).u (Or.inl ⟨rfl, rfl, by decide, by decide⟩)))
