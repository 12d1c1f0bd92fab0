/-! a sea that is made, from its start -/
theorem s_M0 {M : Nat} {X Y : Nat → Int32} {s : zM} (h8 : M ≤ 8) (h : s_B M s) (hp : ∀ i, i < M → s 7 i 0 = X i ∧ s 7 i 1 = Y i) (hr : ∀ o, o < 2 → s 12 o 0 = 9999) : s_M M X Y 0 s := by
  have hk := h.1
  refine ⟨s_B_Iv h8 h, fun i hi => ⟨(hp i hi).1, (hp i hi).2, ?_, ?_⟩, ?_, hr, fun i hi => ⟨?_, ?_, ⟨0, by decide, ?_, ?_⟩, fun o ho => ?_⟩⟩
  · exact (hk 7 i 3 (by unfold s_PQ; omega)).trans rfl
  · exact (hk 7 i 7 (by unfold s_PQ; omega)).trans rfl
  · exact (hk 0 0 9 (by unfold s_PQ; omega)).trans rfl
  · rw [hk 8 i 0 (by unfold s_PQ; omega)]
    exact (by decide : 0 ≤ (0 : Int32).toInt ∧ (0 : Int32).toInt ≤ 2 * ((0 : Nat) : Int))
  · rw [hk 8 i 1 (by unfold s_PQ; omega)]
    exact (by decide : 0 ≤ (0 : Int32).toInt ∧ (0 : Int32).toInt ≤ 3 * ((0 : Nat) : Int))
  · exact (hk 10 i 1 (by unfold s_PQ; omega)).trans rfl
  · rw [hk 8 i 2 (by unfold s_PQ; omega)]
    exact (by decide : 0 ≤ (0 : Int32).toInt ∧ (0 : Int32).toInt + 10 * ((0 : Nat) : Int) ≤ 10 * ((0 : Nat) : Int))
  · rw [hk 11 i o (by unfold s_PQ; omega)]
    exact (by decide : 0 ≤ (0 : Int32).toInt ∧ (0 : Int32).toInt ≤ 10)
theorem s_Mb {M d dd : Nat} {X Y : Nat → Int32} {s : zM} (hd : d < 8) (h : s_M M X Y d s) (hdd : dd < 8) : ∃ s', (∀ s0 s2 s3, fWB_blow 1 (Int32.ofNat dd) 10 0 0 20000 s0 s s2 s3 = some (.inl (s_hr X Y (Int32.ofNat dd) M M, s'))) ∧ s_M M X Y (d + 1) s' := by
  obtain ⟨hI, hR, h9, hr, hW⟩ := h
  have h1 : s_M M X Y d (s_wx (Int32.ofNat dd) 10 0 0 20000 s) := ⟨s_wx_Iv hI (by decide), hR, h9, hr, hW⟩
  obtain ⟨r, e, hv, hM⟩ := s_Mh hd h1 hdd rfl rfl rfl rfl
  refine ⟨r.2, fun s0 s2 s3 => ?_, hM⟩
  have b := s_blow (h := 1) (a := Int32.ofNat dd) (b := 10) (c := 0) (d := 0) (e := 20000) (s0 := s0) (s := s) (s2 := s2) (s3 := s3) (by decide) (by decide) (by rw [zon (by omega)]; omega) (by decide) (by decide) (by decide) (by decide)
  rw [s_F1, e, Option.bind_some, Option.bind_some, hv, Int32.zero_add] at b
  exact b
/-- the turbines that are told, made anew -/
def s_mk (s : zM) : Nat → zM
  | 0 => s_str 9999 1 (s_str 9999 0 zfr0)
  | k + 1 => s_tur (s 7 k 0) (s 7 k 1) 0 k (s_mk s k)
def s_Ds (n : Nat) (s : zM) : Prop := ∀ i j, i < j → j < n → ¬ (s 7 i 0 = s 7 j 0 ∧ s 7 i 1 = s 7 j 1)
/-- as told before the first hour: places of 0 to 8, no two alike -/
def s_T (n : Nat) (s : zM) : Prop := s_B n s ∧ (∀ i, i < n → (0 ≤ (s 7 i 0).toInt ∧ (s 7 i 0).toInt ≤ 8) ∧ 0 ≤ (s 7 i 1).toInt ∧ (s 7 i 1).toInt ≤ 8) ∧ s_Ds n s
theorem s_tur12 (x y g : Int32) (n : Nat) (s : zM) (o : Nat) : s_tur x y g n s 12 o 0 = s 12 o 0 := by
  unfold s_tur
  rw [zzu (fun z => by omega), zzu (fun z => by omega), zzu (fun z => by omega), zzu (fun z => by omega)]
theorem s_tur70 (x y g : Int32) (n : Nat) (s : zM) : s_tur x y g n s 7 n 0 = x := by
  unfold s_tur
  rw [zzu (fun z => by omega), zzu (fun z => by omega), zzu (fun z => by omega), zzs]
theorem s_tur71 (x y g : Int32) (n : Nat) (s : zM) : s_tur x y g n s 7 n 1 = y := by
  unfold s_tur
  rw [zzu (fun z => by omega), zzu (fun z => by omega), zzs]
theorem s_mkB (s : zM) : ∀ k, s_B k (s_mk s k) ∧ (∀ i, i < k → s_mk s k 7 i 0 = s 7 i 0 ∧ s_mk s k 7 i 1 = s 7 i 1) ∧ ∀ o, o < 2 → s_mk s k 12 o 0 = 9999
  | 0 => ⟨s_B_0 (by decide) (by decide), fun i hi => absurd hi (Nat.not_lt_zero i), fun o ho => by
      rcases (show o = 0 ∨ o = 1 by omega) with rfl | rfl <;> rfl⟩
  | k + 1 => by
    obtain ⟨a, b, c⟩ := s_mkB s k
    refine ⟨s_B_tur a _ _ _, fun i hi => ?_, fun o ho => (s_tur12 _ _ _ _ _ o).trans (c o ho)⟩
    by_cases e : i = k
    · subst e
      exact ⟨s_tur70 _ _ _ _ _, s_tur71 _ _ _ _ _⟩
    · have hb := b i (by omega)
      exact ⟨(s_B_tur7 _ _ _ e).trans hb.1, (s_B_tur7 _ _ _ e).trans hb.2⟩
theorem s_mk_free {n : Nat} {s : zM} (hD : s_Ds n s) {k : Nat} (hk : k < n) : s_free k (s_mk s k) (s 7 k 0) (s 7 k 1) := fun i hi z => by
  obtain ⟨-, b, -⟩ := s_mkB s k
  rw [(b i hi).1, (b i hi).2] at z
  exact hD i k hi hk z
theorem s_mk_new {n : Nat} {s : zM} {x y : Int32} (hf : s_free n s x y) : s_free n (s_mk s n) x y := fun i hi z => by
  obtain ⟨-, b, -⟩ := s_mkB s n
  rw [(b i hi).1, (b i hi).2] at z
  exact hf i hi z
theorem s_mz {n : Nat} (h8 : n < 8) (s : zM) (x y : Int32) : s_M (n + 1) (s_pn n (s_x s) x) (s_pn n (s_y s) y) 0 (s_tur x y 1 n (s_mk s n)) := by
  obtain ⟨a, b, c⟩ := s_mkB s n
  refine s_M0 (by omega) (s_B_tur a x y 1) (fun i hi => ?_) (fun o ho => (s_tur12 _ _ _ _ _ o).trans (c o ho))
  by_cases e : i = n
  · subst e
    rw [s_tur70, s_tur71, s_pn_n, s_pn_n]
    exact ⟨rfl, rfl⟩
  · have hb := b i (by omega)
    rw [s_B_tur7 _ _ _ e, s_B_tur7 _ _ _ e, s_pn_lt _ _ (by omega), s_pn_lt _ _ (by omega)]
    exact hb
/-! places -/
theorem s_dv20 {j : Nat} (hj : j < 400) : (Int32.ofNat j / 20).toInt = (j : Int) / 20 := by
  rw [zdiv32 (by decide), zon (by omega), show (20 : Int32).toInt = 20 from rfl, ztdiv (by omega) (by decide)]
theorem s_md20 {j : Nat} (hj : j < 400) : (Int32.ofNat j % 20).toInt = (j : Int) % 20 := by
  rw [Int32.toInt_mod, zon (by omega), show (20 : Int32).toInt = 20 from rfl, Int.tmod_eq_emod_of_nonneg (by omega)]
theorem s_its {x y : Int32} {j : Nat} (hx : 0 ≤ x.toInt ∧ x.toInt ≤ 8) (hy : 0 ≤ y.toInt ∧ y.toInt ≤ 8) (hj : j < 400) : 20 * x + y = Int32.ofNat j ↔ (x = Int32.ofNat j / 20 ∧ y = Int32.ofNat j % 20) := by
  have e1 : ((20 : Int32) * x).toInt = 20 * x.toInt := by rw [zmul32 (by rw [show (20 : Int32).toInt = 20 from rfl]; omega) (by rw [show (20 : Int32).toInt = 20 from rfl]; omega)]; rfl
  have e2 : ((20 : Int32) * x + y).toInt = 20 * x.toInt + y.toInt := by rw [zadd (by rw [e1]; omega) (by rw [e1]; omega), e1]
  rw [← Int32.toInt_inj, ← Int32.toInt_inj, ← Int32.toInt_inj, e2, zon (by omega), s_dv20 hj, s_md20 hj]
  omega
theorem s_T99 {n : Nat} {s : zM} (h : s_T n s) : s_free n s 19 19 := fun i hi z => by
  have := (h.2.1 i hi).1.2
  rw [z.1] at this
  exact absurd this (by decide)
