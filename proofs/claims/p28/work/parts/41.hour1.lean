/-! ===== an hour, piece by piece: that it ends, where it writes ===== -/
theorem zfin {a : Int32} (lo n : Nat) (hn : lo + n < 100000) (h1 : (lo : Int) ≤ a.toInt) (h2 : a.toInt < lo + n) : ∃ k : Fin n, a = Int32.ofNat (lo + k) := by
  refine ⟨⟨a.toInt.toNat - lo, by omega⟩, Int32.toInt_inj.mp ?_⟩
  rw [zon (by show lo + (a.toInt.toNat - lo) < _; omega)]
  show a.toInt = ((lo + (a.toInt.toNat - lo) : Nat) : Int)
  omega
def s_Pt (j : Nat) : zP := fun k i o => k = 7 ∧ i = j ∧ 3 ≤ o ∧ o ≤ 6
theorem s_become (i : Nat) (a : Int32) (s : zM) : zT (fTu_become i a s) (zK (s_Pt i) s) := by
  unfold fTu_become
  exact zT_l (zT_l (zT_l (zT_l (zT_s ((((zK.rf.u ⟨rfl, rfl, by decide, by decide⟩).u ⟨rfl, rfl, by decide, by decide⟩).u ⟨rfl, rfl, by decide, by decide⟩).u ⟨rfl, rfl, by decide, by decide⟩)))))
theorem s_stop (i : Nat) (a : Int32) (s : zM) : zT (fTu_stop i a s) (zK (s_Pt i) s) := by
  unfold fTu_stop
  exact zT_c (s_become i 0 s) fun b _ hb => zT_l (zT_s (hb.u ⟨rfl, rfl, by decide, by decide⟩))
theorem s_fault (i : Nat) (a : Int32) (s : zM) : zT (fTu_fault i a s) (zK (s_Pt i) s) := by
  unfold fTu_fault
  exact zT_c (s_become i 3 s) fun b _ hb => zT_l (zT_s (hb.u ⟨rfl, rfl, by decide, by decide⟩))
theorem s_mayStart (i : Nat) (a b : Int32) (s : zM) : zT (fTu_mayStart i a b s) fun _ => True := by
  unfold fTu_mayStart
  repeat' first
    | exact zT_s trivial
    | refine zT_i (fun _ => ?_) (fun _ => ?_)
theorem s_wornPart (i : Nat) (s : zM) : zT (fTu_wornPart i s) fun _ => True := by
  unfold fTu_wornPart
  refine zT_c (R := fun _ => True) (zT_it (fun d q => ∃ k : Nat, q = Int32.ofNat k ∧ k + d = 3) ?_ 3 1000 0 (by decide) ⟨0, rfl, rfl⟩) fun r _ _ => ?_
  · rintro d q ⟨k, rfl, hk⟩
    unfold fTu_wornPart_l2
    refine zT_i (fun _ => zT_s trivial) fun h => ?_
    have hk3 : k < 3 := by
      rw [show (3 : Int32) = Int32.ofNat 3 from rfl, znle (by decide) (by omega)] at h
      omega
    refine zT_xn hk3 (by decide) (zT_xn hk3 (by decide) (zT_i (fun _ => zT_l (zT_s ?_)) fun _ => zT_s trivial))
    exact ⟨d - 1, by omega, k + 1, zn1 k, by omega⟩
  · cases r
    · exact zT_s trivial
    · exact zT_s trivial
theorem s_settle (i : Nat) (a : Int32) (s : zM) : zT (fTu_settle i a s) (zK (s_Pt i) s) := by
  unfold fTu_settle
  refine zT_l (zT_c (R := fun _ => True) (zT_i (fun _ => zT_s trivial) fun _ => zT_s trivial) fun q2 _ _ => ?_)
  repeat' first
    | exact zT_s zK.rf
    | exact zT_c (s_become i _ s) fun b _ hb => zT_s hb
    | exact zT_c (s_stop i _ s) fun b _ hb => zT_s hb
    | exact zT_c (s_fault i _ s) fun b _ hb => zT_s hb
    | refine zT_i (fun _ => ?_) (fun _ => ?_)
    | refine zT_c (s_wornPart i s) (fun _ _ _ => ?_)
    | refine zT_c (s_mayStart i _ _ s) (fun _ _ _ => ?_)
/-! wakes and power -/
theorem s_p25 : ∀ k : Fin 22, 0 ≤ (zmin (2000 : Int32) ((Int32.ofNat (4 + k) * Int32.ofNat (4 + k)) * Int32.ofNat (4 + k))).toInt ∧ (zmin (2000 : Int32) ((Int32.ofNat (4 + k) * Int32.ofNat (4 + k)) * Int32.ofNat (4 + k))).toInt ≤ 2000 := by decide +kernel
theorem s_power (v : Int32) : zT (fWa_power v) fun p => 0 ≤ p.toInt ∧ p.toInt ≤ 2000 := by
  unfold fWa_power
  refine zT_i (fun _ => zT_s (by decide)) fun h1 => zT_i (fun h2 => zT_s ?_) fun _ => zT_s (by decide)
  obtain ⟨k, rfl⟩ := zfin (a := v) 4 22 (by decide) (by rw [zlt, z4i] at h1; omega) (by rw [zle, show (25 : Int32).toInt = 25 from rfl] at h2; omega)
  exact s_p25 k
theorem s_deficit (a b c d : Int32) : zT (fWa_deficit a b c d) fun _ => True := by
  unfold fWa_deficit
  refine zT_i (fun _ => zT_s trivial) fun h0 => zT_i (fun h8 => ?_) fun _ => zT_s trivial
  have hv : vp_in d 8 := zvit (by rw [zlt, z0i] at h0; omega) (by rw [zlt, show (8 : Int32).toInt = 8 from rfl] at h8; exact h8)
  exact zT_x hv fun _ => zT_l (zT_x hv fun _ => zT_l (zT_l (zT_i (fun _ => zT_s trivial) fun _ => zT_i (fun _ => zT_l (zT_l (zT_i (fun _ => zT_s trivial) fun _ => zT_i (fun _ => zT_s trivial) fun _ => zT_s trivial))) fun _ => zT_s trivial)))
theorem s_deficitBy {a b : Nat} (ha : a < 8) (hb : b < 8) (s : zM) : zT (fSe_deficitBy (Int32.ofNat a) (Int32.ofNat b) s) fun _ => True := by
  unfold fSe_deficitBy
  refine zT_xn ha (by decide) (zT_xn hb (by decide) (zT_i (fun _ => zT_s trivial) fun _ => zT_i (fun _ => ?_) fun _ => zT_s trivial))
  exact zT_c (s_deficit _ _ _ _) fun _ _ _ => zT_s trivial
/-- what doesn't change while hours pass: the counts, the turns, the ratings -/
def s_St (n : Nat) (s : zM) : Prop := n ≤ 8 ∧ s 0 0 5 = Int32.ofNat n ∧ s 0 0 6 = 2 ∧ s 0 0 7 = 0 ∧ (∀ i, i < n → -2 ≤ (s 7 i 7).toInt ∧ (s 7 i 7).toInt ≤ 2) ∧ (∀ o, o < 2 → 0 ≤ (s 12 o 0).toInt ∧ (s 12 o 0).toInt ≤ 9999) ∧ 0 ≤ (s 4 0 4).toInt
theorem s_deficitOf {n : Nat} {s : zM} (hS : s_St n s) {j : Nat} (hj : j < 8) : zT (fSe_deficitOf (Int32.ofNat j) s) fun _ => True := by
  obtain ⟨h8, h5, -⟩ := hS
  unfold fSe_deficitOf
  refine zT_c (R := fun _ => True) (zT_it (fun d q => ∃ k : Nat, q.2.2 = Int32.ofNat k ∧ k + d = n) ?_ n 1000 _ (by omega) ⟨0, rfl, by omega⟩) fun q _ _ => zT_c (R := fun _ => True) (by unfold fWa_together; exact zT_s trivial) fun _ _ _ => zT_s trivial
  rintro d ⟨a, b, q⟩ ⟨k, hq, hk⟩
  dsimp only at hq
  subst hq
  unfold fSe_deficitOf_l7
  dsimp only
  rw [h5]
  refine zT_i (fun _ => zT_s trivial) fun h => ?_
  have hkn : k < n := by
    rw [znle (by omega) (by omega)] at h
    omega
  refine zT_c (s_deficitBy (by omega) hj s) fun b _ _ => zT_l (zT_l (zT_l (zT_s ?_)))
  exact ⟨d - 1, by omega, k + 1, zn1 k, by omega⟩
/-! what is taken and lost -/
def s_Pl (j : Nat) : zP := fun k i o => (k = 7 ∧ i = j ∧ 8 ≤ o ∧ o ≤ 10) ∨ (k = 9 ∧ i = j ∧ o < 8)
def s_Pe (j : Nat) : zP := fun k i o => (k = 7 ∧ i = j ∧ o = 10) ∨ (k = 9 ∧ i = j ∧ o < 8)
theorem s_Pel (j k i o : Nat) (h : s_Pe j k i o) : s_Pl j k i o := by
  unfold s_Pe at h
  unfold s_Pl
  omega
theorem s_lose (i : Nat) (a c : Int32) (s : zM) : zT (fTu_lose i a c s) fun s' => zK (s_Pe i) s s' ∧ s' 7 i 10 = s 7 i 10 - a ∧ ∀ o, o ≠ 10 → s' 7 i o = s 7 i o := by
  unfold fTu_lose
  have h1 : zK (s_Pe i) s (zu s 7 i 10 (s 7 i 10 - a)) := zK.rf.u (Or.inl ⟨rfl, rfl, rfl⟩)
  have h2 : zu s 7 i 10 (s 7 i 10 - a) 7 i 10 = s 7 i 10 - a := zzs _ _ _ _ _
  have h3 : ∀ o, o ≠ 10 → zu s 7 i 10 (s 7 i 10 - a) 7 i o = s 7 i o := fun o ho => zzu fun z => ho z.2.2
  refine zT_l (zT_i (fun _ => zT_s ⟨h1, h2, h3⟩) fun g0 => zT_i (fun _ => zT_s ⟨h1, h2, h3⟩) fun g8 => ?_)
  have hv : vp_in c 8 := zvit (by rw [zlt, z0i] at g0; omega) (by rw [zle, show (8 : Int32).toInt = 8 from rfl] at g8; omega)
  refine zT_x hv fun hc => zT_x hv fun _ => zT_l (zT_s ⟨h1.u (Or.inr ⟨rfl, rfl, hc⟩), ?_, fun o ho => ?_⟩)
  · rw [zzu (fun z => by omega)]
    exact h2
  · rw [zzu (fun z => by omega)]
    exact h3 o ho
theorem s_cause (i : Nat) (s : zM) : zT (fTu_causeOfStanding i s) fun _ => True := by
  unfold fTu_causeOfStanding
  repeat' first
    | exact zT_s trivial
    | refine zT_i (fun _ => ?_) (fun _ => ?_)
/-- what the TURN takes: of 0 to 2000 no more than there is -/
theorem s_turned {x t : Int32} (h0 : 0 ≤ x.toInt) (h1 : x.toInt ≤ 2000) (g0 : -2 ≤ t.toInt) (g1 : t.toInt ≤ 2) : 0 ≤ (x - (x * (((3 : Int32) * t) * t)) / 100).toInt ∧ (x - (x * (((3 : Int32) * t) * t)) / 100).toInt ≤ x.toInt := by
  have e : ∃ c : Int, (((3 : Int32) * t) * t).toInt = c ∧ (c = 0 ∨ c = 3 ∨ c = 12) := by
    have ht : t = -2 ∨ t = -1 ∨ t = 0 ∨ t = 1 ∨ t = 2 := by
      rcases (show t.toInt = -2 ∨ t.toInt = -1 ∨ t.toInt = 0 ∨ t.toInt = 1 ∨ t.toInt = 2 by omega) with h | h | h | h | h
      · exact Or.inl (Int32.toInt_inj.mp h)
      · exact Or.inr (Or.inl (Int32.toInt_inj.mp h))
      · exact Or.inr (Or.inr (Or.inl (Int32.toInt_inj.mp h)))
      · exact Or.inr (Or.inr (Or.inr (Or.inl (Int32.toInt_inj.mp h))))
      · exact Or.inr (Or.inr (Or.inr (Or.inr (Int32.toInt_inj.mp h))))
    rcases ht with rfl | rfl | rfl | rfl | rfl
    · exact ⟨12, by decide, by decide⟩
    · exact ⟨3, by decide, by decide⟩
    · exact ⟨0, by decide, by decide⟩
    · exact ⟨3, by decide, by decide⟩
    · exact ⟨12, by decide, by decide⟩
  obtain ⟨c, ec, hc⟩ := e
  have hm : 0 ≤ x.toInt * c ∧ x.toInt * c ≤ 12 * x.toInt := by
    rcases hc with rfl | rfl | rfl <;> omega
  have e1 : (x * (((3 : Int32) * t) * t)).toInt = x.toInt * c := by
    rw [zmul32 (by rw [ec]; omega) (by rw [ec]; omega), ec]
  have e2 : ((x * (((3 : Int32) * t) * t)) / 100).toInt = x.toInt * c / 100 := by
    rw [zdiv32 (by decide), e1, z100i, ztdiv hm.1 (by decide)]
  rw [zsub32 (by rw [e2]; omega) (by rw [e2]; omega), e2]
  omega
theorem s_max0 {a b : Int32} (ha0 : 0 ≤ a.toInt) (ha : a.toInt ≤ 2000) (hb0 : 0 ≤ b.toInt) (hb : b.toInt ≤ 2000) : (a - zmax 0 (a - b)).toInt = min a.toInt b.toInt := by
  have e1 : (a - b).toInt = a.toInt - b.toInt := zsub32 (by omega) (by omega)
  unfold zmax
  by_cases h : (0 : Int32) < a - b
  · rw [if_pos h, zsub32 (by rw [e1]; omega) (by rw [e1]; omega), e1]
    rw [zlt, z0i, e1] at h
    omega
  · rw [if_neg h, zsub32 (by rw [z0i]; omega) (by rw [z0i]; omega), z0i]
    rw [zlt, z0i, e1] at h
    omega
theorem s_take (i : Nat) (w p : Int32) (s : zM) (hp0 : 0 ≤ p.toInt) (hp : p.toInt ≤ 2000) (ht0 : -2 ≤ (s 7 i 7).toInt) (ht : (s 7 i 7).toInt ≤ 2) : zT (fTu_take i w p s) fun s' => zK (s_Pl i) s s' ∧ 0 ≤ (s' 7 i 10).toInt ∧ (s' 7 i 10).toInt ≤ 2000 := by
  unfold fTu_take
  refine zT_l (zT_l (zT_l ?_))
  generalize hu : zu (zu (zu s 7 i 9 (s 7 i 8)) 7 i 8 w) 7 i 10 p = u
  have hk : zK (s_Pl i) s u := by
    rw [← hu]
    exact ((zK.rf.u (Or.inl ⟨rfl, rfl, by decide, by decide⟩)).u (Or.inl ⟨rfl, rfl, by decide, by decide⟩)).u (Or.inl ⟨rfl, rfl, by decide, by decide⟩)
  have u10 : u 7 i 10 = p := by rw [← hu]; exact zzs _ _ _ _ _
  have u7 : u 7 i 7 = s 7 i 7 := hk 7 i 7 (fun z => by unfold s_Pl at z; omega)
  refine zT_c (s_power w) fun q _ hq => zT_c (s_lose i _ 0 u) fun v _ hv => ?_
  obtain ⟨k1, k2, k3⟩ := hv
  have v10 : (v 7 i 10).toInt = min p.toInt q.toInt := by rw [k2, u10]; exact s_max0 hp0 hp hq.1 hq.2
  have v7 : v 7 i 7 = s 7 i 7 := (k3 7 (by decide)).trans u7
  refine zT_i (fun _ => ?_) fun _ => ?_
  · refine zT_c (s_lose i _ 5 v) fun x _ hx => zT_s ⟨(hk.tr (k1.mono (s_Pel i))).tr (hx.1.mono (s_Pel i)), ?_⟩
    have := s_turned (x := v 7 i 10) (t := v 7 i 7) (by rw [v10]; omega) (by rw [v10]; omega) (by rw [v7]; exact ht0) (by rw [v7]; exact ht)
    rw [hx.2.1]
    rw [v10] at this
    omega
  · refine zT_c (s_cause i v) fun c _ _ => zT_c (s_lose i _ c v) fun x _ hx => zT_s ⟨(hk.tr (k1.mono (s_Pel i))).tr (hx.1.mono (s_Pel i)), ?_⟩
    rw [hx.2.1, zsub32 (by omega) (by omega)]
    omega
