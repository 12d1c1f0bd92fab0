/-! ===== extremes and wear ===== -/
def s_Px (j : Nat) : zP := fun k i o => (k = 11 ∧ i = j ∧ o < 30) ∨ (k = 10 ∧ i = j ∧ 1 ≤ o ∧ o ≤ 3)
theorem s_takeOut (P : Int32 → Prop) (j fr mn : Nat) {s : zM} {c : Nat} (hc : s 10 j 1 = Int32.ofNat c) (hc30 : c ≤ 30) (hm : mn ≤ c) (hf : fr ≤ 100) (hP : ∀ o, o < 30 → P (s 11 j o)) : zT (fEx_takeOut j (Int32.ofNat fr) (Int32.ofNat mn) s) fun s' => zK (s_Px j) s s' ∧ s' 10 j 1 = Int32.ofNat (c - mn) ∧ ∀ o, o < 30 → P (s' 11 j o) := by
  unfold fEx_takeOut
  refine zT_c (R := fun s' => zK (s_Px j) s s' ∧ s' 10 j 1 = Int32.ofNat c ∧ ∀ o, o < 30 → P (s' 11 j o)) (zT_it (fun d q => ∃ k : Nat, q.1 = Int32.ofNat k ∧ k ≤ 200 ∧ 200 ≤ k + d ∧ zK (s_Px j) s q.2 ∧ q.2 10 j 1 = Int32.ofNat c ∧ ∀ o, o < 30 → P (q.2 11 j o)) ?_ 200 1000 _ (by decide) ⟨fr, rfl, by omega, by omega, zK.rf, hc, hP⟩) fun q _ hq => zT_l (zT_s ⟨hq.1.u (Or.inr ⟨rfl, rfl, by decide, by decide⟩), ?_, fun o ho => ?_⟩)
  · rintro d ⟨i, u⟩ ⟨k, hi, hk, hd, ku, uc, uP⟩
    dsimp only at hi ku uc uP
    subst hi
    unfold fEx_takeOut_l2
    dsimp only
    have ea : Int32.ofNat k + Int32.ofNat mn = Int32.ofNat (k + mn) := (Int32.ofNat_add k mn).symm
    refine zT_i (fun _ => zT_s ⟨ku, uc, uP⟩) fun hh => ?_
    have hkn : k + mn < c := by
      rw [uc, ea, znle (by omega) (by omega)] at hh
      omega
    refine zT_xe ea (by omega) (by decide) (zT_xn (by omega) (by decide) (zT_l (zT_l (zT_s ⟨d - 1, by omega, k + 1, zn1 k, by omega, by omega, ku.u (Or.inl ⟨rfl, rfl, by omega⟩), ?_, fun o ho => ?_⟩))))
    · show zu u 11 j k (u 11 j (k + mn)) 10 j 1 = _
      rw [zzu (fun z => by omega)]
      exact uc
    · show P (zu u 11 j k (u 11 j (k + mn)) 11 j o)
      by_cases hok : o = k
      · subst hok
        rw [zzs]
        exact uP _ (by omega)
      · rw [zzu (fun z => hok z.2.2)]
        exact uP o ho
  · rw [zzs, hq.2.1]
    exact (Int32.ofNat_sub c mn hm).symm
  · show P (zu q 10 j 1 _ 11 j o)
    rw [zzu (fun z => by omega)]
    exact hq.2.2 o ho
theorem s_ofs {c m : Nat} (h : m ≤ c) {x : Int32} (hx : x = Int32.ofNat m) : Int32.ofNat c - x = Int32.ofNat (c - m) := by
  rw [hx]
  exact (Int32.ofNat_sub c m h).symm
theorem s_oc {c : Nat} {y : Int32} (hc : y = Int32.ofNat c) (m : Nat) (h : m ≤ c) {x : Int32} (hx : x = Int32.ofNat m) : y - x = Int32.ofNat (c - m) := by
  rw [hc]
  exact s_ofs h hx
theorem s_hasCycle (j : Nat) {s : zM} {c : Nat} (hc : s 10 j 1 = Int32.ofNat c) (hc30 : c ≤ 30) : zT (fEx_hasCycle j s) fun v => v = 0 ∨ 3 ≤ c := by
  unfold fEx_hasCycle
  refine zT_i (fun _ => zT_s (Or.inl rfl)) fun h => ?_
  have h3 : 3 ≤ c := by
    have := Int32.not_lt.mp h
    rw [hc, show (3 : Int32) = Int32.ofNat 3 from rfl, znle (by omega) (by omega)] at this
    exact this
  exact zT_xe (s_oc hc 1 (by omega) rfl) (by omega) (by decide) (zT_xe (s_oc hc 2 (by omega) rfl) (by omega) (by decide) (zT_xe (s_oc hc 2 (by omega) rfl) (by omega) (by decide) (zT_xe (s_oc hc 3 (by omega) rfl) (by omega) (by decide) (zT_i (fun _ => zT_s (Or.inl rfl)) fun _ => zT_s (Or.inr h3)))))
theorem s_goesOn (j : Nat) (w : Int32) {s : zM} {c : Nat} (hc : s 10 j 1 = Int32.ofNat c) (hc30 : c ≤ 30) : zT (fEx_goesOn j w s) fun v => v = 0 ∨ 2 ≤ c := by
  unfold fEx_goesOn
  refine zT_i (fun h => ?_) fun _ => zT_s (Or.inl rfl)
  have h2 : 2 ≤ c := by
    rw [hc, show (2 : Int32) = Int32.ofNat 2 from rfl, znle (by omega) (by omega)] at h
    exact h
  refine zT_xe (s_oc hc 1 (by omega) rfl) (by omega) (by decide) (zT_l (zT_xe (s_oc hc 2 (by omega) rfl) (by omega) (by decide) (zT_i (fun _ => zT_i (fun _ => zT_s (Or.inl rfl)) fun _ => zT_s (Or.inr h2)) fun _ => zT_i (fun _ => zT_s (Or.inl rfl)) fun _ => zT_s (Or.inr h2))))
/-- a WIND is put to the row: P holds of all winds, A of the row's length and the damage so far -/
theorem s_put (P : Int32 → Prop) (A : Nat → Int32 → Prop) (hA : ∀ (c c' : Nat) (m x y : Int32), P x → P y → c' < c → A c m → A c' (m + ((x - y) * (x - y)) / 10)) (j : Nat) (w : Int32) {s : zM} {c : Nat} (hc : s 10 j 1 = Int32.ofNat c) (hc30 : c ≤ 30) (hP : ∀ o, o < 30 → P (s 11 j o)) (hw : P w) (hA0 : ∀ c', c' ≤ c + 1 → A c' 0) : zT (fEx_put j w s) fun r => zK (s_Px j) s r.2 ∧ (∃ c' : Nat, c' ≤ 30 ∧ r.2 10 j 1 = Int32.ofNat c' ∧ A c' r.1) ∧ ∀ o, o < 30 → P (r.2 11 j o) := by
  unfold fEx_put
  refine zT_c (R := fun x => x = .inl () ∨ x = .inr ((0 : Int32), s)) ?_ fun x _ hx => ?_
  · refine zT_i (fun _ => zT_s (Or.inl rfl)) fun h => ?_
    have h1 : 1 ≤ c := by
      rw [hc, show (0 : Int32) = Int32.ofNat 0 from rfl, znle (by omega) (by omega)] at h
      omega
    exact zT_xe (s_oc hc 1 h1 rfl) (by omega) (by decide) (zT_i (fun _ => zT_s (Or.inr rfl)) fun _ => zT_s (Or.inl rfl))
  · rcases hx with rfl | rfl
    · refine zT_c (s_goesOn j w hc hc30) fun v _ hv => zT_c (R := fun u => zK (s_Px j) s u ∧ (∃ c' : Nat, c' ≤ 29 ∧ c' ≤ c ∧ u 10 j 1 = Int32.ofNat c') ∧ ∀ o, o < 30 → P (u 11 j o)) ?_ fun u _ hu => ?_
      · refine zT_i (fun _ => zT_i (fun h => zT_s ⟨zK.rf, ⟨c, ?_, Nat.le_refl _, hc⟩, hP⟩) fun h => ?_) fun h => zT_l (zT_s ⟨zK.rf.u (Or.inr ⟨rfl, rfl, by decide, by decide⟩), ⟨c - 1, by omega, by omega, ?_⟩, fun o ho => ?_⟩)
        · rw [hc, zlt, zon (by omega), z30i] at h
          omega
        · have h30 : c = 30 := by
            rw [hc, zlt, zon (by omega), z30i] at h
            omega
          exact zT_c (s_takeOut P j 0 1 hc hc30 (by omega) (by decide) hP) fun b _ hb => zT_s ⟨hb.1, ⟨c - 1, by omega, by omega, hb.2.1⟩, hb.2.2⟩
        · rw [zzs, hc]
          have := hv.resolve_left h
          exact s_ofs (m := 1) (by omega) rfl
        · show P (zu s 10 j 1 _ 11 j o)
          rw [zzu (fun z => by omega)]
          exact hP o ho
      · obtain ⟨ku, ⟨c1, h29, hcc, uc⟩, uP⟩ := hu
        refine zT_xe uc (by omega) (by decide) (zT_l (zT_l ?_))
        generalize hx : zu (zu u 11 j c1 w) 10 j 1 (zu u 11 j c1 w 10 j 1 + 1) = x
        have kx : zK (s_Px j) s x := by
          rw [← hx]
          exact (ku.u (Or.inl ⟨rfl, rfl, by omega⟩)).u (Or.inr ⟨rfl, rfl, by decide, by decide⟩)
        have xc : x 10 j 1 = Int32.ofNat (c1 + 1) := by
          rw [← hx, zzs, zzu (fun z => by omega), uc]
          exact zn1 c1
        have xP : ∀ o, o < 30 → P (x 11 j o) := by
          intro o ho
          rw [← hx, zzu (fun z => by omega)]
          by_cases hok : o = c1
          · subst hok
            rw [zzs]
            exact hw
          · rw [zzu (fun z => hok z.2.2)]
            exact uP o ho
        refine zT_c (R := fun y => zK (s_Px j) s y.2 ∧ (∃ c' : Nat, c' ≤ 30 ∧ y.2 10 j 1 = Int32.ofNat c' ∧ A c' y.1) ∧ ∀ o, o < 30 → P (y.2 11 j o)) (zT_it (fun d q => ∃ k c' : Nat, q.2.1 = Int32.ofNat k ∧ k + d = 30 ∧ zK (s_Px j) s q.2.2 ∧ q.2.2 10 j 1 = Int32.ofNat c' ∧ c' ≤ 30 ∧ A c' q.1 ∧ ∀ o, o < 30 → P (q.2.2 11 j o)) ?_ 30 1000 _ (by decide) ⟨0, c1 + 1, rfl, rfl, kx, xc, by omega, hA0 _ (by omega), xP⟩) fun y _ hy => zT_l (zT_s ⟨hy.1.u (Or.inr ⟨rfl, rfl, by decide, by decide⟩), ?_, fun o ho => ?_⟩)
        · rintro d ⟨m, i, u⟩ ⟨k, c', hi, hk, ku, uc, c30, ua, uP⟩
          dsimp only at hi ku uc uP ua
          subst hi
          unfold fEx_put_l84
          dsimp only
          refine zT_i (fun _ => zT_s ⟨ku, ⟨c', c30, uc, ua⟩, uP⟩) fun hh => ?_
          have hkn : k < 30 := by
            rw [show (30 : Int32) = Int32.ofNat 30 from rfl, znle (by omega) (by omega)] at hh
            omega
          refine zT_c (s_hasCycle j uc c30) fun v _ hv => zT_i (fun _ => zT_s ⟨ku, ⟨c', c30, uc, ua⟩, uP⟩) fun hvn => ?_
          have c3 : 3 ≤ c' := hv.resolve_left hvn
          refine zT_xe (s_oc uc 2 (by omega) rfl) (by omega) (by decide) (zT_xe (s_oc uc 3 c3 rfl) (by omega) (by decide) (zT_l (zT_l (zT_l ?_))))
          generalize hz : zu u 10 j 3 (u 10 j 3 + 1) = z
          have kz : zK (s_Px j) s z := by
            rw [← hz]
            exact ku.u (Or.inr ⟨rfl, rfl, by decide, by decide⟩)
          have zc : z 10 j 1 = Int32.ofNat c' := by
            rw [← hz, zzu (fun z => by omega)]
            exact uc
          have zP : ∀ o, o < 30 → P (z 11 j o) := by
            intro o ho
            rw [← hz, zzu (fun z => by omega)]
            exact uP o ho
          refine zT_c (R := fun q => ∃ mn : Nat, q = Int32.ofNat mn ∧ 1 ≤ mn ∧ mn ≤ 2) (zT_i (fun _ => zT_s ⟨1, rfl, by decide, by decide⟩) fun _ => zT_s ⟨2, rfl, by decide, by decide⟩) fun q _ hq => ?_
          obtain ⟨mn, rfl, m1, m2⟩ := hq
          have e3 : z 10 j 1 - 3 = Int32.ofNat (c' - 3) := s_oc zc 3 c3 rfl
          rw [e3]
          refine zT_c (s_takeOut P j (c' - 3) mn zc c30 (by omega) (by omega) zP) fun b _ hb => zT_l (zT_s ⟨d - 1, by omega, k + 1, c' - mn, zn1 k, by omega, kz.tr hb.1, hb.2.1, by omega, hA c' _ m _ _ (uP _ (by omega)) (uP _ (by omega)) (by omega) ua, hb.2.2⟩)
        · obtain ⟨c', g1, g2, g3⟩ := hy.2.1
          exact ⟨c', g1, by
            show zu y.2 10 j 2 (y.2 10 j 2 + y.1) 10 j 1 = _
            rw [zzu (fun z => by omega)]
            exact g2, g3⟩
        · show P (zu y.2 10 j 2 (y.2 10 j 2 + y.1) 11 j o)
          rw [zzu (fun z => by omega)]
          exact hy.2.2 o ho
    · exact zT_s ⟨zK.rf, ⟨c, hc30, hc, hA0 c (by omega)⟩, hP⟩
def s_Pp (j : Nat) : zP := fun k i o => k = 8 ∧ i = j ∧ o < 3
theorem s_wearPart (j : Nat) (a b : Int32) (s : zM) : zT (fTu_wearPart j a b s) (zK (s_Pp j) s) := by
  unfold fTu_wearPart
  refine zT_i (fun _ => zT_s zK.rf) fun h0 => zT_i (fun _ => zT_s zK.rf) fun h3 => ?_
  have hv : vp_in a 3 := zvit (by rw [zlt, z0i] at h0; omega) (by rw [zle, z3i] at h3; omega)
  exact zT_x hv fun _ => zT_x hv fun hb => zT_l (zT_s (zK.rf.u ⟨rfl, rfl, hb⟩))
def s_Pw (j : Nat) : zP := fun k i o => (k = 8 ∧ i = j ∧ o < 3) ∨ (k = 11 ∧ i = j ∧ o < 30) ∨ (k = 10 ∧ i = j ∧ 1 ≤ o ∧ o ≤ 3)
theorem s_Ppw (j k i o : Nat) (h : s_Pp j k i o) : s_Pw j k i o := Or.inl h
theorem s_Pxw (j k i o : Nat) (h : s_Px j k i o) : s_Pw j k i o := Or.inr h
theorem s_wearOut (j : Nat) {s : zM} {c : Nat} (hc : s 10 j 1 = Int32.ofNat c) (hc30 : c ≤ 30) : zT (fTu_wearOut j s) fun s' => zK (s_Pw j) s s' ∧ ∃ c' : Nat, c' ≤ 30 ∧ s' 10 j 1 = Int32.ofNat c' := by
  unfold fTu_wearOut
  refine zT_i (fun _ => ?_) fun _ => zT_s ⟨zK.rf, c, hc30, hc⟩
  refine zT_c (R := fun _ => True) (zT_i (fun _ => zT_s trivial) fun _ => zT_s trivial) fun _ _ _ => zT_c (s_wearPart j 0 _ s) fun u _ hu => zT_c (R := fun _ => True) (zT_i (fun _ => zT_s trivial) fun _ => zT_s trivial) fun _ _ _ => zT_c (s_wearPart j 1 _ u) fun v _ hv => ?_
  have vc : v 10 j 1 = Int32.ofNat c := by rw [hv 10 j 1 (by unfold s_Pp; omega), hu 10 j 1 (by unfold s_Pp; omega)]; exact hc
  refine zT_c (s_put (fun _ => True) (fun _ _ => True) (fun _ _ _ _ _ _ _ _ _ => trivial) j _ vc hc30 (fun _ _ => trivial) trivial (fun _ _ => trivial)) fun r _ hr => zT_c (s_wearPart j 2 _ r.2) fun x _ hx => zT_s ?_
  obtain ⟨kr, ⟨c', h30, rc, -⟩, -⟩ := hr
  exact ⟨(((hu.mono (s_Ppw j)).tr (hv.mono (s_Ppw j))).tr (kr.mono (s_Pxw j))).tr (hx.mono (s_Ppw j)), c', h30, by rw [hx 10 j 1 (by unfold s_Pp; omega)]; exact rc⟩
/-! ===== an hour ===== -/
def s_Ct (n : Nat) (s : zM) : Prop := ∀ i, i < n → ∃ c : Nat, c ≤ 30 ∧ s 10 i 1 = Int32.ofNat c
def s_Iv (n : Nat) (s : zM) : Prop := s_St n s ∧ s_Ct n s ∧ s_Ht s
def s_Q1 (n : Nat) : zP := fun k i o => (k = 0 ∧ i = 0 ∧ o = 8) ∨ (k = 7 ∧ i < n ∧ 3 ≤ o ∧ o ≤ 6)
def s_Q2 (n : Nat) : zP := fun k i o => (k = 0 ∧ i = 0 ∧ o = 8) ∨ (k = 7 ∧ i < n ∧ 3 ≤ o ∧ o ≤ 10 ∧ o ≠ 7) ∨ (k = 9 ∧ i < n ∧ o < 8)
theorem s_Q1H (n k i o : Nat) (h : s_Q1 n k i o) : s_PH n k i o := by
  rcases h with ⟨rfl, rfl, rfl⟩ | ⟨rfl, hi, h1, h2⟩
  · exact s_PH0
  · exact s_PH7 hi h1 (by omega) (by omega)
theorem s_Q2H (n k i o : Nat) (h : s_Q2 n k i o) : s_PH n k i o := by
  rcases h with ⟨rfl, rfl, rfl⟩ | ⟨rfl, hi, h1, h2, h3⟩ | ⟨rfl, hi, h1⟩
  · exact s_PH0
  · exact s_PH7 hi h1 h2 h3
  · exact s_PH9 hi h1
theorem s_Q12 (n k i o : Nat) (h : s_Q1 n k i o) : s_Q2 n k i o := by
  rcases h with h | ⟨rfl, hi, h1, h2⟩
  · exact Or.inl h
  · exact Or.inr (Or.inl ⟨rfl, hi, h1, by omega, by omega⟩)
theorem s_PbH (n k i o : Nat) (h : s_Pb k i o) : s_PH n k i o := by
  rcases h with ⟨rfl, rfl, h1, h2⟩ | ⟨rfl, rfl, h1⟩
  · exact s_PH5 h1 h2
  · exact s_PH6 h1
theorem s_PwH {n j : Nat} (hj : j < n) (k i o : Nat) (h : s_Pw j k i o) : s_PH n k i o := by
  rcases h with ⟨rfl, rfl, h1⟩ | ⟨rfl, rfl, h1⟩ | ⟨rfl, rfl, h1, h2⟩
  · exact s_PH8 hj h1
  · exact s_PH11 hj h1
  · exact s_PH10 hj h1 h2
theorem s_PtQ {n j : Nat} (hj : j < n) (k i o : Nat) (h : s_Pt j k i o) : s_Q1 n k i o := by
  obtain ⟨rfl, rfl, h1, h2⟩ := h
  exact Or.inr ⟨rfl, hj, h1, h2⟩
theorem s_PlQ {n j : Nat} (hj : j < n) (k i o : Nat) (h : s_Pl j k i o) : s_Q2 n k i o := by
  rcases h with ⟨rfl, rfl, h1, h2⟩ | ⟨rfl, rfl, h1⟩
  · exact Or.inr (Or.inl ⟨rfl, hj, by omega, h2, by omega⟩)
  · exact Or.inr (Or.inr ⟨rfl, hj, h1⟩)
theorem s_passHour {n : Nat} {s : zM} (hI : s_Iv n s) : zT (fSe_passHour s) fun r => 0 ≤ r.1.toInt ∧ zK (s_PH n) s r.2 ∧ s_Iv n r.2 := by
  obtain ⟨hS, hC, hH⟩ := hI
  obtain ⟨h8, h5, h6, h7, ht, hr, ho⟩ := id hS
  unfold fSe_passHour
  refine zT_l ?_
  generalize hu : zu s 0 0 8 _ = s1
  have k1 : zK (s_Q1 n) s s1 := by
    rw [← hu]
    exact zK.rf.u (Or.inl ⟨rfl, rfl, rfl⟩)
  -- step 1
  refine zT_c (R := fun s' => zK (s_Q1 n) s s') (zT_it (fun d q => ∃ k : Nat, q.1 = Int32.ofNat k ∧ k + d = n ∧ zK (s_Q1 n) s q.2) ?_ n 1000 _ (by omega) ⟨0, rfl, by omega, k1⟩) fun s2 _ k2 => ?_
  · rintro d ⟨i, u⟩ ⟨k, hi, hk, ku⟩
    dsimp only at hi ku
    subst hi
    unfold fSe_passHour_l12
    dsimp only
    have eu : u 0 0 5 = Int32.ofNat n := (ku 0 0 5 (by unfold s_Q1; omega)).trans h5
    refine zT_i (fun _ => zT_s ku) fun hh => ?_
    have hkn : k < n := by
      rw [eu, znle (by omega) (by omega)] at hh
      omega
    exact zT_xn (by omega) (by decide) (zT_c (s_settle k _ u) fun v _ hv => zT_l (zT_s ⟨d - 1, by omega, k + 1, zn1 k, by omega, ku.tr (hv.mono (s_PtQ hkn))⟩))
  refine zT_c (s_power _) fun p _ hp => ?_
  -- step 2
  have hS2 : s_St n s2 := hS.k (k2.mono (s_Q1H n))
  refine zT_c (R := fun s' => zK (s_Q2 n) s s' ∧ s_Lf n s') (zT_it (fun d q => ∃ k : Nat, q.1 = Int32.ofNat k ∧ k + d = n ∧ zK (s_Q2 n) s q.2 ∧ s_Lf k q.2) ?_ n 1000 _ (by omega) ⟨0, rfl, by omega, k2.mono (s_Q12 n), fun i hi => absurd hi (Nat.not_lt_zero i)⟩) fun s3 _ h3 => ?_
  · rintro d ⟨i, u⟩ ⟨k, hi, hk, ku, lu⟩
    dsimp only at hi ku lu
    subst hi
    unfold fSe_passHour_l56
    dsimp only
    have hSu : s_St n u := hS.k (ku.mono (s_Q2H n))
    refine zT_i (fun hh => zT_s ⟨ku, by
      rw [hSu.2.1, znle (by omega) (by omega)] at hh
      intro i hi
      exact lu i (by omega)⟩) fun hh => ?_
    have hkn : k < n := by
      rw [hSu.2.1, znle (by omega) (by omega)] at hh
      omega
    have hT := hSu.2.2.2.2.1 k hkn
    refine zT_xn (by omega) (by decide) (zT_c (s_deficitOf hSu (by omega)) fun df _ _ => zT_c (R := fun _ => True) (by unfold fWa_wind; exact zT_s trivial) fun w _ _ => zT_c (s_take k w p u hp.1 hp.2 hT.1 hT.2) fun v _ hv => zT_l (zT_s ⟨d - 1, by omega, k + 1, zn1 k, by omega, ku.tr (hv.1.mono (s_PlQ hkn)), fun i hi => ?_⟩))
    by_cases hik : i = k
    · subst hik
      exact hv.2
    · show 0 ≤ (v 7 i 10).toInt ∧ (v 7 i 10).toInt ≤ 2000
      rw [hv.1 7 i 10 (by unfold s_Pl; omega)]
      exact lu i (by omega)
  obtain ⟨k3, l3⟩ := h3
  have hS3 : s_St n s3 := hS.k (k3.mono (s_Q2H n))
  have hH3 : s_Ht s3 := fun o ho => by
    rw [k3 12 o 1 (by unfold s_Q2; omega), k3 12 o 0 (by unfold s_Q2; omega)]
    exact hH o ho
  -- step 3
  refine zT_c (s_loadStrings hS3 l3 hH3) fun s4 _ h4 => ?_
  obtain ⟨k4, l4, hH4⟩ := h4
  have hS4 : s_St n s4 := hS3.k (k4.mono (s_PsH n))
  -- step 4
  refine zT_c (s_giveUp h8 hS4.2.1 l4 (-1) (s4 4 0 4) 7 hS4.2.2.2.2.2.2) fun r _ hr5 => ?_
  obtain ⟨v0, -, k5, l5⟩ := hr5
  -- step 5
  refine zT_c (s_book _ _ _ r.2) fun s6 _ k6 => ?_
  have kk : zK (s_PH n) s s6 := (((k3.mono (s_Q2H n)).tr (k4.mono (s_PsH n))).tr (k5.mono (s_PgH n))).tr (k6.mono (s_PbH n))
  have hC6 : s_Ct n s6 := fun i hi => by
    rw [k6 10 i 1 (by unfold s_Pb; omega), k5 10 i 1 (by unfold s_Pg; omega), k4 10 i 1 (by unfold s_Ps; omega), k3 10 i 1 (by unfold s_Q2; omega)]
    exact hC i hi
  have hH6 : s_Ht s6 := fun o ho => by
    rw [k6 12 o 1 (by unfold s_Pb; omega), k5 12 o 1 (by unfold s_Pg; omega), k6 12 o 0 (by unfold s_Pb; omega), k5 12 o 0 (by unfold s_Pg; omega)]
    exact hH4 o ho
  -- step 6
  refine zT_c (R := fun s' => zK (s_PH n) s s' ∧ s_Ct n s' ∧ s_Ht s') (zT_it (fun d q => ∃ k : Nat, q.1 = Int32.ofNat k ∧ k + d = n ∧ zK (s_PH n) s q.2 ∧ s_Ct n q.2 ∧ s_Ht q.2) ?_ n 1000 _ (by omega) ⟨0, rfl, by omega, kk, hC6, hH6⟩) fun s7 _ h77 => ?_
  · rintro d ⟨i, u⟩ ⟨k, hi, hk, ku, cu, hu2⟩
    dsimp only at hi ku cu hu2
    subst hi
    unfold fSe_passHour_l137
    dsimp only
    refine zT_i (fun _ => zT_s ⟨ku, cu, hu2⟩) fun hh => ?_
    have hkn : k < n := by
      rw [(hS.k ku).2.1, znle (by omega) (by omega)] at hh
      omega
    obtain ⟨c, c30, hc⟩ := cu k hkn
    refine zT_xn (by omega) (by decide) (zT_c (s_wearOut k hc c30) fun v _ hv => zT_l (zT_s ⟨d - 1, by omega, k + 1, zn1 k, by omega, ku.tr (hv.1.mono (s_PwH hkn)), fun i hi => ?_, fun o ho => ?_⟩))
    · by_cases hik : i = k
      · subst hik
        exact hv.2
      · show ∃ c : Nat, c ≤ 30 ∧ v 10 i 1 = Int32.ofNat c
        rw [hv.1 10 i 1 (by unfold s_Pw; omega)]
        exact cu i hi
    · show 0 ≤ (v 12 o 1).toInt ∧ (v 12 o 1).toInt ≤ (v 12 o 0).toInt
      rw [hv.1 12 o 1 (by unfold s_Pw; omega), hv.1 12 o 0 (by unfold s_Pw; omega)]
      exact hu2 o ho
  -- step 7
  obtain ⟨k7, c7, hH7⟩ := h77
  refine zT_c (R := fun s' => s' = s7) ⟨s7, zit_end 999 ?_, rfl⟩ fun s8 _ h88 => zT_s ?_
  · unfold fSe_passHour_l162
    exact if_pos (show s7 0 0 7 ≤ (0 : Int32) by rw [(hS.k k7).2.2.2.1]; decide)
  · subst h88
    exact ⟨v0, k7, hS.k k7, c7, hH7⟩
