/-! ===== a sea that is made: an hour of each sector, nothing wears out, nothing is cut ===== -/
theorem s_wornNo {i : Nat} {s : zM} (h : ∀ k, k < 3 → (s 8 i k).toInt < (zk2.getD k 0).toInt) : zT (fTu_wornPart i s) fun q => q = -1 := by
  unfold fTu_wornPart
  refine zT_c (R := fun r => r = .inl ()) (zT_it (fun e q => ∃ k : Nat, q = Int32.ofNat k ∧ k + e = 3) ?_ 3 1000 _ (by decide) ⟨0, rfl, rfl⟩) fun r _ hr => ?_
  · rintro e q ⟨k, rfl, hk⟩
    unfold fTu_wornPart_l2
    refine zT_i (fun _ => zT_s rfl) fun hh => ?_
    have hkn : k < 3 := by
      rw [show (3 : Int32) = Int32.ofNat 3 from rfl, znle (by omega) (by omega)] at hh
      omega
    exact zT_xn hkn (by decide) (zT_xn hkn (by decide) (zT_i (fun _ => zT_l (zT_s ⟨e - 1, by omega, k + 1, zn1 k, by omega⟩)) fun g => absurd (zlt.mpr (h k hkn)) g))
  · subst hr
    exact zT_s rfl
theorem s_settleNo {i : Nat} {a : Int32} {s : zM} (h2 : s 7 i 3 = 2) (ha : a ≤ s 4 0 3) (hw : s 4 0 1 = 10) (h : ∀ k, k < 3 → (s 8 i k).toInt < (zk2.getD k 0).toInt) : zT (fTu_settle i a s) fun r => r = s := by
  unfold fTu_settle
  refine zT_l (zT_c (R := fun q => q = 0) (zT_i (fun _ => zT_s rfl) fun g => absurd ha g) fun q2 _ hq => ?_)
  subst hq
  refine zT_i (fun _ => ?_) fun g => absurd h2 g
  refine zT_i (fun _ => ?_) fun g => absurd rfl g
  refine zT_i (fun _ => ?_) fun g => absurd h2 g
  refine zT_i (fun g => absurd g (by rw [hw]; decide)) fun _ => ?_
  refine zT_i (fun _ => ?_) fun g => absurd (show s 4 0 1 ≤ 25 by rw [hw]; decide) g
  refine zT_i (fun _ => ?_) fun g => absurd h2 g
  refine zT_c (s_wornNo h) fun q _ hq => ?_
  refine zT_i (fun _ => ?_) fun g => absurd hq g
  exact zT_i (fun g => absurd (h2.symm.trans g) (by decide)) fun _ => zT_i (fun g => absurd (h2.symm.trans g) (by decide)) fun _ => zT_s rfl
theorem s_takeM {i : Nat} {w p : Int32} {s : zM} (h2 : s 7 i 3 = 2) (ht : s 7 i 7 = 0) (hw0 : 0 ≤ (s_pw w).toInt) (hwp : (s_pw w).toInt ≤ p.toInt) (hp : p.toInt ≤ 2000) : zT (fTu_take i w p s) fun s' => zK (s_Pl i) s s' ∧ s' 7 i 8 = w ∧ s' 7 i 10 = s_pw w := by
  unfold fTu_take
  refine zT_l (zT_l (zT_l ?_))
  generalize hu : zu (zu (zu s 7 i 9 (s 7 i 8)) 7 i 8 w) 7 i 10 p = u
  have hk : zK (s_Pl i) s u := by
    rw [← hu]
    exact ((zK.rf.u (Or.inl ⟨rfl, rfl, by decide, by decide⟩)).u (Or.inl ⟨rfl, rfl, by decide, by decide⟩)).u (Or.inl ⟨rfl, rfl, by decide, by decide⟩)
  have u10 : u 7 i 10 = p := by rw [← hu]; exact zzs _ _ _ _ _
  have u8 : u 7 i 8 = w := by rw [← hu, zzu (fun z => by omega), zzs]
  have u7 : u 7 i 7 = 0 := (hk 7 i 7 (fun z => by unfold s_Pl at z; omega)).trans ht
  have u3 : u 7 i 3 = 2 := (hk 7 i 3 (fun z => by unfold s_Pl at z; omega)).trans h2
  rw [s_pwE, Option.bind_some]
  refine zT_c (s_lose i _ 0 u) fun v _ hv => ?_
  obtain ⟨k1, k2, k3⟩ := hv
  have v10 : v 7 i 10 = s_pw w := by
    rw [k2, u10]
    refine Int32.toInt_inj.mp ?_
    rw [s_max0 (by omega) hp hw0 (by omega)]
    omega
  have v7 : v 7 i 7 = 0 := (k3 7 (by decide)).trans u7
  have v3 : v 7 i 3 = 2 := (k3 3 (by decide)).trans u3
  have v8 : v 7 i 8 = w := (k3 8 (by decide)).trans u8
  refine zT_i (fun _ => ?_) fun g => absurd v3 g
  refine zT_c (s_lose i _ 5 v) fun x _ hx => zT_s ⟨(hk.tr (k1.mono (s_Pel i))).tr (hx.1.mono (s_Pel i)), (hx.2.2 8 (by decide)).trans v8, ?_⟩
  rw [hx.2.1, v10, v7, Int32.mul_zero, Int32.mul_zero, show (0 : Int32) / 100 = 0 from by decide, Int32.sub_zero]
/-- all turbines run, their turn is 0, they stand there -/
def s_Rn (M : Nat) (X Y : Nat → Int32) (s : zM) : Prop := ∀ i, i < M → s 7 i 0 = X i ∧ s 7 i 1 = Y i ∧ s 7 i 3 = 2 ∧ s 7 i 7 = 0
theorem s_byM {M a j d : Nat} {X Y : Nat → Int32} {s : zM} (hM : M ≤ 8) (hR : s_Rn M X Y s) (hd : d < 8) (h4 : s 4 0 0 = Int32.ofNat d) (ha : a < M) (hj : j < M) : zT (fSe_deficitBy (Int32.ofNat a) (Int32.ofNat j) s) fun r => r = s_dv (X j - X a) (Y j - Y a) (Int32.ofNat d) := by
  unfold fSe_deficitBy
  obtain ⟨a0, a1, a3, a7⟩ := hR a ha
  obtain ⟨j0, j1, j3, j7⟩ := hR j hj
  refine zT_xn (by omega) (by decide) (zT_xn (by omega) (by decide) (zT_i (fun e => zT_s ?_) fun e => zT_i (fun _ => ?_) fun g => absurd a3 g))
  · have : a = j := by
      have := congrArg Int32.toInt e
      rw [zon (by omega), zon (by omega)] at this
      omega
    rw [this, s_dv0 hd]
  · rw [a0, a1, j0, j1, a7, h4, s_dvE, Option.bind_some]
    exact zT_s rfl
theorem s_defM {M j d : Nat} {X Y : Nat → Int32} {s : zM} (hM : M ≤ 8) (h5 : s 0 0 5 = Int32.ofNat M) (hR : s_Rn M X Y s) (hd : d < 8) (h4 : s 4 0 0 = Int32.ofNat d) (hj : j < M) : zT (fSe_deficitOf (Int32.ofNat j) s) fun r => r = zmin 60 ((s_GS X Y (Int32.ofNat d) j M).1 + ((s_GS X Y (Int32.ofNat d) j M).2 - (s_GS X Y (Int32.ofNat d) j M).1) / 2) := by
  unfold fSe_deficitOf
  refine zT_c (R := fun q => q = s_GS X Y (Int32.ofNat d) j M) (zT_it (fun e q => ∃ k : Nat, k + e = M ∧ q = ((s_GS X Y (Int32.ofNat d) j k).1, (s_GS X Y (Int32.ofNat d) j k).2, Int32.ofNat k)) ?_ M 1000 _ (by omega) ⟨0, by omega, rfl⟩) fun q _ hq => ?_
  · rintro e q ⟨k, hk, rfl⟩
    unfold fSe_deficitOf_l7
    dsimp only
    rw [h5]
    refine zT_i (fun hh => zT_s ?_) fun hh => ?_
    · rw [znle (by omega) (by omega)] at hh
      obtain rfl : k = M := by omega
      rfl
    have hkn : k < M := by
      rw [znle (by omega) (by omega)] at hh
      omega
    refine zT_c (s_byM hM hR hd h4 hkn hj) fun b _ hb => zT_l (zT_l (zT_l (zT_s ⟨e - 1, by omega, k + 1, by omega, ?_⟩)))
    subst hb
    rw [zn1]
    rfl
  · subst hq
    unfold fWa_together
    exact zT_b (zT_s (zT_s rfl))
/-- the sum of what is left -/
def s_sm (s : zM) : Nat → Int32
  | 0 => 0
  | k + 1 => s_sm s k + s 7 k 10
theorem s_giveNo {M : Nat} {s : zM} (hM : M ≤ 8) (h5 : s 0 0 5 = Int32.ofNat M) (hL : ∀ i, i < M → 0 ≤ (s 7 i 10).toInt ∧ (s 7 i 10).toInt ≤ 1000) (st lim c : Int32) (hlim : 8000 ≤ lim.toInt) : zT (fSe_giveUp st lim c s) fun r => r.2 = s ∧ (st = -1 → r.1 = s_sm s M) := by
  unfold fSe_giveUp
  refine zT_c (R := fun r => (0 ≤ r.toInt ∧ r.toInt ≤ 8000) ∧ (st = -1 → r = s_sm s M)) (zT_it (fun e (q : Int32 × Int32) => ∃ k : Nat, q.2 = Int32.ofNat k ∧ k + e = M ∧ (0 ≤ q.1.toInt ∧ q.1.toInt ≤ 1000 * (k : Int)) ∧ (st = -1 → q.1 = s_sm s k)) ?_ M 1000 _ (by omega) ⟨0, rfl, by omega, ⟨Int.le_refl 0, Int.le_refl 0⟩, fun _ => rfl⟩) fun q _ hq => ?_
  · rintro e ⟨acc, i⟩ ⟨k, hi, hk, hb, hs⟩
    dsimp only at hi hb hs
    subst hi
    unfold fSe_giveUp_l6
    dsimp only
    rw [h5]
    refine zT_i (fun hh => zT_s ?_) fun hh => ?_
    · rw [znle (by omega) (by omega)] at hh
      obtain rfl : k = M := by omega
      exact ⟨by omega, hs⟩
    have hkn : k < M := by
      rw [znle (by omega) (by omega)] at hh
      omega
    have hl := hL k hkn
    refine zT_c (R := fun v => st = -1 → v = 1) ?_ fun v _ hv => zT_c (R := fun v => (0 ≤ v.toInt ∧ v.toInt ≤ 1000) ∧ (st = -1 → v = s 7 k 10)) ?_ fun x _ hx => zT_l (zT_l (zT_s ⟨e - 1, by omega, k + 1, zn1 k, by omega, ?_, fun e1 => ?_⟩))
    · unfold fSe_isOn
      exact zT_i (fun _ => zT_s fun _ => rfl) fun g => zT_xn (by omega) (by decide) (zT_i (fun _ => zT_s fun _ => rfl) fun _ => zT_s fun z => absurd z g)
    · exact zT_i (fun g => zT_s ⟨by decide, fun z => absurd ((hv z).symm.trans g) (by decide)⟩) fun _ => zT_xn (by omega) (by decide) (zT_s ⟨hl, fun _ => rfl⟩)
    · dsimp only
      rw [zadd (by omega) (by omega)]
      omega
    · dsimp only
      rw [hs e1, hx.2 e1]
      rfl
  · obtain ⟨hb, hs⟩ := hq
    refine zT_l (zT_i (fun _ => zT_s ⟨rfl, hs⟩) fun g => absurd ?_ g)
    have hlt := Int32.toInt_lt lim
    rw [zle, z0i, zsub32 (by omega) (by omega)]
    omega
def s_Pc : zP := fun k i o => k = 12 ∧ i < 2 ∧ 1 ≤ o ∧ o ≤ 2
theorem s_loadNo {M : Nat} {s : zM} (hM : M ≤ 8) (h5 : s 0 0 5 = Int32.ofNat M) (h6 : s 0 0 6 = 2) (hL : ∀ i, i < M → 0 ≤ (s 7 i 10).toInt ∧ (s 7 i 10).toInt ≤ 1000) (hH : ∀ o, o < 2 → s 12 o 0 = 9999 ∧ 0 ≤ (s 12 o 1).toInt ∧ (s 12 o 1).toInt ≤ 9999) : zT (fSe_loadStrings s) (zK s_Pc s) := by
  unfold fSe_loadStrings
  refine zT_c (R := zK s_Pc s) (zT_it (fun d q => ∃ k : Nat, q.1 = Int32.ofNat k ∧ k + d = 2 ∧ zK s_Pc s q.2 ∧ ∀ o, k ≤ o → q.2 12 o 1 = s 12 o 1) ?_ 2 1000 _ (by decide) ⟨0, rfl, rfl, zK.rf, fun _ _ => rfl⟩) fun q _ hq => zT_s hq
  rintro d ⟨i, u⟩ ⟨k, hi, hk, ku, hu⟩
  dsimp only at hi ku hu
  subst hi
  unfold fSe_loadStrings_l2
  dsimp only
  have eu : u 0 0 6 = Int32.ofNat 2 := (ku 0 0 6 (by unfold s_Pc; omega)).trans h6
  refine zT_i (fun _ => zT_s ku) fun hh => ?_
  have hkn : k < 2 := by
    rw [eu, znle (by omega) (by omega)] at hh
    omega
  obtain ⟨r0, r1, r2⟩ := hH k hkn
  have e0 : u 12 k 0 = 9999 := (ku 12 k 0 (by unfold s_Pc; omega)).trans r0
  have e1 : u 12 k 1 = s 12 k 1 := hu k (Nat.le_refl k)
  have ed : ((u 12 k 1) / 10).toInt = (s 12 k 1).toInt / 10 := by rw [zdiv32 (by decide), z10i, e1, ztdiv r1 (by decide)]
  have el : (u 12 k 0 - (u 12 k 1) / 10).toInt = 9999 - (s 12 k 1).toInt / 10 := by rw [zsub32 (by rw [ed, e0]; show -2147483648 ≤ (9999 : Int) - _; omega) (by rw [ed, e0]; show (9999 : Int) - _ < _; omega), ed, e0]; rfl
  have eL : ∀ i, i < M → 0 ≤ (u 7 i 10).toInt ∧ (u 7 i 10).toInt ≤ 1000 := fun i hi => by
    rw [ku 7 i 10 (by unfold s_Pc; omega)]
    exact hL i hi
  refine zT_xn (by omega) (by decide) (zT_xn (by omega) (by decide) (zT_c (R := fun v => v = u 12 k 0 - (u 12 k 1) / 10) (by unfold fCa_limit; exact zT_s rfl) fun v _ hv => ?_))
  subst hv
  refine zT_c (s_giveNo hM ((ku 0 0 5 (by unfold s_Pc; omega)).trans h5) eL _ _ 6 (by rw [el]; omega)) fun r _ hr2 => ?_
  rw [hr2.1]
  unfold fCa_carry
  refine zT_c (R := fun x => zK s_Pc s x ∧ ∀ o, k + 1 ≤ o → x 12 o 1 = s 12 o 1) (zT_l (zT_l (zT_s ⟨(ku.u ⟨rfl, hkn, by decide, by decide⟩).u ⟨rfl, hkn, by decide, by decide⟩, fun o ho => ?_⟩))) fun x _ hx => zT_l (zT_s ⟨d - 1, by omega, k + 1, zn1 k, by omega, hx⟩)
  rw [zzu (fun z => by omega), zzu (fun z => by omega)]
  exact hu o (by omega)
