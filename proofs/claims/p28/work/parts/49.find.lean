/-! ===== the best place: how it is found ===== -/
def s_x (s : zM) (i : Nat) : Int32 := s 7 i 0
def s_y (s : zM) (i : Nat) : Int32 := s 7 i 1
def s_pn (n : Nat) (f : Nat → Int32) (x : Int32) (i : Nat) : Int32 := if i = n then x else f i
theorem s_pn_n (n : Nat) (f : Nat → Int32) (x : Int32) : s_pn n f x n = x := if_pos rfl
theorem s_pn_lt {n : Nat} (f : Nat → Int32) (x : Int32) {i : Nat} (h : i < n) : s_pn n f x i = f i := if_neg (by omega)
theorem s_8F : ∀ d j : Fin 8, Int32.ofNat d * 8 + Int32.ofNat j = Int32.ofNat (d * 8 + j) := by decide
theorem s_8 {d j : Nat} (hd : d < 8) (hj : j < 8) : Int32.ofNat d * 8 + Int32.ofNat j = Int32.ofNat (d * 8 + j) := s_8F ⟨d, hd⟩ ⟨j, hj⟩
def s_K1 (o : Nat) : zP := fun k i o' => (k = 1 ∨ k = 2) ∧ i = 0 ∧ o' = o
theorem s_td1 {n d j : Nat} {s u u0 : zM} (h8 : n ≤ 8) (h5 : s 0 0 5 = Int32.ofNat n) (hd : d < 8) (hj : j < n) (u1 : u 1 0 (d * 8 + j) = 0) (u2 : u 2 0 (d * 8 + j) = 0) : zT (ziter (fSi_takeDeficits_l37 (Int32.ofNat d) s (Int32.ofNat j, u0) (Int32.ofNat (d * 8 + j))) 1000 ((0 : Int32), u)) fun r => zK (s_K1 (d * 8 + j)) u r ∧ r 1 0 (d * 8 + j) = (s_GS (s_x s) (s_y s) (Int32.ofNat d) j n).1 ∧ r 2 0 (d * 8 + j) = (s_GS (s_x s) (s_y s) (Int32.ofNat d) j n).2 := by
  refine zT_it (fun e q => ∃ k : Nat, q.1 = Int32.ofNat k ∧ k + e = n ∧ zK (s_K1 (d * 8 + j)) u q.2 ∧ q.2 1 0 (d * 8 + j) = (s_GS (s_x s) (s_y s) (Int32.ofNat d) j k).1 ∧ q.2 2 0 (d * 8 + j) = (s_GS (s_x s) (s_y s) (Int32.ofNat d) j k).2) ?_ n 1000 _ (by omega) ⟨0, rfl, by omega, zK.rf, u1, u2⟩
  rintro e ⟨i, v⟩ ⟨k, hi, hk, kv, v1, v2⟩
  dsimp only at hi kv v1 v2
  subst hi
  unfold fSi_takeDeficits_l37
  dsimp only
  rw [h5]
  refine zT_i (fun hh => zT_s ?_) fun hh => ?_
  · rw [znle (by omega) (by omega)] at hh
    obtain rfl : k = n := by omega
    exact ⟨kv, v1, v2⟩
  have hkn : k < n := by
    rw [znle (by omega) (by omega)] at hh
    omega
  have ho : d * 8 + j < 64 := by omega
  refine zT_xn (by omega) (by decide) (zT_xn (by omega) (by decide) (zT_xn (by omega) (by decide) ?_))
  rw [s_dvE, Option.bind_some]
  refine zT_xn ho (by decide) (zT_xn ho (by decide) (zT_l (zT_xn ho (by decide) (zT_xn ho (by decide) (zT_l (zT_l (zT_s ?_)))))))
  refine ⟨e - 1, by omega, k + 1, zn1 k, by omega, (kv.u ⟨Or.inl rfl, rfl, rfl⟩).u ⟨Or.inr rfl, rfl, rfl⟩, ?_, ?_⟩
  · dsimp only
    rw [zzu (fun z => by omega), zzs, v1]
    rfl
  · dsimp only
    rw [zzs, zzu (fun z => by omega), v2]
    rfl
def s_K8 (d : Nat) : zP := fun k i o => (k = 1 ∨ k = 2) ∧ i = 0 ∧ d * 8 ≤ o ∧ o < d * 8 + 8
def s_Dn (s : zM) (n d : Nat) (r : zM) : Prop := ∀ j, j < n → r 1 0 (d * 8 + j) = (s_GS (s_x s) (s_y s) (Int32.ofNat d) j n).1 ∧ r 2 0 (d * 8 + j) = (s_GS (s_x s) (s_y s) (Int32.ofNat d) j n).2
theorem s_td {n d : Nat} {s u : zM} (h8 : n ≤ 8) (h5 : s 0 0 5 = Int32.ofNat n) (hd : d < 8) : zT (fSi_takeDeficits (Int32.ofNat d) u s) fun r => zK (s_K8 d) u r ∧ s_Dn s n d r := by
  unfold fSi_takeDeficits
  refine zT_c (R := fun r => zK (s_K8 d) u r ∧ s_Dn s n d r) (zT_it (fun e q => ∃ k : Nat, q.1 = Int32.ofNat k ∧ k + e = n ∧ zK (s_K8 d) u q.2 ∧ ∀ j, j < k → q.2 1 0 (d * 8 + j) = (s_GS (s_x s) (s_y s) (Int32.ofNat d) j n).1 ∧ q.2 2 0 (d * 8 + j) = (s_GS (s_x s) (s_y s) (Int32.ofNat d) j n).2) ?_ n 1000 _ (by omega) ⟨0, rfl, by omega, zK.rf, fun j hj => absurd hj (Nat.not_lt_zero j)⟩) fun r _ hr => zT_s hr
  rintro e ⟨i, v⟩ ⟨k, hi, hk, kv, hv⟩
  dsimp only at hi kv hv
  subst hi
  unfold fSi_takeDeficits_l2
  dsimp only
  rw [h5]
  refine zT_i (fun hh => zT_s ?_) fun hh => ?_
  · rw [znle (by omega) (by omega)] at hh
    obtain rfl : k = n := by omega
    exact ⟨kv, hv⟩
  have hkn : k < n := by
    rw [znle (by omega) (by omega)] at hh
    omega
  have ho : d * 8 + k < 64 := by omega
  refine zT_l ?_
  rw [s_8 hd (by omega)]
  refine zT_xn ho (by decide) (zT_l (zT_xn ho (by decide) (zT_l (zT_c (s_td1 (u0 := v) h8 h5 hd hkn ?_ ?_) fun r _ hr => zT_l (zT_s ?_)))))
  · rw [zzu (fun z => by omega), zzs]
  · rw [zzs]
  · obtain ⟨kr, r1, r2⟩ := hr
    have k2 : zK (s_K8 d) v r := (((zK.rf (P := s_K8 d) (s := v)).u ⟨Or.inl rfl, rfl, by omega, by omega⟩).u ⟨Or.inr rfl, rfl, by omega, by omega⟩).tr (kr.mono fun a b c z => ⟨z.1, z.2.1, by have := z.2.2; omega, by have := z.2.2; omega⟩)
    refine ⟨e - 1, by omega, k + 1, zn1 k, by omega, kv.tr k2, fun j hj => ?_⟩
    by_cases ej : j = k
    · subst ej
      exact ⟨r1, r2⟩
    · have t1 : r 1 0 (d * 8 + j) = v 1 0 (d * 8 + j) := by
        rw [kr 1 0 (d * 8 + j) (by unfold s_K1; omega), zzu (fun z => by omega), zzu (fun z => by omega)]
      have t2 : r 2 0 (d * 8 + j) = v 2 0 (d * 8 + j) := by
        rw [kr 2 0 (d * 8 + j) (by unfold s_K1; omega), zzu (fun z => by omega), zzu (fun z => by omega)]
      show r 1 0 (d * 8 + j) = _ ∧ r 2 0 (d * 8 + j) = _
      rw [t1, t2]
      exact hv j (by omega)
def s_Da (s : zM) (n : Nat) (r : zM) : Prop := ∀ d, d < 8 → s_Dn s n d r
theorem s_tds {n : Nat} {s u : zM} (h8 : n ≤ 8) (h5 : s 0 0 5 = Int32.ofNat n) : zT (ziter (fSi_bestFor_l2 s) 1000 ((0 : Int32), u)) (s_Da s n) := by
  refine zT_it (fun e q => ∃ k : Nat, q.1 = Int32.ofNat k ∧ k + e = 8 ∧ ∀ d, d < k → s_Dn s n d q.2) ?_ 8 1000 _ (by omega) ⟨0, rfl, by omega, fun j hj => absurd hj (Nat.not_lt_zero j)⟩
  rintro e ⟨i, v⟩ ⟨k, hi, hk, hv⟩
  dsimp only at hi hv
  subst hi
  unfold fSi_bestFor_l2
  dsimp only
  refine zT_i (fun hh => zT_s ?_) fun hh => ?_
  · rw [show (8 : Int32) = Int32.ofNat 8 from rfl, znle (by omega) (by omega)] at hh
    intro d hd
    exact hv d (by omega)
  have hkn : k < 8 := by
    rw [show (8 : Int32) = Int32.ofNat 8 from rfl, znle (by omega) (by omega)] at hh
    omega
  refine zT_c (s_td h8 h5 hkn) fun r _ hr => zT_l (zT_s ?_)
  refine ⟨e - 1, by omega, k + 1, zn1 k, by omega, fun d hd => ?_⟩
  by_cases ed : d = k
  · subst ed
    exact hr.2
  · intro j hj
    have a1 : r 1 0 (d * 8 + j) = v 1 0 (d * 8 + j) := hr.1 1 0 (d * 8 + j) (by unfold s_K8; omega)
    have a2 : r 2 0 (d * 8 + j) = v 2 0 (d * 8 + j) := hr.1 2 0 (d * 8 + j) (by unfold s_K8; omega)
    show r 1 0 (d * 8 + j) = _ ∧ r 2 0 (d * 8 + j) = _
    rw [a1, a2]
    exact hv d (by omega) j hj
/-- the power with one turbine more -/
def s_P (s : zM) (n : Nat) (x y : Int32) : Int32 := s_al (s_pn n (s_x s) x) (s_pn n (s_y s) y) (n + 1) 8
theorem s_nsub (a b : Int32) : -(a - b) = b - a := Int32.neg_sub
theorem s_GSp {s : zM} {n d k : Nat} (x y : Int32) (hk : k < n) : s_GS (s_pn n (s_x s) x) (s_pn n (s_y s) y) (Int32.ofNat d) k (n + 1) = (zmax (s_GS (s_x s) (s_y s) (Int32.ofNat d) k n).1 (s_dv (s_x s k - x) (s_y s k - y) (Int32.ofNat d)), (s_GS (s_x s) (s_y s) (Int32.ofNat d) k n).2 + s_dv (s_x s k - x) (s_y s k - y) (Int32.ofNat d)) := by
  show (zmax (s_GS (s_pn n (s_x s) x) (s_pn n (s_y s) y) (Int32.ofNat d) k n).1 (s_dv (s_pn n (s_x s) x k - s_pn n (s_x s) x n) (s_pn n (s_y s) y k - s_pn n (s_y s) y n) (Int32.ofNat d)), (s_GS (s_pn n (s_x s) x) (s_pn n (s_y s) y) (Int32.ofNat d) k n).2 + s_dv (s_pn n (s_x s) x k - s_pn n (s_x s) x n) (s_pn n (s_y s) y k - s_pn n (s_y s) y n) (Int32.ofNat d)) = _
  rw [s_pn_n, s_pn_n, s_pn_lt _ _ hk, s_pn_lt _ _ hk, s_GS_congr (M := n) (X' := s_x s) (Y' := s_y s) (fun i hi => s_pn_lt _ _ hi) (fun i hi => s_pn_lt _ _ hi) _ hk n (Nat.le_refl n)]
theorem s_pw1 {s r : zM} {n d : Nat} {x y a : Int32} (h8 : n < 8) (h5 : s 0 0 5 = Int32.ofNat n) (hd : d < 8) (hD : s_Dn s n d r) : zT (ziter (fSi_powerWith_l22 x y r s (a, Int32.ofNat d)) 1000 (a, (0 : Int32), (0 : Int32), (0 : Int32))) fun q => q = (a + s_hr (s_pn n (s_x s) x) (s_pn n (s_y s) y) (Int32.ofNat d) (n + 1) n, (s_GS (s_pn n (s_x s) x) (s_pn n (s_y s) y) (Int32.ofNat d) n n).1, (s_GS (s_pn n (s_x s) x) (s_pn n (s_y s) y) (Int32.ofNat d) n n).2) := by
  refine zT_it (fun e q => ∃ k : Nat, k + e = n ∧ q = (a + s_hr (s_pn n (s_x s) x) (s_pn n (s_y s) y) (Int32.ofNat d) (n + 1) k, (s_GS (s_pn n (s_x s) x) (s_pn n (s_y s) y) (Int32.ofNat d) n k).1, (s_GS (s_pn n (s_x s) x) (s_pn n (s_y s) y) (Int32.ofNat d) n k).2, Int32.ofNat k)) ?_ n 1000 _ (by omega) ⟨0, by omega, ?_⟩
  · rintro e q ⟨k, hk, rfl⟩
    unfold fSi_powerWith_l22
    dsimp only
    rw [h5]
    refine zT_i (fun hh => zT_s ?_) fun hh => ?_
    · rw [znle (by omega) (by omega)] at hh
      obtain rfl : k = n := by omega
      rfl
    have hkn : k < n := by
      rw [znle (by omega) (by omega)] at hh
      omega
    have ho : d * 8 + k < 64 := by omega
    refine zT_xn (by omega) (by decide) (zT_l (zT_xn (by omega) (by decide) (zT_l ?_)))
    rw [s_dvE, Option.bind_some, s_dvE, Option.bind_some]
    refine zT_l ?_
    rw [s_8 hd (by omega)]
    refine zT_l (zT_l (zT_xn ho (by decide) (zT_xn ho (by decide) ?_)))
    rw [(hD k hkn).1, (hD k hkn).2, s_nsub, s_nsub]
    rw [show fSi_powerAt (zmax (s_GS (s_x s) (s_y s) (Int32.ofNat d) k n).1 (s_dv (s 7 k 0 - x) (s 7 k 1 - y) (Int32.ofNat d))) ((s_GS (s_x s) (s_y s) (Int32.ofNat d) k n).2 + s_dv (s 7 k 0 - x) (s 7 k 1 - y) (Int32.ofNat d)) = some (s_pA (s_GS (s_pn n (s_x s) x) (s_pn n (s_y s) y) (Int32.ofNat d) k (n + 1))) from by rw [s_GSp x y hkn]; exact s_pAE (zmax (s_GS (s_x s) (s_y s) (Int32.ofNat d) k n).1 (s_dv (s_x s k - x) (s_y s k - y) (Int32.ofNat d)), (s_GS (s_x s) (s_y s) (Int32.ofNat d) k n).2 + s_dv (s_x s k - x) (s_y s k - y) (Int32.ofNat d)), Option.bind_some]
    refine zT_l (zT_l (zT_s ⟨e - 1, by omega, k + 1, by omega, ?_⟩))
    rw [zn1, Int32.add_assoc]
    show _ = (a + (s_hr (s_pn n (s_x s) x) (s_pn n (s_y s) y) (Int32.ofNat d) (n + 1) k + s_pA (s_GS (s_pn n (s_x s) x) (s_pn n (s_y s) y) (Int32.ofNat d) k (n + 1))), zmax (s_GS (s_pn n (s_x s) x) (s_pn n (s_y s) y) (Int32.ofNat d) n k).1 (s_dv (s_pn n (s_x s) x n - s_pn n (s_x s) x k) (s_pn n (s_y s) y n - s_pn n (s_y s) y k) (Int32.ofNat d)), (s_GS (s_pn n (s_x s) x) (s_pn n (s_y s) y) (Int32.ofNat d) n k).2 + s_dv (s_pn n (s_x s) x n - s_pn n (s_x s) x k) (s_pn n (s_y s) y n - s_pn n (s_y s) y k) (Int32.ofNat d), Int32.ofNat (k + 1))
    rw [s_pn_n, s_pn_n, s_pn_lt _ _ hkn, s_pn_lt _ _ hkn]
    rfl
  · show _ = (a + (0 : Int32), (0 : Int32), (0 : Int32), (0 : Int32))
    rw [Int32.add_zero]
theorem s_powerWith {s r : zM} {n : Nat} (x y : Int32) (h8 : n < 8) (h5 : s 0 0 5 = Int32.ofNat n) (hD : s_Da s n r) : fSi_powerWith x y r s = some (s_P s n x y) := by
  have key : zT (fSi_powerWith x y r s) fun q => q = s_P s n x y := by
    unfold fSi_powerWith
    refine zT_c (R := fun q => q = s_P s n x y) (zT_it (fun e q => ∃ k : Nat, k + e = 8 ∧ q = (s_al (s_pn n (s_x s) x) (s_pn n (s_y s) y) (n + 1) k, Int32.ofNat k)) ?_ 8 1000 _ (by omega) ⟨0, by omega, rfl⟩) fun q _ hq => zT_s hq
    rintro e q ⟨k, hk, rfl⟩
    unfold fSi_powerWith_l6
    dsimp only
    refine zT_i (fun hh => zT_s ?_) fun hh => ?_
    · rw [show (8 : Int32) = Int32.ofNat 8 from rfl, znle (by omega) (by omega)] at hh
      obtain rfl : k = 8 := by omega
      rfl
    have hkn : k < 8 := by
      rw [show (8 : Int32) = Int32.ofNat 8 from rfl, znle (by omega) (by omega)] at hh
      omega
    refine zT_c (s_pw1 h8 h5 hkn (hD k hkn)) fun q _ hq => ?_
    subst hq
    dsimp only
    rw [s_pAE, Option.bind_some]
    refine zT_l (zT_l (zT_s ⟨e - 1, by omega, k + 1, by omega, ?_⟩))
    rw [zn1, Int32.add_assoc, ← s_GS_self _ _ hkn n (by omega)]
    rfl
  obtain ⟨q, e, rfl⟩ := key
  exact e
