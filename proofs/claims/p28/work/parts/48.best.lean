/-! ===== the best place: what is reckoned ===== -/
def s_dv (a b d : Int32) : Int32 := (fWa_deficit a b 0 d).getD 0
theorem s_d42 : ∀ k : Fin 12, 0 ≤ ((42 : Int32) - 3 * Int32.ofNat (1 + k)).toInt ∧ ((42 : Int32) - 3 * Int32.ofNat (1 + k)).toInt ≤ 39 := by decide
theorem s_deficit_b (a b c d : Int32) : zT (fWa_deficit a b c d) fun r => 0 ≤ r.toInt ∧ r.toInt ≤ 39 := by
  have z : 0 ≤ (0 : Int32).toInt ∧ (0 : Int32).toInt ≤ 39 := by decide
  unfold fWa_deficit
  refine zT_i (fun _ => zT_s z) fun h0 => zT_i (fun h8 => ?_) fun _ => zT_s z
  have hv : vp_in d 8 := zvit (by rw [zlt, z0i] at h0; omega) (by rw [zlt, show (8 : Int32).toInt = 8 from rfl] at h8; exact h8)
  refine zT_x hv fun _ => zT_l (zT_x hv fun _ => zT_l (zT_l (zT_i (fun _ => zT_s z) fun g1 => zT_i (fun g2 => zT_l (zT_l (zT_i (fun _ => zT_s z) fun _ => zT_i (fun _ => zT_s ?_) fun _ => zT_s z))) fun _ => zT_s z)))
  obtain ⟨k, hk⟩ := zfin (a := a * zk0.getD d.toNatClampNeg 0 + b * zk1.getD d.toNatClampNeg 0) 1 12 (by decide) (by rw [zlt, z1i] at g1; omega) (by rw [zle, show (12 : Int32).toInt = 12 from rfl] at g2; omega)
  rw [hk]
  exact s_d42 k
theorem s_dvE (a b d : Int32) : fWa_deficit a b 0 d = some (s_dv a b d) := by
  obtain ⟨r, e, -⟩ := s_deficit a b 0 d
  unfold s_dv
  rw [e]
  rfl
theorem s_dvb (a b d : Int32) : 0 ≤ (s_dv a b d).toInt ∧ (s_dv a b d).toInt ≤ 39 := by
  obtain ⟨r, e, h⟩ := s_deficit_b a b 0 d
  unfold s_dv
  rw [e]
  exact h
theorem s_dv0F : ∀ d : Fin 8, s_dv 0 0 (Int32.ofNat d) = 0 := by decide
theorem s_dv0 {d : Nat} (h : d < 8) (a b : Int32) : s_dv (a - a) (b - b) (Int32.ofNat d) = 0 := by
  rw [Int32.sub_self, Int32.sub_self]
  exact s_dv0F ⟨d, h⟩
/-- greatest and sum of what the first m take from k -/
def s_GS (X Y : Nat → Int32) (d : Int32) (k : Nat) : Nat → Int32 × Int32
  | 0 => (0, 0)
  | m + 1 => (zmax (s_GS X Y d k m).1 (s_dv (X k - X m) (Y k - Y m) d), (s_GS X Y d k m).2 + s_dv (X k - X m) (Y k - Y m) d)
theorem zmax_c (a b : Int32) : (a.toInt ≤ b.toInt ∧ zmax a b = b) ∨ (b.toInt ≤ a.toInt ∧ zmax a b = a) := by
  unfold zmax
  by_cases h : a < b
  · rw [if_pos h]
    rw [zlt] at h
    exact Or.inl ⟨by omega, rfl⟩
  · rw [if_neg h]
    rw [zlt] at h
    exact Or.inr ⟨by omega, rfl⟩
theorem s_GSb (X Y : Nat → Int32) (d : Int32) (k : Nat) : ∀ m, m ≤ 8 → 0 ≤ (s_GS X Y d k m).1.toInt ∧ (s_GS X Y d k m).1.toInt ≤ 39 ∧ 0 ≤ (s_GS X Y d k m).2.toInt ∧ (s_GS X Y d k m).2.toInt ≤ 39 * m
  | 0, _ => ⟨Int.le_refl 0, (show (0 : Int32).toInt ≤ 39 by decide), Int.le_refl 0, Int.le_refl 0⟩
  | m + 1, h => by
    obtain ⟨a, b, c, e⟩ := s_GSb X Y d k m (by omega)
    have v := s_dvb (X k - X m) (Y k - Y m) d
    have hs : ((s_GS X Y d k m).2 + s_dv (X k - X m) (Y k - Y m) d).toInt = (s_GS X Y d k m).2.toInt + (s_dv (X k - X m) (Y k - Y m) d).toInt := zadd (by omega) (by omega)
    show 0 ≤ (zmax (s_GS X Y d k m).1 (s_dv (X k - X m) (Y k - Y m) d)).toInt ∧ (zmax (s_GS X Y d k m).1 (s_dv (X k - X m) (Y k - Y m) d)).toInt ≤ 39 ∧ 0 ≤ ((s_GS X Y d k m).2 + s_dv (X k - X m) (Y k - Y m) d).toInt ∧ ((s_GS X Y d k m).2 + s_dv (X k - X m) (Y k - Y m) d).toInt ≤ 39 * ((m + 1 : Nat) : Int)
    rw [hs]
    rcases zmax_c (s_GS X Y d k m).1 (s_dv (X k - X m) (Y k - Y m) d) with ⟨-, e1⟩ | ⟨-, e1⟩
    · rw [e1]; omega
    · rw [e1]; omega
theorem s_GS_congr {X Y X' Y' : Nat → Int32} {M k : Nat} (hX : ∀ i, i < M → X i = X' i) (hY : ∀ i, i < M → Y i = Y' i) (d : Int32) (hk : k < M) : ∀ m, m ≤ M → s_GS X Y d k m = s_GS X' Y' d k m
  | 0, _ => rfl
  | m + 1, h => by
    show (zmax (s_GS X Y d k m).1 (s_dv (X k - X m) (Y k - Y m) d), (s_GS X Y d k m).2 + s_dv (X k - X m) (Y k - Y m) d) = (zmax (s_GS X' Y' d k m).1 (s_dv (X' k - X' m) (Y' k - Y' m) d), (s_GS X' Y' d k m).2 + s_dv (X' k - X' m) (Y' k - Y' m) d)
    rw [s_GS_congr hX hY d hk m (by omega), hX k hk, hY k hk, hX m (by omega), hY m (by omega)]
theorem s_GS_self (X Y : Nat → Int32) {d : Nat} (hd : d < 8) (n : Nat) (hn : n ≤ 8) : s_GS X Y (Int32.ofNat d) n (n + 1) = s_GS X Y (Int32.ofNat d) n n := by
  show (zmax (s_GS X Y (Int32.ofNat d) n n).1 (s_dv (X n - X n) (Y n - Y n) (Int32.ofNat d)), (s_GS X Y (Int32.ofNat d) n n).2 + s_dv (X n - X n) (Y n - Y n) (Int32.ofNat d)) = _
  rw [s_dv0 hd, Int32.add_zero]
  have b := (s_GSb X Y (Int32.ofNat d) n n hn).1
  rcases zmax_c (s_GS X Y (Int32.ofNat d) n n).1 0 with ⟨h, e⟩ | ⟨h, e⟩
  · rw [z0i] at h
    have : (s_GS X Y (Int32.ofNat d) n n).1 = 0 := Int32.toInt_inj.mp (by rw [z0i]; omega)
    rw [e, ← this]
  · rw [e]
/-- wind, power -/
def s_wd (q : Int32 × Int32) : Int32 := (10 * (100 - zmin 60 (q.1 + (q.2 - q.1) / 2))) / 100
def s_pw (w : Int32) : Int32 := (fWa_power w).getD 0
theorem s_pwE (w : Int32) : fWa_power w = some (s_pw w) := by
  obtain ⟨r, e, -⟩ := s_power w
  unfold s_pw
  rw [e]
  rfl
def s_pA (q : Int32 × Int32) : Int32 := s_pw (s_wd q)
theorem s_pAE (q : Int32 × Int32) : fSi_powerAt q.1 q.2 = some (s_pA q) := by
  unfold fSi_powerAt fWa_together fWa_wind
  rw [Option.bind_some, Option.bind_some, s_pwE]
  rfl
theorem s_pw10 : ∀ k : Fin 11, 0 ≤ (s_pw (Int32.ofNat (0 + k))).toInt ∧ (s_pw (Int32.ofNat (0 + k))).toInt ≤ 1000 := by decide
theorem s_wdb {q : Int32 × Int32} (h1 : 0 ≤ q.1.toInt) (h2 : q.1.toInt ≤ 39) (h3 : 0 ≤ q.2.toInt) (h4 : q.2.toInt ≤ 400) : 0 ≤ (s_wd q).toInt ∧ (s_wd q).toInt ≤ 10 := by
  have e1 : (q.2 - q.1).toInt = q.2.toInt - q.1.toInt := zsub32 (by omega) (by omega)
  have e2 : ((q.2 - q.1) / 2).toInt = (q.2.toInt - q.1.toInt).tdiv 2 := by rw [zdiv32 (by decide), e1, z2i]
  have e3 : -(q.1.toInt) ≤ 2 * (q.2.toInt - q.1.toInt).tdiv 2 ∧ (q.2.toInt - q.1.toInt).tdiv 2 ≤ 400 := by
    by_cases h : 0 ≤ q.2.toInt - q.1.toInt
    · rw [ztdiv h (by decide)]
      omega
    · rw [show q.2.toInt - q.1.toInt = -(q.1.toInt - q.2.toInt) by omega, Int.neg_tdiv, ztdiv (by omega) (by decide)]
      omega
  have e4 : (q.1 + (q.2 - q.1) / 2).toInt = q.1.toInt + (q.2.toInt - q.1.toInt).tdiv 2 := by rw [zadd (by rw [e2]; omega) (by rw [e2]; omega), e2]
  have e5 : 0 ≤ (zmin 60 (q.1 + (q.2 - q.1) / 2)).toInt ∧ (zmin 60 (q.1 + (q.2 - q.1) / 2)).toInt ≤ 60 := by
    unfold zmin
    split
    · rename_i h
      rw [zlt, show (60 : Int32).toInt = 60 from rfl] at h
      first
        | exact ⟨by rw [e4]; omega, by omega⟩
        | exact ⟨by decide, by decide⟩
    · rename_i h
      rw [zlt, show (60 : Int32).toInt = 60 from rfl] at h
      first
        | exact ⟨by decide, by decide⟩
        | exact ⟨by rw [e4]; omega, by omega⟩
  unfold s_wd
  generalize zmin 60 (q.1 + (q.2 - q.1) / 2) = t at e5
  have e6 : ((100 : Int32) - t).toInt = 100 - t.toInt := by rw [zsub32 (by rw [z100i]; omega) (by rw [z100i]; omega), z100i]
  have e7 : ((10 : Int32) * (100 - t)).toInt = 10 * (100 - t.toInt) := by rw [zmul32 (by rw [z10i, e6]; omega) (by rw [z10i, e6]; omega), z10i, e6]
  rw [zdiv32 (by decide), e7, z100i, ztdiv (by omega) (by decide)]
  omega
theorem s_pAb {q : Int32 × Int32} (h1 : 0 ≤ q.1.toInt) (h2 : q.1.toInt ≤ 39) (h3 : 0 ≤ q.2.toInt) (h4 : q.2.toInt ≤ 400) : 0 ≤ (s_pA q).toInt ∧ (s_pA q).toInt ≤ 1000 := by
  have h := s_wdb h1 h2 h3 h4
  obtain ⟨k, hk⟩ := zfin (a := s_wd q) 0 11 (by decide) h.1 (by omega)
  unfold s_pA
  rw [hk]
  exact s_pw10 k
/-- an hour of a sector, all sectors -/
def s_hr (X Y : Nat → Int32) (d : Int32) (M : Nat) : Nat → Int32
  | 0 => 0
  | k + 1 => s_hr X Y d M k + s_pA (s_GS X Y d k M)
def s_al (X Y : Nat → Int32) (M : Nat) : Nat → Int32
  | 0 => 0
  | d + 1 => s_al X Y M d + s_hr X Y (Int32.ofNat d) M M
theorem s_hrb (X Y : Nat → Int32) (d : Int32) {M : Nat} (hM : M ≤ 8) : ∀ k, k ≤ 8 → 0 ≤ (s_hr X Y d M k).toInt ∧ (s_hr X Y d M k).toInt ≤ 1000 * k
  | 0, _ => ⟨Int.le_refl 0, Int.le_refl 0⟩
  | k + 1, h => by
    obtain ⟨a, b⟩ := s_hrb X Y d hM k (by omega)
    obtain ⟨g1, g2, g3, g4⟩ := s_GSb X Y d k M hM
    have p := s_pAb g1 g2 g3 (by omega)
    show 0 ≤ (s_hr X Y d M k + s_pA (s_GS X Y d k M)).toInt ∧ (s_hr X Y d M k + s_pA (s_GS X Y d k M)).toInt ≤ 1000 * ((k + 1 : Nat) : Int)
    rw [zadd (by omega) (by omega)]
    omega
theorem s_alb (X Y : Nat → Int32) {M : Nat} (hM : M ≤ 8) : ∀ d, d ≤ 8 → 0 ≤ (s_al X Y M d).toInt ∧ (s_al X Y M d).toInt ≤ 8000 * d
  | 0, _ => ⟨Int.le_refl 0, Int.le_refl 0⟩
  | d + 1, h => by
    obtain ⟨a, b⟩ := s_alb X Y hM d (by omega)
    have p := s_hrb X Y (Int32.ofNat d) hM M hM
    show 0 ≤ (s_al X Y M d + s_hr X Y (Int32.ofNat d) M M).toInt ∧ (s_al X Y M d + s_hr X Y (Int32.ofNat d) M M).toInt ≤ 8000 * ((d + 1 : Nat) : Int)
    rw [zadd (by omega) (by omega)]
    omega
theorem s_hr_congr {X Y X' Y' : Nat → Int32} {M : Nat} (hX : ∀ i, i < M → X i = X' i) (hY : ∀ i, i < M → Y i = Y' i) (d : Int32) : ∀ k, k ≤ M → s_hr X Y d M k = s_hr X' Y' d M k
  | 0, _ => rfl
  | k + 1, h => by
    show s_hr X Y d M k + s_pA (s_GS X Y d k M) = s_hr X' Y' d M k + s_pA (s_GS X' Y' d k M)
    rw [s_hr_congr hX hY d k (by omega), s_GS_congr hX hY d (by omega) M (Nat.le_refl M)]
theorem s_al_congr {X Y X' Y' : Nat → Int32} {M : Nat} (hX : ∀ i, i < M → X i = X' i) (hY : ∀ i, i < M → Y i = Y' i) : ∀ d, s_al X Y M d = s_al X' Y' M d
  | 0 => rfl
  | d + 1 => by
    show s_al X Y M d + s_hr X Y (Int32.ofNat d) M M = s_al X' Y' M d + s_hr X' Y' (Int32.ofNat d) M M
    rw [s_al_congr hX hY d, s_hr_congr hX hY _ M (Nat.le_refl M)]
