/-! ===== loops: a measure that falls ===== -/
theorem zit_inv {σ β : Type} {b : σ → Option (σ ⊕ β)} (I : Nat → σ → Prop) (Q : β → Prop) (step : ∀ d s, I d s → (∃ x, b s = some (.inr x) ∧ Q x) ∨ ∃ s' d', d' < d ∧ b s = some (.inl s') ∧ I d' s') : ∀ (d n : Nat) (s : σ), d < n → I d s → ∃ x, ziter b n s = some x ∧ Q x
  | d, 0, s, h, _ => absurd h (Nat.not_lt_zero d)
  | d, n + 1, s, h, hI => by
    rw [ziter_succ]
    rcases step d s hI with ⟨x, e, hx⟩ | ⟨s', d', hd, e, hI'⟩
    · rw [e]
      exact ⟨x, rfl, hx⟩
    · rw [e]
      exact zit_inv I Q step d' n s' (by omega) hI'
theorem zit_end {σ β : Type} {b : σ → Option (σ ⊕ β)} {s : σ} {x : β} (n : Nat) (h : b s = some (.inr x)) : ziter b (n + 1) s = some x := by
  rw [ziter_succ, h]
  rfl
theorem zvi {i : Int32} {n : Nat} (h : (decide (i < 0) || decide (n ≤ i.toNatClampNeg)) = false) : vp_in i n := by
  rintro (z | z)
  · rw [decide_eq_true z] at h
    cases h
  · rw [decide_eq_true z, Bool.or_true] at h
    cases h
theorem zix_in {α : Type} {i : Int32} {n : Nat} {f : Nat → Option α} (h : vp_in i n) : zix i n f = f i.toNatClampNeg := if_neg h
/-! ===== on the fresh memories ===== -/
abbrev zt0 : zM := zu zm0 0 0 0 0
abbrev zth (k : Int32) : zM := zu zt0 0 0 0 k
theorem q_oi (a lo hi : Int32) : (fWB_outside a lo hi = some 0 ∧ fMO_in a lo hi = some 1 ∧ ¬ a < lo ∧ a ≤ hi) ∨ (fWB_outside a lo hi = some 1 ∧ fMO_in a lo hi = some 0) := by
  unfold fWB_outside fMO_in
  by_cases h1 : a < lo
  · rw [if_pos h1, if_pos h1]
    exact Or.inr ⟨rfl, rfl⟩
  · rw [if_neg h1, if_neg h1]
    by_cases h2 : a ≤ hi
    · rw [if_pos h2, if_neg (Int32.not_lt.mpr h2)]
      exact Or.inl ⟨rfl, rfl, h1, h2⟩
    · rw [if_neg h2, if_pos (Int32.not_le.mp h2)]
      exact Or.inr ⟨rfl, rfl⟩
theorem q_ht (a : Int32) : fSe_hasTurbine a zfr0 = some 0 := by
  unfold fSe_hasTurbine
  by_cases h : a < 0
  · rw [if_pos h]
  · rw [if_neg h, if_pos (show zfr0 0 0 5 ≤ a from Int32.not_lt.mp h)]
theorem q_ct (a : Int32) (s0 s2 s3 : zM) : fWB_checkTurbine a s0 zfr0 s2 s3 = some (.inr "java/lang/IndexOutOfBoundsException") := by
  unfold fWB_checkTurbine
  rw [q_ht]
  rfl
theorem q_cs (a : Int32) (s0 s2 s3 : zM) : fWB_checkString a s0 zfr0 s2 s3 = some (.inr "java/lang/IndexOutOfBoundsException") := by
  unfold fWB_checkString
  by_cases h : a < 0
  · rw [if_pos h]
  · rw [if_neg h, if_neg (show ¬ a < zfr0 0 0 6 from h)]
theorem q_cv (a : Int32) (s0 s2 s3 : zM) : fWB_checkVessel a s0 zfr0 s2 s3 = some (.inr "java/lang/IndexOutOfBoundsException") := by
  unfold fWB_checkVessel
  by_cases h : a < 0
  · rw [if_pos h]
  · rw [if_neg h, if_neg (show ¬ a < zfr0 0 0 7 from h)]
theorem q_none (a : Int32) : fMO_in a 0 (-1) = some 0 := by
  unfold fMO_in
  by_cases h : a < 0
  · rw [if_pos h]
  · rw [if_neg h, if_pos (Int32.lt_of_lt_of_le (show (-1 : Int32) < 0 by decide) (Int32.not_lt.mp h))]
theorem q_i0 (a : Int32) (k : Nat) (h : zfr3 0 0 k - 1 = -1) : fMO_in a 0 (zfr3 0 0 k - 1) = some 0 := by
  rw [h]
  exact q_none a
theorem q_it (a : Int32) (s0 : zM) : fMO_isTurbine a s0 zfr3 = some 0 := by
  unfold fMO_isTurbine
  rw [q_i0 a 7 rfl]
  rfl
theorem q_iv (a : Int32) (s0 : zM) : fMO_isVessel a s0 zfr3 = some 0 := by
  unfold fMO_isVessel
  rw [q_i0 a 9 rfl]
  rfl

theorem q_turbine (a1 a2 a3 : Int32) : ∃ b c, fWB_turbine a1 a2 a3 zm0 zfr0 zfr0 zm0 = some (.inr ("java/lang/IndexOutOfBoundsException", b)) ∧ fMO_turbine a1 a2 a3 zm0 zfr3 = some c ∧ c.2.1 0 0 0 = 1 := ⟨_, _, by unfold fWB_turbine; rw [q_cs]; rfl, by unfold fMO_turbine; dsimp only [zlet]; rw [q_i0 _ 8 rfl]; rfl, rfl⟩
theorem q_turn (a1 a2 : Int32) : ∃ b c, fWB_turn a1 a2 zm0 zfr0 zfr0 zm0 = some (.inr ("java/lang/IndexOutOfBoundsException", b)) ∧ fMO_turn a1 a2 zm0 zfr3 = some c ∧ c.2.1 0 0 0 = 1 := ⟨_, _, by unfold fWB_turn; rw [q_ct]; rfl, by unfold fMO_turn; dsimp only [zlet]; rw [q_it]; rfl, rfl⟩
theorem q_call (a1 a2 : Int32) : ∃ b c, fWB_call a1 a2 zm0 zfr0 zfr0 zm0 = some (.inr ("java/lang/IndexOutOfBoundsException", b)) ∧ fMO_call a1 a2 zm0 zfr3 = some c ∧ c.2.1 0 0 0 = 1 := ⟨_, _, by unfold fWB_call; rw [q_ct]; rfl, by unfold fMO_call; dsimp only [zlet]; rw [q_it]; rfl, rfl⟩
theorem q_sail (a1 a2 : Int32) : ∃ b c, fWB_sail a1 a2 zm0 zfr0 zfr0 zm0 = some (.inr ("java/lang/IndexOutOfBoundsException", b)) ∧ fMO_sail a1 a2 zm0 zfr3 = some c ∧ c.2.1 0 0 0 = 1 := ⟨_, _, by unfold fWB_sail; rw [q_cv]; rfl, by unfold fMO_sail; dsimp only [zlet]; rw [q_iv]; rfl, rfl⟩
theorem q_lock (a1 a2 : Int32) : ∃ b c, fWB_lock a1 a2 zm0 zfr0 zfr0 zm0 = some (.inr ("java/lang/IndexOutOfBoundsException", b)) ∧ fMO_lock a1 a2 zm0 zfr3 = some c ∧ c.2.1 0 0 0 = 1 := ⟨_, _, by unfold fWB_lock; rw [q_cv]; rfl, by unfold fMO_lock; dsimp only [zlet]; rw [q_iv]; rfl, rfl⟩
theorem q_climb (a1 a2 : Int32) : ∃ b c, fWB_climb a1 a2 zm0 zfr0 zfr0 zm0 = some (.inr ("java/lang/IndexOutOfBoundsException", b)) ∧ fMO_climb a1 a2 zm0 zfr3 = some c ∧ c.2.1 0 0 0 = 1 := ⟨_, _, by unfold fWB_climb; rw [q_cv]; rfl, by unfold fMO_climb; dsimp only [zlet]; rw [q_iv]; rfl, rfl⟩
theorem q_down (a1 : Int32) : ∃ b c, fWB_down a1 zm0 zfr0 zfr0 zm0 = some (.inr ("java/lang/IndexOutOfBoundsException", b)) ∧ fMO_down a1 zm0 zfr3 = some c ∧ c.2.1 0 0 0 = 1 := ⟨_, _, by unfold fWB_down; rw [q_cv]; rfl, by unfold fMO_down; dsimp only [zlet]; rw [q_iv]; rfl, rfl⟩
theorem q_ofTurbine (a1 a2 : Int32) : ∃ c, fWB_ofTurbine a1 a2 zm0 zfr0 zfr0 zm0 = some (.inr "java/lang/IndexOutOfBoundsException") ∧ fMO_ofTurbine a1 a2 zm0 zfr3 = some c ∧ c.2 0 0 0 = 1 := ⟨_, by unfold fWB_ofTurbine; rw [q_ct]; rfl, by unfold fMO_ofTurbine; dsimp only [zlet]; rw [q_it]; rfl, rfl⟩
theorem q_wear (a1 a2 : Int32) : ∃ c, fWB_wear a1 a2 zm0 zfr0 zfr0 zm0 = some (.inr "java/lang/IndexOutOfBoundsException") ∧ fMO_wear a1 a2 zm0 zfr3 = some c ∧ c.2 0 0 0 = 1 := ⟨_, by unfold fWB_wear; rw [q_ct]; rfl, by unfold fMO_wear; dsimp only [zlet]; rw [q_it]; rfl, rfl⟩
theorem q_lost (a1 a2 : Int32) : ∃ c, fWB_lost a1 a2 zm0 zfr0 zfr0 zm0 = some (.inr "java/lang/IndexOutOfBoundsException") ∧ fMO_lost a1 a2 zm0 zfr3 = some c ∧ c.2 0 0 0 = 1 := ⟨_, by unfold fWB_lost; rw [q_ct]; rfl, by unfold fMO_lost; dsimp only [zlet]; rw [q_it]; rfl, rfl⟩
theorem q_wake (a1 a2 : Int32) : ∃ c, fWB_wake a1 a2 zm0 zfr0 zfr0 zm0 = some (.inr "java/lang/IndexOutOfBoundsException") ∧ fMO_wake a1 a2 zm0 zfr3 = some c ∧ c.2 0 0 0 = 1 := ⟨_, by unfold fWB_wake; rw [q_ct]; rfl, by unfold fMO_wake; dsimp only [zlet]; rw [q_it]; rfl, rfl⟩
theorem q_extreme (a1 a2 : Int32) : ∃ c, fWB_extreme a1 a2 zm0 zfr0 zfr0 zm0 = some (.inr "java/lang/IndexOutOfBoundsException") ∧ fMO_extreme a1 a2 zm0 zfr3 = some c ∧ c.2 0 0 0 = 1 := ⟨_, by unfold fWB_extreme; rw [q_ct]; rfl, by unfold fMO_extreme; dsimp only [zlet]; rw [q_it]; rfl, rfl⟩
theorem q_ofString (a1 a2 : Int32) : ∃ c, fWB_ofString a1 a2 zm0 zfr0 zfr0 zm0 = some (.inr "java/lang/IndexOutOfBoundsException") ∧ fMO_ofString a1 a2 zm0 zfr3 = some c ∧ c.2 0 0 0 = 1 := ⟨_, by unfold fWB_ofString; rw [q_cs]; rfl, by unfold fMO_ofString; dsimp only [zlet]; rw [q_i0 _ 8 rfl]; rfl, rfl⟩
theorem q_ofVessel (a1 a2 : Int32) : ∃ c, fWB_ofVessel a1 a2 zm0 zfr0 zfr0 zm0 = some (.inr "java/lang/IndexOutOfBoundsException") ∧ fMO_ofVessel a1 a2 zm0 zfr3 = some c ∧ c.2 0 0 0 = 1 := ⟨_, by unfold fWB_ofVessel; rw [q_cv]; rfl, by unfold fMO_ofVessel; dsimp only [zlet]; rw [q_iv]; rfl, rfl⟩
theorem q_bestTurn (a1 : Int32) : ∃ b c, fWB_bestTurn a1 zm0 zfr0 zfr0 zm0 = some (.inr ("java/lang/IndexOutOfBoundsException", b)) ∧ fMO_bestTurn a1 zm0 zfr3 = some c ∧ c.2 0 0 0 = 1 := ⟨_, _, by unfold fWB_bestTurn; rw [q_ct]; rfl, by unfold fMO_bestTurn; dsimp only [zlet]; rw [q_it]; rfl, rfl⟩
theorem q_string (a1 : Int32) : (∃ b c, fWB_string a1 zm0 zfr0 zfr0 zm0 = some (.inl b) ∧ fMO_string a1 zm0 zfr3 = some c ∧ c.1 = b.1 ∧ c.2.1 0 0 0 = 0) ∨ ∃ b c, fWB_string a1 zm0 zfr0 zfr0 zm0 = some (.inr ("java/lang/IllegalArgumentException", b)) ∧ fMO_string a1 zm0 zfr3 = some c ∧ c.2.1 0 0 0 = 1 := by
  rcases q_oi a1 100 9999 with ⟨h1, h2, -, -⟩ | ⟨h1, h2⟩
  · exact Or.inl ⟨_, _, by unfold fWB_string; rw [h1]; rfl, by unfold fMO_string; dsimp only [zlet]; rw [h2]; rfl, (show zfr3 0 0 8 = zfr0 0 0 6 + 1 - 1 by decide +kernel), rfl⟩
  · exact Or.inr ⟨_, _, by unfold fWB_string; rw [h1]; rfl, by unfold fMO_string; dsimp only [zlet]; rw [h2]; rfl, rfl⟩
theorem q_floor (a1 : Int32) : (∃ b c, fWB_floor a1 zm0 zfr0 zfr0 zm0 = some (.inl b) ∧ fMO_floor a1 zm0 zfr3 = some c ∧ c.1 = b.1 ∧ c.2.1 0 0 0 = 0) ∨ ∃ b c, fWB_floor a1 zm0 zfr0 zfr0 zm0 = some (.inr ("java/lang/IllegalArgumentException", b)) ∧ fMO_floor a1 zm0 zfr3 = some c ∧ c.2.1 0 0 0 = 1 := by
  rcases q_oi a1 (-51) 50 with ⟨h1, h2, -, -⟩ | ⟨h1, h2⟩
  · exact Or.inl ⟨_, _, by unfold fWB_floor; rw [h1]; rfl, by unfold fMO_floor; dsimp only [zlet]; rw [h2]; rfl, (show zfr3 0 0 16 = zfr0 0 0 9 by decide +kernel), rfl⟩
  · exact Or.inr ⟨_, _, by unfold fWB_floor; rw [h1]; rfl, by unfold fMO_floor; dsimp only [zlet]; rw [h2]; rfl, rfl⟩
theorem q_vessel (a1 : Int32) : (fMO_in a1 5 40 = some 1 ∧ ∃ b, fWB_vessel a1 zm0 zfr0 zfr0 zm0 = some (.inl b) ∧ b.1 = 0) ∨ ∃ b c, fWB_vessel a1 zm0 zfr0 zfr0 zm0 = some (.inr ("java/lang/IllegalArgumentException", b)) ∧ fMO_vessel a1 zm0 zfr3 = some c ∧ c.2 0 0 0 = 1 := by
  rcases q_oi a1 5 40 with ⟨h1, h2, -, -⟩ | ⟨h1, h2⟩
  · exact Or.inl ⟨h2, _, by unfold fWB_vessel; rw [h1]; rfl, (show zfr0 0 0 7 + 1 - 1 = 0 by decide +kernel)⟩
  · exact Or.inr ⟨_, _, by unfold fWB_vessel; rw [h1]; rfl, by unfold fMO_vessel; dsimp only [zlet]; rw [h2]; rfl, rfl⟩
/-! numbers -/
theorem zadd {a b : Int32} (h1 : -2147483648 ≤ a.toInt + b.toInt) (h2 : a.toInt + b.toInt < 2147483648) : (a + b).toInt = a.toInt + b.toInt := by
  rw [Int32.toInt_add]
  exact Int.bmod_eq_of_le_mul_two (by omega) (by omega)
theorem zsub32 {a b : Int32} (h1 : -2147483648 ≤ a.toInt - b.toInt) (h2 : a.toInt - b.toInt < 2147483648) : (a - b).toInt = a.toInt - b.toInt := by
  rw [Int32.toInt_sub]
  exact Int.bmod_eq_of_le_mul_two (by omega) (by omega)
theorem z0i : (0 : Int32).toInt = 0 := rfl
theorem z1i : (1 : Int32).toInt = 1 := rfl
theorem zs1 {i : Int32} (h1 : i.toInt < 2147483647) : (i + 1).toInt = i.toInt + 1 := by
  have := i.le_toInt
  rw [zadd (by rw [z1i]; omega) (by rw [z1i]; omega), z1i]
theorem q_rng {a : Int32} (n : Nat) (hn : n < 1000) (h1 : ¬ a < 0) (h2 : a ≤ Int32.ofNat n) : ∃ k : Fin (n + 1), a = Int32.ofNat k := by
  have e1 : 0 ≤ a.toInt := by
    have := Int32.le_iff_toInt_le.mp (Int32.not_lt.mp h1)
    rw [z0i] at this
    exact this
  have e2 : a.toInt ≤ n := by
    have := Int32.le_iff_toInt_le.mp h2
    rw [Int32.toInt_ofNat_of_lt (by omega)] at this
    exact this
  refine ⟨⟨a.toInt.toNat, by omega⟩, Int32.toInt_inj.mp ?_⟩
  rw [Int32.toInt_ofNat_of_lt (by show a.toInt.toNat < 2 ^ 31; omega)]
  show a.toInt = (a.toInt.toNat : Int)
  omega
/-! many -/
theorem q_many0 : ∀ k : Fin 14, fWB_many (Int32.ofNat k) zm0 zfr0 zfr0 zm0 = some (.inl 0) := by decide +kernel
theorem q_many1 : ∀ k : Fin 14, (fMO_many (Int32.ofNat k) zm0 zfr3).map (fun c => (c.1, c.2 0 0 0)) = some (0, 0) := by decide +kernel
theorem q_many (a1 : Int32) : (∃ b c, fWB_many a1 zm0 zfr0 zfr0 zm0 = some (.inl b) ∧ fMO_many a1 zm0 zfr3 = some c ∧ c.1 = b ∧ c.2 0 0 0 = 0) ∨ ∃ c, fWB_many a1 zm0 zfr0 zfr0 zm0 = some (.inr "java/lang/IllegalArgumentException") ∧ fMO_many a1 zm0 zfr3 = some c ∧ c.2 0 0 0 = 1 := by
  by_cases h : a1 < 0 ∨ 13 < a1
  · refine Or.inr ⟨_, by unfold fWB_many; rw [if_pos h], by
      unfold fMO_many
      dsimp only [zlet]
      rw [show fMO_in a1 0 13 = some 0 by
        unfold fMO_in
        rcases h with h | h
        · rw [if_pos h]
        · by_cases h0 : a1 < 0
          · rw [if_pos h0]
          · rw [if_neg h0, if_pos h]]
      rfl, rfl⟩
  · obtain ⟨k, rfl⟩ := q_rng 13 (by decide) (fun q => h (Or.inl q)) (Int32.not_lt.mp fun q => h (Or.inr q))
    have h1 := q_many1 k
    cases hc : fMO_many (Int32.ofNat k) zm0 zfr3 with
    | none => rw [hc] at h1; cases h1
    | some c =>
      rw [hc] at h1
      have h2 := Option.some.inj h1
      exact Or.inl ⟨0, c, q_many0 k, rfl, congrArg Prod.fst h2, congrArg Prod.snd h2⟩
/-! nominate -/
theorem q_ncong {s s' : zM} (h : ∀ j, j < 24 → (s 6 0 j = -1 ↔ s' 6 0 j = -1)) : fLe_nominatedCount s = fLe_nominatedCount s' := by
  have e : fLe_nominatedCount_l4 s = fLe_nominatedCount_l4 s' := by
    funext q
    unfold fLe_nominatedCount_l4
    by_cases h0 : (24 : Int32) ≤ q.2
    · rw [if_pos h0, if_pos h0]
    · rw [if_neg h0, if_neg h0]
      unfold zix
      by_cases h1 : q.2 < 0 ∨ 24 ≤ q.2.toNatClampNeg
      · rw [if_pos h1, if_pos h1]
      · rw [if_neg h1, if_neg h1]
        dsimp only
        have h2 := h q.2.toNatClampNeg (Nat.not_le.mp fun z => h1 (Or.inr z))
        by_cases h3 : s 6 0 q.2.toNatClampNeg = -1
        · rw [if_pos h3, if_pos (h2.mp h3)]
        · rw [if_neg h3, if_neg (fun z => h3 (h2.mpr z))]
  unfold fLe_nominatedCount
  rw [e]
theorem q_tcong {s s' : zM} (h : ∀ j, j < 32 → s 5 0 j = s' 5 0 j) (h10 : s 0 0 10 = s' 0 0 10) : fMS_toCome s = fMS_toCome s' := by
  have e : fMS_toCome_l4 s = fMS_toCome_l4 s' := by
    funext q
    unfold fMS_toCome_l4
    by_cases h0 : (32 : Int32) ≤ q.2
    · rw [if_pos h0, if_pos h0]
    · rw [if_neg h0, if_neg h0]
      unfold zix
      by_cases h1 : q.2 < 0 ∨ 32 ≤ q.2.toNatClampNeg
      · rw [if_pos h1, if_pos h1]
      · rw [if_neg h1, if_neg h1]
        dsimp only
        rw [h q.2.toNatClampNeg (Nat.not_le.mp fun z => h1 (Or.inr z)), h10]
  unfold fMS_toCome
  rw [e]
theorem q_nm0 : ∀ k : Fin 24, fLe_nominatedCount (zu zfr0 6 0 k 0) = some 1 := by decide +kernel
theorem q_nm1 : ∀ k : Fin 24, fMS_toCome (zu (zu zfr3 5 0 (k + 1) (Int32.ofNat (k + 1))) 6 0 (k + 1) 0) = some 1 := by decide +kernel
theorem q_nm2 : ∀ k : Fin 24, Int32.ofNat (k + 1) - zfr0 0 0 8 - 1 = Int32.ofNat k ∧ ¬ Int32.ofNat k < 0 ∧ ¬ 24 ≤ Int32.ofNat k ∧ (Int32.ofNat k).toNatClampNeg = k := by decide +kernel
theorem q_nm3 : ∀ k : Fin 24, ¬ Int32.ofNat (k + 1) % 32 < 0 ∧ (Int32.ofNat (k + 1) % 32).toNatClampNeg = k + 1 := by decide +kernel
theorem q_put (k : Fin 24) (a2 : Int32) : fLe_put (Int32.ofNat (k + 1) - zfr0 0 0 8 - 1) a2 zfr0 = some (zu zfr0 6 0 k a2) := by
  obtain ⟨h1, h2, h3, h4⟩ := q_nm2 k
  unfold fLe_put
  dsimp only [zlet]
  rw [h1, if_neg h2, if_neg h3, zix_in (fun z => z.elim h2 fun z => by rw [h4] at z; have := k.isLt; omega), h4]
theorem q_nominate (a1 a2 : Int32) : (∃ b c, fWB_nominate a1 a2 zm0 zfr0 zfr0 zm0 = some (.inl b) ∧ fMO_nominate a1 a2 zm0 zfr3 = some c ∧ c.1 = b.1 ∧ c.2.1 0 0 0 = 0) ∨ ∃ b c, fWB_nominate a1 a2 zm0 zfr0 zfr0 zm0 = some (.inr ("java/lang/IllegalArgumentException", b)) ∧ fMO_nominate a1 a2 zm0 zfr3 = some c ∧ c.2.1 0 0 0 = 1 := by
  rcases q_oi a1 (zfr0 0 0 8 + 1) (zfr0 0 0 8 + 24) with ⟨h1, h2, h3, h4⟩ | ⟨h1, h2⟩
  · have h2' : fMO_in a1 (zfr3 0 0 10 + 1) (zfr3 0 0 10 + 24) = some 1 := h2
    rcases q_oi a2 0 20000 with ⟨g1, g2, g3, g4⟩ | ⟨g1, g2⟩
    · obtain ⟨k0, rfl⟩ := q_rng (a := a1) 24 (by decide) (fun z => h3 (Int32.lt_of_lt_of_le z (by decide))) h4
      have hk : 1 ≤ k0.val := Nat.pos_of_ne_zero fun z => h3 (by rw [z]; decide)
      obtain ⟨k, hk1⟩ : ∃ k : Fin 24, k0.val = k + 1 := ⟨⟨k0.val - 1, by omega⟩, by show k0.val = k0.val - 1 + 1; omega⟩
      rw [hk1] at h1 h2 h2' ⊢
      have hne : ∀ x : Int32, ¬ x < 0 → ¬ x = -1 := fun x hx z => hx (by rw [z]; decide)
      have c1 : fLe_nominatedCount (zu zfr0 6 0 k a2) = some 1 := by
        rw [← q_nm0 k]
        refine q_ncong fun j _ => ?_
        unfold zu
        by_cases hj : (6 : Nat) = 6 ∧ (0 : Nat) = 0 ∧ j = k
        · rw [if_pos hj, if_pos hj]
          exact ⟨fun z => absurd z (hne _ g3), fun z => absurd z (by decide)⟩
        · rw [if_neg hj, if_neg hj]
      have c2 : fMS_toCome (zu (zu zfr3 5 0 (k + 1) (Int32.ofNat (k + 1))) 6 0 (k + 1) a2) = some 1 := by
        rw [← q_nm1 k]
        exact q_tcong (fun j _ => rfl) rfl
      obtain ⟨m1, m2⟩ := q_nm3 k
      have hv : vp_in (Int32.ofNat (k + 1) % 32) 32 := fun z => z.elim m1 fun z => by rw [m2] at z; have := k.isLt; omega
      refine Or.inl ⟨_, _, by
        unfold fWB_nominate
        rw [h1, Option.bind_some, if_pos rfl, g1, Option.bind_some, if_pos rfl, q_put, Option.bind_some, c1, Option.bind_some], by
        unfold fMO_nominate
        dsimp only [zlet]
        rw [h2', Option.bind_some, if_neg (by decide), g2, Option.bind_some, if_neg (by decide), zix_in hv, zix_in hv, m2, c2, Option.bind_some], rfl, rfl⟩
    · exact Or.inr ⟨_, _, by unfold fWB_nominate; rw [h1, Option.bind_some, if_pos rfl, g1]; rfl, by unfold fMO_nominate; dsimp only [zlet]; rw [h2', Option.bind_some, if_neg (by decide), g2]; rfl, rfl⟩
  · have h2' : fMO_in a1 (zfr3 0 0 10 + 1) (zfr3 0 0 10 + 24) = some 0 := h2
    exact Or.inr ⟨_, _, by unfold fWB_nominate; rw [h1]; rfl, by unfold fMO_nominate; dsimp only [zlet]; rw [h2']; rfl, rfl⟩
/-! hours without a turbine -/
def q_I0 (s : zM) : Prop := s 0 0 5 = 0 ∧ s 0 0 6 = 0 ∧ s 0 0 7 = 0 ∧ 0 ≤ s 4 0 4
theorem q_pw (v : Int32) : ∃ p, fWa_power v = some p := by
  unfold fWa_power
  split
  · exact ⟨_, rfl⟩
  · split
    · exact ⟨_, rfl⟩
    · exact ⟨_, rfl⟩
theorem q_le0 {x : Int32} (h : 0 ≤ x) : 0 - x ≤ 0 := by
  have h1 := Int32.le_iff_toInt_le.mp h
  have h2 := x.toInt_lt
  rw [z0i] at h1
  rw [Int32.le_iff_toInt_le, zsub32 (by rw [z0i]; omega) (by rw [z0i]; omega), z0i]
  omega
theorem q_tn (s : zM) : ∃ s', ziter fLe_takeNominated_l9 1000 ((1 : Int32), s) = some s' ∧ ∀ k i o, k ≠ 6 → s' k i o = s k i o := by
  refine zit_inv (fun d (q : Int32 × zM) => q.1.toInt + d = 24 ∧ 1 ≤ q.1.toInt ∧ ∀ k i o, k ≠ 6 → q.2 k i o = s k i o) _ ?_ 23 1000 _ (by decide) ⟨rfl, (show (1 : Int) ≤ (1 : Int32).toInt by decide), fun _ _ _ _ => rfl⟩
  rintro d ⟨i, u⟩ ⟨h1, h2, h3⟩
  dsimp only at h1 h2 h3
  unfold fLe_takeNominated_l9
  dsimp only [zlet]
  by_cases h : (24 : Int32) ≤ i
  · exact Or.inl ⟨u, by rw [if_pos h], h3⟩
  · have h24 : i.toInt < 24 := Int32.lt_iff_toInt_lt.mp (Int32.not_le.mp h)
    have hv : vp_in i 24 := by
      rintro (z | z)
      · have := Int32.lt_iff_toInt_lt.mp z
        rw [z0i] at this
        omega
      · have : 24 ≤ i.toInt.toNat := z
        omega
    have e1 : (i - 1).toInt = i.toInt - 1 := by rw [zsub32 (by rw [z1i]; omega) (by rw [z1i]; omega), z1i]
    have hv' : vp_in (i - 1) 24 := by
      rintro (z | z)
      · have := Int32.lt_iff_toInt_lt.mp z
        rw [z0i, e1] at this
        omega
      · have : 24 ≤ (i - 1).toInt.toNat := z
        rw [e1] at this
        omega
    refine Or.inr ⟨_, d - 1, ?_, by rw [if_neg h, zix_in hv, zix_in hv'], ?_, ?_, fun k i' o hk => ?_⟩
    · omega
    · show (i + 1).toInt + _ = 24
      rw [zs1 (by omega)]
      omega
    · show 1 ≤ (i + 1).toInt
      rw [zs1 (by omega)]
      omega
    · show zu u 6 0 _ _ k i' o = _
      unfold zu
      rw [if_neg (fun z => hk z.1)]
      exact h3 k i' o hk
theorem q_book (a1 a2 a3 : Int32) (s : zM) : ∃ s', fLe_book a1 a2 a3 s = some s' ∧ ∀ k i o, k ≠ 5 → k ≠ 6 → s' k i o = s k i o := by
  unfold fLe_book fLe_takeNominated
  dsimp only [zlet]
  generalize hu : zu (zu (zu (zu s 5 0 1 _) 5 0 3 _) 5 0 2 _) 5 0 4 _ = u
  have h5 : ∀ k i o, k ≠ 5 → u k i o = s k i o := by
    intro k i o hk
    rw [← hu]
    unfold zu
    rw [if_neg (fun z => hk z.1), if_neg (fun z => hk z.1), if_neg (fun z => hk z.1), if_neg (fun z => hk z.1)]
  obtain ⟨s', e, h6⟩ := q_tn u
  rw [zix_in (show vp_in 0 24 from zvi (by decide)), e, Option.bind_some, zix_in (show vp_in 23 24 from zvi (by decide)), Option.bind_some]
  have key : ∀ k i o, k ≠ 5 → k ≠ 6 → zu s' 6 0 (Int32.toNatClampNeg 23) (-1) k i o = s k i o := by
    intro k i o h1 h2
    unfold zu
    rw [if_neg (fun z => h2 z.1), h6 k i o h2, h5 k i o h1]
  dsimp only
  split
  · exact ⟨_, rfl, key⟩
  · refine ⟨_, rfl, fun k i o h1 h2 => ?_⟩
    rw [← key k i o h1 h2]
    unfold zu
    rw [if_neg (fun z => h1 z.1)]
theorem q_ph {s : zM} (h : q_I0 s) : ∃ s', fSe_passHour s = some (0, s') ∧ q_I0 s' := by
  obtain ⟨h5, h6, h7, ho⟩ := h
  unfold fSe_passHour
  dsimp only [zlet]
  generalize hu : zu s 0 0 8 _ = u
  have u5 : u 0 0 5 = 0 := by rw [← hu]; exact h5
  have u6 : u 0 0 6 = 0 := by rw [← hu]; exact h6
  have u7 : u 0 0 7 = 0 := by rw [← hu]; exact h7
  have uo : 0 ≤ u 4 0 4 := by rw [← hu]; exact ho
  obtain ⟨p, hp⟩ := q_pw (u 4 0 1)
  have e1 : ziter fSe_passHour_l12 1000 ((0 : Int32), u) = some u := zit_end 999 (by unfold fSe_passHour_l12; dsimp only; exact if_pos (by rw [u5]; decide))
  have e2 : ziter (fSe_passHour_l56 p) 1000 ((0 : Int32), u) = some u := zit_end 999 (by unfold fSe_passHour_l56; dsimp only; exact if_pos (by rw [u5]; decide))
  have e3 : fSe_loadStrings u = some u := by
    unfold fSe_loadStrings
    rw [show ziter fSe_loadStrings_l2 1000 ((0 : Int32), u) = some u from zit_end 999 (by unfold fSe_loadStrings_l2; dsimp only; exact if_pos (by rw [u6]; decide))]
    rfl
  have e4 : fSe_giveUp (-1) (u 4 0 4) 7 u = some (0, u) := by
    unfold fSe_giveUp
    dsimp only [zlet]
    rw [show ziter (fSe_giveUp_l6 (-1) u) 1000 ((0 : Int32), (0 : Int32)) = some 0 from zit_end 999 (by unfold fSe_giveUp_l6; dsimp only; exact if_pos (by rw [u5]; decide)), Option.bind_some, if_pos (q_le0 uo)]
  obtain ⟨v, e5, hv⟩ := q_book (p * u 0 0 5) 0 (u 4 0 3) u
  have v5 : v 0 0 5 = 0 := by rw [hv _ _ _ (by decide) (by decide)]; exact u5
  have v6 : v 0 0 6 = 0 := by rw [hv _ _ _ (by decide) (by decide)]; exact u6
  have v7 : v 0 0 7 = 0 := by rw [hv _ _ _ (by decide) (by decide)]; exact u7
  have e6 : ziter fSe_passHour_l137 1000 ((0 : Int32), v) = some v := zit_end 999 (by unfold fSe_passHour_l137; dsimp only; exact if_pos (by rw [v5]; decide))
  have e7 : ziter fSe_passHour_l162 1000 ((0 : Int32), v) = some v := zit_end 999 (by unfold fSe_passHour_l162; dsimp only; exact if_pos (by rw [v7]; decide))
  rw [e1, Option.bind_some, hp, Option.bind_some, e2, Option.bind_some, e3, Option.bind_some, e4, Option.bind_some, e5, Option.bind_some, e6, Option.bind_some, e7, Option.bind_some]
  exact ⟨v, rfl, v5, v6, v7, by rw [hv _ _ _ (by decide) (by decide)]; exact uo⟩
theorem q_phs {a1 : Int32} (h1 : 0 ≤ a1.toInt) (h2 : a1.toInt ≤ 100) {s : zM} (h : q_I0 s) : ∃ s', fSe_passHours a1 s = some (0, s') := by
  unfold fSe_passHours
  obtain ⟨x, e, hx⟩ := zit_inv (b := fSe_passHours_l4 a1) (fun d (q : Int32 × Int32 × zM) => q.1 = 0 ∧ q.2.1.toInt + d = a1.toInt ∧ 0 ≤ q.2.1.toInt ∧ q_I0 q.2.2) (fun x => x.1 = 0) (by
    rintro d ⟨m, i, u⟩ ⟨g1, g2, g3, g4⟩
    dsimp only at g1 g2 g3 g4
    subst g1
    unfold fSe_passHours_l4
    dsimp only [zlet]
    by_cases hh : a1 ≤ i
    · exact Or.inl ⟨(0, u), by rw [if_pos hh], rfl⟩
    · have hlt := Int32.lt_iff_toInt_lt.mp (Int32.not_le.mp hh)
      obtain ⟨v, e, hv⟩ := q_ph g4
      refine Or.inr ⟨_, d - 1, by omega, by rw [if_neg hh, e, Option.bind_some], rfl, ?_, ?_, hv⟩
      · show (i + 1).toInt + _ = _
        rw [zs1 (by omega)]
        omega
      · show 0 ≤ (i + 1).toInt
        rw [zs1 (by omega)]
        omega) a1.toInt.toNat 1000 ((0 : Int32), (0 : Int32), s) (by omega) ⟨rfl, by show (0 : Int32).toInt + _ = _; rw [z0i]; omega, (show (0 : Int) ≤ (0 : Int32).toInt by decide), h⟩
  rw [e, Option.bind_some]
  obtain ⟨m, u⟩ := x
  dsimp only at hx
  subst hx
  exact ⟨u, rfl⟩
/-! the reference's hours without a turbine -/
def q_J0 (h : Nat) (s : zM) : Prop := s 0 0 7 = 0 ∧ s 0 0 8 = 0 ∧ s 0 0 9 = 0 ∧ 0 ≤ s 0 0 15 ∧ s 0 0 10 = Int32.ofNat h
theorem q_pm (v : Int32) : ∃ p, fMO_power v = some p := by
  unfold fMO_power fMO_in
  split
  · exact ⟨_, rfl⟩
  · split
    · exact ⟨_, rfl⟩
    · exact ⟨_, rfl⟩
theorem q_h32 : ∀ k : Fin 100, Int32.ofNat k + 1 = Int32.ofNat (k + 1) ∧ ¬ Int32.ofNat (k + 1) % 32 < 0 ∧ (Int32.ofNat (k + 1) % 32).toNatClampNeg < 32 := by decide +kernel
theorem q_mh {s : zM} {h : Nat} (hh : h < 100) (hI : q_J0 h s) : ∃ s', fMS_hour s = some (0, s') ∧ q_J0 (h + 1) s' := by
  obtain ⟨h7, h8, h9, ho, h10⟩ := hI
  obtain ⟨m1, m2, m3⟩ := q_h32 ⟨h, hh⟩
  dsimp only at m1 m2 m3
  have hv32 : vp_in (Int32.ofNat (h + 1) % 32) 32 := fun z => z.elim m2 fun z => absurd m3 (Nat.not_lt.mpr z)
  unfold fMS_hour
  dsimp only [zlet]
  generalize hu : zu s 0 0 10 _ = u
  have u7 : u 0 0 7 = 0 := by rw [← hu]; exact h7
  have u8 : u 0 0 8 = 0 := by rw [← hu]; exact h8
  have u9 : u 0 0 9 = 0 := by rw [← hu]; exact h9
  have uo : 0 ≤ u 0 0 15 := by rw [← hu]; exact ho
  have u10 : u 0 0 10 = Int32.ofNat (h + 1) := by
    rw [← hu]
    show s 0 0 10 + 1 = _
    rw [h10, m1]
  obtain ⟨p, hp⟩ := q_pm (u 0 0 12)
  have e1 : ziter fMS_hour_l12 1000 ((0 : Int32), u) = some u := zit_end 999 (by unfold fMS_hour_l12; dsimp only; exact if_pos (by rw [u7]; decide))
  have e2 : ziter fMS_hour_l40 1000 ((0 : Int32), u) = some u := zit_end 999 (by unfold fMS_hour_l40; dsimp only; exact if_pos (by rw [u7]; decide))
  have e3 : ziter fMS_hour_l106 1000 ((0 : Int32), u) = some u := zit_end 999 (by unfold fMS_hour_l106; dsimp only; exact if_pos (by rw [u8]; decide))
  have hz : zmax 0 (0 - u 0 0 15) = 0 := by
    unfold zmax
    rw [if_neg (Int32.not_lt.mpr (q_le0 uo))]
  have e4 : fMS_fit (-1) (u 0 0 15) 7 u = some (0, u) := by
    unfold fMS_fit
    dsimp only [zlet]
    rw [show ziter (fMS_fit_l6 (-1) u) 1000 ((0 : Int32), (0 : Int32)) = some 0 from zit_end 999 (by unfold fMS_fit_l6; dsimp only; exact if_pos (by rw [u7]; decide)), Option.bind_some, hz]
    rw [show ziter (fMS_fit_l64 (-1) 7 0 0) 1000 ((0 : Int32), (0 : Int32), u) = some (0, u) from zit_end 999 (by unfold fMS_fit_l64; dsimp only; exact if_pos (by rw [u7]; decide)), Option.bind_some]
    rw [show ziter (fMS_fit_l119 (-1) 7) 1000 ((0 : Int32), u) = some u from zit_end 999 (by unfold fMS_fit_l119; dsimp only; rw [if_pos (by decide)]), Option.bind_some]
    rfl
  have e5 : ziter fMS_hour_l175 1000 ((0 : Int32), u) = some u := zit_end 999 (by unfold fMS_hour_l175; dsimp only; exact if_pos (by rw [u7]; decide))
  rw [e1, Option.bind_some, e2, Option.bind_some, e3, Option.bind_some, e4, Option.bind_some, e5, Option.bind_some, hp, Option.bind_some]
  dsimp only
  generalize hw : zu (zu (zu (zu u 0 0 17 _) 0 0 18 _) 0 0 19 _) 0 0 20 _ = w
  have w7 : w 0 0 7 = 0 := by rw [← hw]; exact u7
  have w8 : w 0 0 8 = 0 := by rw [← hw]; exact u8
  have w9 : w 0 0 9 = 0 := by rw [← hw]; exact u9
  have wo : 0 ≤ w 0 0 15 := by rw [← hw]; exact uo
  have w10 : w 0 0 10 = Int32.ofNat (h + 1) := by rw [← hw]; exact u10
  have key : ∀ x : zM, x 0 0 7 = 0 → x 0 0 8 = 0 → x 0 0 9 = 0 → 0 ≤ x 0 0 15 → x 0 0 10 = Int32.ofNat (h + 1) → ∃ s', (Option.bind (ziter fMS_hour_l311 1000 ((0 : Int32), x)) fun q55 => Option.bind (ziter fMS_hour_l350 1000 ((0 : Int32), q55)) fun q66 => some ((0 : Int32), q66)) = some (0, s') ∧ q_J0 (h + 1) s' := by
    intro x x7 x8 x9 xo x10
    rw [show ziter fMS_hour_l311 1000 ((0 : Int32), x) = some x from zit_end 999 (by unfold fMS_hour_l311; dsimp only; exact if_pos (by rw [x7]; decide)), Option.bind_some]
    rw [show ziter fMS_hour_l350 1000 ((0 : Int32), x) = some x from zit_end 999 (by unfold fMS_hour_l350; dsimp only; exact if_pos (by rw [x9]; decide)), Option.bind_some]
    exact ⟨x, rfl, x7, x8, x9, xo, x10⟩
  rw [w10, zix_in hv32]
  split
  · rw [zix_in hv32, Option.bind_some]
    exact key _ w7 w8 w9 wo w10
  · rw [Option.bind_some]
    exact key _ w7 w8 w9 wo w10
theorem q_mrun {a1 : Int32} (h1 : 0 ≤ a1.toInt) (h2 : a1.toInt ≤ 24) {s : zM} (h : q_J0 0 s) : ∃ s', fMS_run a1 s = some (0, s') := by
  unfold fMS_run
  obtain ⟨x, e, hx⟩ := zit_inv (b := fMS_run_l4 a1) (fun d (q : Int32 × Int32 × zM) => q.1 = 0 ∧ q.2.1.toInt + d = a1.toInt ∧ 0 ≤ q.2.1.toInt ∧ q_J0 q.2.1.toInt.toNat q.2.2) (fun x => x.1 = 0) (by
    rintro d ⟨m, i, u⟩ ⟨g1, g2, g3, g4⟩
    dsimp only at g1 g2 g3 g4
    subst g1
    unfold fMS_run_l4
    dsimp only [zlet]
    by_cases hh : a1 ≤ i
    · exact Or.inl ⟨(0, u), by rw [if_pos hh], rfl⟩
    · have hlt := Int32.lt_iff_toInt_lt.mp (Int32.not_le.mp hh)
      obtain ⟨v, e, hv⟩ := q_mh (by omega) g4
      refine Or.inr ⟨_, d - 1, by omega, by rw [if_neg hh, e, Option.bind_some], rfl, ?_, ?_, ?_⟩
      · show (i + 1).toInt + _ = _
        rw [zs1 (by omega)]
        omega
      · show 0 ≤ (i + 1).toInt
        rw [zs1 (by omega)]
        omega
      · show q_J0 (i + 1).toInt.toNat v
        rw [zs1 (by omega), show (i.toInt + 1).toNat = i.toInt.toNat + 1 by omega]
        exact hv) a1.toInt.toNat 1000 ((0 : Int32), (0 : Int32), s) (by omega) ⟨rfl, by show (0 : Int32).toInt + _ = _; rw [z0i]; omega, (show (0 : Int) ≤ (0 : Int32).toInt by decide), h⟩
  rw [e, Option.bind_some]
  obtain ⟨m, u⟩ := x
  dsimp only at hx
  subst hx
  exact ⟨u, rfl⟩
theorem q_124 {a : Int32} (h1 : ¬ a < 1) (h2 : a ≤ 24) : 0 ≤ a.toInt ∧ a.toInt ≤ 24 := by
  have e1 := Int32.le_iff_toInt_le.mp (Int32.not_lt.mp h1)
  have e2 := Int32.le_iff_toInt_le.mp h2
  rw [z1i] at e1
  exact ⟨by omega, e2⟩
theorem q_blow (a1 a2 a3 a4 a5 a6 : Int32) : (∃ b c, fWB_blow a1 a2 a3 a4 a5 a6 zm0 zfr0 zfr0 zm0 = some (.inl b) ∧ fMO_blow a1 a2 a3 a4 a5 a6 zm0 zfr3 = some c ∧ c.1 = b.1 ∧ c.2.1 0 0 0 = 0) ∨ ∃ b c, fWB_blow a1 a2 a3 a4 a5 a6 zm0 zfr0 zfr0 zm0 = some (.inr ("java/lang/IllegalArgumentException", b)) ∧ fMO_blow a1 a2 a3 a4 a5 a6 zm0 zfr3 = some c ∧ c.2.1 0 0 0 = 1 := by
  rcases q_oi a1 1 24 with ⟨h1, g1, r1, r1'⟩ | ⟨h1, g1⟩
  · rcases q_oi a2 0 7 with ⟨h2, g2, -, -⟩ | ⟨h2, g2⟩
    · rcases q_oi a3 0 30 with ⟨h3, g3, -, -⟩ | ⟨h3, g3⟩
      · rcases q_oi a4 0 60 with ⟨h4, g4, -, -⟩ | ⟨h4, g4⟩
        · rcases q_oi a5 (-50) 200 with ⟨h5, g5, -, -⟩ | ⟨h5, g5⟩
          · rcases q_oi a6 0 20000 with ⟨h6, g6, r6, -⟩ | ⟨h6, g6⟩
            · obtain ⟨k1, k2⟩ := q_124 r1 r1'
              obtain ⟨s', e1⟩ := q_phs (s := zu (zu (zu (zu (zu zfr0 4 0 0 a2) 4 0 1 a3) 4 0 2 a4) 4 0 3 a5) 4 0 4 a6) k1 (by omega) ⟨rfl, rfl, rfl, Int32.not_lt.mp r6⟩
              obtain ⟨t', e2⟩ := q_mrun (s := zu (zu (zu (zu (zu zfr3 0 0 11 a2) 0 0 12 a3) 0 0 13 a4) 0 0 14 a5) 0 0 15 a6) k1 k2 ⟨rfl, rfl, rfl, Int32.not_lt.mp r6, rfl⟩
              exact Or.inl ⟨_, _, by unfold fWB_blow fWe_set; dsimp only [zlet]; rw [h1, Option.bind_some, if_pos rfl, h2, Option.bind_some, if_pos rfl, h3, Option.bind_some, if_pos rfl, h4, Option.bind_some, if_pos rfl, h5, Option.bind_some, if_pos rfl, h6, Option.bind_some, if_pos rfl, Option.bind_some, e1, Option.bind_some], by unfold fMO_blow; dsimp only [zlet]; rw [g1, Option.bind_some, if_neg (by decide), g2, Option.bind_some, if_neg (by decide), g3, Option.bind_some, if_neg (by decide), g4, Option.bind_some, if_neg (by decide), g5, Option.bind_some, if_neg (by decide), g6, Option.bind_some, if_neg (by decide), e2, Option.bind_some], rfl, rfl⟩
            · exact Or.inr ⟨_, _, by unfold fWB_blow; rw [h1, Option.bind_some, if_pos rfl, h2, Option.bind_some, if_pos rfl, h3, Option.bind_some, if_pos rfl, h4, Option.bind_some, if_pos rfl, h5, Option.bind_some, if_pos rfl, h6]; rfl, by unfold fMO_blow; dsimp only [zlet]; rw [g1, Option.bind_some, if_neg (by decide), g2, Option.bind_some, if_neg (by decide), g3, Option.bind_some, if_neg (by decide), g4, Option.bind_some, if_neg (by decide), g5, Option.bind_some, if_neg (by decide), g6]; rfl, rfl⟩
          · exact Or.inr ⟨_, _, by unfold fWB_blow; rw [h1, Option.bind_some, if_pos rfl, h2, Option.bind_some, if_pos rfl, h3, Option.bind_some, if_pos rfl, h4, Option.bind_some, if_pos rfl, h5]; rfl, by unfold fMO_blow; dsimp only [zlet]; rw [g1, Option.bind_some, if_neg (by decide), g2, Option.bind_some, if_neg (by decide), g3, Option.bind_some, if_neg (by decide), g4, Option.bind_some, if_neg (by decide), g5]; rfl, rfl⟩
        · exact Or.inr ⟨_, _, by unfold fWB_blow; rw [h1, Option.bind_some, if_pos rfl, h2, Option.bind_some, if_pos rfl, h3, Option.bind_some, if_pos rfl, h4]; rfl, by unfold fMO_blow; dsimp only [zlet]; rw [g1, Option.bind_some, if_neg (by decide), g2, Option.bind_some, if_neg (by decide), g3, Option.bind_some, if_neg (by decide), g4]; rfl, rfl⟩
      · exact Or.inr ⟨_, _, by unfold fWB_blow; rw [h1, Option.bind_some, if_pos rfl, h2, Option.bind_some, if_pos rfl, h3]; rfl, by unfold fMO_blow; dsimp only [zlet]; rw [g1, Option.bind_some, if_neg (by decide), g2, Option.bind_some, if_neg (by decide), g3]; rfl, rfl⟩
    · exact Or.inr ⟨_, _, by unfold fWB_blow; rw [h1, Option.bind_some, if_pos rfl, h2]; rfl, by unfold fMO_blow; dsimp only [zlet]; rw [g1, Option.bind_some, if_neg (by decide), g2]; rfl, rfl⟩
  · exact Or.inr ⟨_, _, by unfold fWB_blow; rw [h1]; rfl, by unfold fMO_blow; dsimp only [zlet]; rw [g1]; rfl, rfl⟩
/-! what would be -/
theorem q_cp : (fSe_copyFrom zfr0 zfr0).map (fun s => (s 0 0 5, s 0 0 6, s 0 0 7, s 4 0 4)) = some (0, 0, 0, 20000) := by decide +kernel
theorem q_cp' : ∃ s, fSe_copyFrom zfr0 zfr0 = some s ∧ q_I0 s := by
  have h := q_cp
  cases hc : fSe_copyFrom zfr0 zfr0 with
  | none => rw [hc] at h; cases h
  | some s =>
    rw [hc] at h
    have h2 := Option.some.inj h
    have a1 := congrArg Prod.fst h2
    have a2 := congrArg (fun q => q.2.1) h2
    have a3 := congrArg (fun q => q.2.2.1) h2
    have a4 := congrArg (fun q => q.2.2.2) h2
    dsimp only at a1 a2 a3 a4
    exact ⟨s, rfl, a1, a2, a3, by rw [a4]; decide⟩
theorem q_wouldDeliver (a1 : Int32) : (fMO_in a1 1 24 = some 1 ∧ 0 ≤ a1.toInt ∧ a1.toInt ≤ 24 ∧ ∃ b, fWB_wouldDeliver a1 zm0 zfr0 zfr0 zm0 = some (.inl b) ∧ b.1 = 0) ∨ ∃ b c, fWB_wouldDeliver a1 zm0 zfr0 zfr0 zm0 = some (.inr ("java/lang/IllegalArgumentException", b)) ∧ fMO_wouldDeliver a1 zm0 zfr3 = some c ∧ c.2 0 0 0 = 1 := by
  rcases q_oi a1 1 24 with ⟨h1, h2, r1, r1'⟩ | ⟨h1, h2⟩
  · obtain ⟨k1, k2⟩ := q_124 r1 r1'
    obtain ⟨s, e1, hs⟩ := q_cp'
    obtain ⟨s', e2⟩ := q_phs k1 (by omega) hs
    exact Or.inl ⟨h2, k1, k2, _, by unfold fWB_wouldDeliver; rw [h1, Option.bind_some, if_pos rfl, e1, Option.bind_some, e2, Option.bind_some], rfl⟩
  · exact Or.inr ⟨_, _, by unfold fWB_wouldDeliver; rw [h1]; rfl, by unfold fMO_wouldDeliver; dsimp only [zlet]; rw [h2]; rfl, rfl⟩
theorem q_dig : (fWB_digest zm0 zfr0 zfr0 zm0).map (fun x => match x with | .inl b => b.1 | .inr _ => 0) = some (-2578702226831428416) := by decide +kernel
