/-! ===== total correctness of Option-valued methods ===== -/
def zT {α : Type} (x : Option α) (Q : α → Prop) : Prop := ∃ a, x = some a ∧ Q a
section ZT
variable {α β σ : Type} {Q : α → Prop} {R : β → Prop}
theorem zT_s {a : α} (h : Q a) : zT (some a) Q := ⟨a, rfl, h⟩
theorem zT_b {x : Option β} {f : β → Option α} (h : zT x fun b => zT (f b) Q) : zT (Option.bind x f) Q := by
  obtain ⟨b, e, a, e2, hq⟩ := h
  exact ⟨a, by rw [e]; exact e2, hq⟩
/-- a call: what the callee is known to do -/
theorem zT_c {x : Option β} {f : β → Option α} (h : zT x R) (k : ∀ b, x = some b → R b → zT (f b) Q) : zT (Option.bind x f) Q := by
  obtain ⟨b, e, hr⟩ := h
  obtain ⟨a, e2, hq⟩ := k b e hr
  exact ⟨a, by rw [e]; exact e2, hq⟩
theorem zT_m {x : Option α} {Q' : α → Prop} (h : zT x Q') (k : ∀ a, Q' a → Q a) : zT x Q := by
  obtain ⟨a, e, hq⟩ := h
  exact ⟨a, e, k a hq⟩
theorem zT_i {c : Prop} [Decidable c] {a b : Option α} (h1 : c → zT a Q) (h2 : ¬ c → zT b Q) : zT (if c then a else b) Q := by
  by_cases h : c
  · rw [if_pos h]; exact h1 h
  · rw [if_neg h]; exact h2 h
theorem zT_l {a : β} {f : β → Option α} (h : zT (f a) Q) : zT (zlet a f) Q := h
theorem zT_x {i : Int32} {n : Nat} {f : Nat → Option α} (hv : vp_in i n) (h : i.toNatClampNeg < n → zT (f i.toNatClampNeg) Q) : zT (zix i n f) Q := by
  rw [show zix i n f = f i.toNatClampNeg from if_neg hv]
  exact h (Nat.not_le.mp fun z => hv (Or.inr z))
theorem zT_g {c : Prop} [Decidable c] {x : Option α} (hc : c) (h : zT x Q) : zT (zg c x) Q := by
  rw [show zg c x = x from if_pos hc]
  exact h
theorem zT_it {b : σ → Option (σ ⊕ α)} (I : Nat → σ → Prop) (step : ∀ d s, I d s → zT (b s) fun r => Sum.elim (fun s' => ∃ d', d' < d ∧ I d' s') Q r) : ∀ (d n : Nat) (s : σ), d < n → I d s → zT (ziter b n s) Q
  | d, 0, s, h, _ => absurd h (Nat.not_lt_zero d)
  | d, n + 1, s, h, hI => by
    rw [ziter_succ]
    obtain ⟨r, e, hr⟩ := step d s hI
    rw [e]
    cases r with
    | inl s' =>
      obtain ⟨d', hd, hI'⟩ := hr
      exact zT_it I step d' n s' (by omega) hI'
    | inr x => exact ⟨x, rfl, hr⟩
end ZT
theorem zit_end {σ β : Type} {b : σ → Option (σ ⊕ β)} {s : σ} {x : β} (n : Nat) (h : b s = some (.inr x)) : ziter b (n + 1) s = some x := by
  rw [ziter_succ, h]
  rfl
theorem zit_more {σ β : Type} {b : σ → Option (σ ⊕ β)} {s s' : σ} (n : Nat) (h : b s = some (.inl s')) : ziter b (n + 1) s = ziter b n s' := by
  rw [ziter_succ, h]
  rfl
/-! numbers -/
theorem zvi {i : Int32} {n : Nat} (h : (decide (i < 0) || decide (n ≤ i.toNatClampNeg)) = false) : vp_in i n := by
  rintro (z | z)
  · rw [decide_eq_true z] at h
    cases h
  · rw [decide_eq_true z, Bool.or_true] at h
    cases h
theorem zadd {a b : Int32} (h1 : -2147483648 ≤ a.toInt + b.toInt) (h2 : a.toInt + b.toInt < 2147483648) : (a + b).toInt = a.toInt + b.toInt := by
  rw [Int32.toInt_add]
  exact Int.bmod_eq_of_le_mul_two (by omega) (by omega)
theorem zsub32 {a b : Int32} (h1 : -2147483648 ≤ a.toInt - b.toInt) (h2 : a.toInt - b.toInt < 2147483648) : (a - b).toInt = a.toInt - b.toInt := by
  rw [Int32.toInt_sub]
  exact Int.bmod_eq_of_le_mul_two (by omega) (by omega)
theorem zmul32 {a b : Int32} (h1 : -2147483648 ≤ a.toInt * b.toInt) (h2 : a.toInt * b.toInt < 2147483648) : (a * b).toInt = a.toInt * b.toInt := by
  rw [Int32.toInt_mul]
  exact Int.bmod_eq_of_le_mul_two (by omega) (by omega)
theorem zdiv32 {a b : Int32} (h : 0 < b.toInt) : (a / b).toInt = a.toInt.tdiv b.toInt := Int32.toInt_div_of_ne_right a b (fun z => by rw [z] at h; exact absurd h (by decide))
theorem ztdiv {x y : Int} (h : 0 ≤ x) (hy : 0 < y) : x.tdiv y = x / y := Int.tdiv_eq_ediv_of_nonneg h
theorem zle {a b : Int32} : a ≤ b ↔ a.toInt ≤ b.toInt := Int32.le_iff_toInt_le
theorem zlt {a b : Int32} : a < b ↔ a.toInt < b.toInt := Int32.lt_iff_toInt_lt
theorem z0i : (0 : Int32).toInt = 0 := rfl
theorem z1i : (1 : Int32).toInt = 1 := rfl
theorem z2i : (2 : Int32).toInt = 2 := rfl
theorem z3i : (3 : Int32).toInt = 3 := rfl
theorem z4i : (4 : Int32).toInt = 4 := rfl
theorem z10i : (10 : Int32).toInt = 10 := rfl
theorem z30i : (30 : Int32).toInt = 30 := rfl
theorem z100i : (100 : Int32).toInt = 100 := rfl
theorem zon {k : Nat} (h : k < 2147483648) : (Int32.ofNat k).toInt = k := Int32.toInt_ofNat_of_lt h
theorem zclm (k : Nat) (h : k < 2147483648) : (Int32.ofNat k).toNatClampNeg = k := Int32.toNatClampNeg_ofNat_of_lt h
theorem zn1 (i : Nat) : Int32.ofNat i + 1 = Int32.ofNat (i + 1) := (Int32.ofNat_add i 1).symm
theorem znle {a b : Nat} (ha : a < 2147483648) (hb : b < 2147483648) : Int32.ofNat a ≤ Int32.ofNat b ↔ a ≤ b := by
  rw [zle, zon ha, zon hb]
  omega
theorem zvin {k n : Nat} (h : k < n) (hn : n ≤ 100000) : vp_in (Int32.ofNat k) n := by
  rintro (z | z)
  · rw [zlt, zon (by omega), z0i] at z
    omega
  · rw [zclm k (by omega)] at z
    omega
theorem zvit {i : Int32} {n : Nat} (h0 : 0 ≤ i.toInt) (h : i.toInt < n) : vp_in i n := by
  rintro (z | z)
  · rw [zlt, z0i] at z
    omega
  · have : n ≤ i.toInt.toNat := z
    omega
/-- an index that is a natural number -/
theorem zT_xn {α : Type} {Q : α → Prop} {k n : Nat} {f : Nat → Option α} (hk : k < n) (hn : n ≤ 100000) (h : zT (f k) Q) : zT (zix (Int32.ofNat k) n f) Q := zT_x (zvin hk hn) fun _ => by rw [zclm k (by omega)]; exact h
theorem zT_xe {α : Type} {Q : α → Prop} {x : Int32} {k n : Nat} {f : Nat → Option α} (e : x = Int32.ofNat k) (hk : k < n) (hn : n ≤ 100000) (h : zT (f k) Q) : zT (zix x n f) Q := by
  rw [e]
  exact zT_xn hk hn h
theorem zzu {σ : zM} {k i o k' i' o' : Nat} {x : Int32} (h : ¬ (k' = k ∧ i' = i ∧ o' = o)) : zu σ k i o x k' i' o' = σ k' i' o' := if_neg h
theorem zzs (σ : zM) (k i o : Nat) (x : Int32) : zu σ k i o x k i o = x := if_pos ⟨rfl, rfl, rfl⟩
/-! ===== frames: where memory may change ===== -/
abbrev zP : Type := Nat → Nat → Nat → Prop
def zK (P : zP) (s s' : zM) : Prop := ∀ k i o, ¬ P k i o → s' k i o = s k i o
theorem zK.rf {P : zP} {s : zM} : zK P s s := fun _ _ _ _ => rfl
theorem zK.tr {P : zP} {s s' s'' : zM} (h : zK P s s') (h2 : zK P s' s'') : zK P s s'' := fun k i o hn => (h2 k i o hn).trans (h k i o hn)
theorem zK.mono {P P' : zP} {s s' : zM} (h : zK P s s') (hp : ∀ k i o, P k i o → P' k i o) : zK P' s s' := fun k i o hn => h k i o fun z => hn (hp k i o z)
theorem zK.u {P : zP} {s s' : zM} {k i o : Nat} {x : Int32} (h : zK P s s') (hp : P k i o) : zK P s (zu s' k i o x) := fun k' i' o' hn => (zzu fun z => hn (by rw [z.1, z.2.1, z.2.2]; exact hp)).trans (h k' i' o' hn)
