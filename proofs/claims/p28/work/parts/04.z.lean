/-! ===== Z: a method as a function on regions of memory =====
A region is a graph of objects whose references never change: a memory 'kind, place, slot' of ints. zZ says: from here the method comes to the outcome that the value φ names. -/
abbrev zR : Type := Nat × Nat × Nat
abbrev zV : Type := zR ⊕ (Int32 ⊕ Int64)
abbrev zM : Type := Nat → Nat → Nat → Int32
abbrev zD : Type := Nat × List Nat
abbrev zO : Type := (Option zV ⊕ String) × List zM
def zr (r k i : Nat) : zV := .inl (r, k, i)
def zi (x : Int32) : zV := .inr (.inl x)
def zl (x : Int64) : zV := .inr (.inr x)
def zm0 : zM := fun _ _ _ => 0
def zu (σ : zM) (k i o : Nat) (x : Int32) : zM := fun k' i' o' => if k' = k ∧ i' = i ∧ o' = o then x else σ k' i' o'
/-- a row of memory in place of what was -/
def zur (σ : zM) (k i : Nat) (f : Nat → Int32) : zM := fun k' i' => if k' = k ∧ i' = i then f else σ k' i'
def zt (ad : zR → Nat) : zV → Value
  | .inl q => .ref (ad q)
  | .inr (.inl x) => .int x
  | .inr (.inr x) => .long x
def zcat : zV → Nat
  | .inl _ => 1
  | .inr (.inl _) => 1
  | .inr (.inr _) => 2
theorem zcat_t (ad : zR → Nat) (v : zV) : (zt ad v).category = zcat v := by
  rcases v with q | x | x <;> rfl
def zcs (st : List zV) : Nat := (st.map zcat).sum
theorem zcs_t (ad : zR → Nat) (st : List zV) : ((st.map (zt ad)).map fun v => v.category).sum = zcs st := by
  rw [List.map_map]
  unfold zcs
  congr 1
  exact List.map_congr_left fun v _ => zcat_t ad v
theorem zu_row {σ : zM} {k i o k' i' : Nat} {x : Int32} (h : ¬ (k' = k ∧ i' = i)) : zu σ k i o x k' i' = σ k' i' := by
  funext o'
  unfold zu
  rw [if_neg (fun q => h ⟨q.1, q.2.1⟩)]
theorem zu_here (σ : zM) (k i o : Nat) (x : Int32) : zu σ k i o x k i = upd (σ k i) o x := by
  funext o'
  unfold zu upd
  by_cases h : o' = o
  · rw [if_pos ⟨rfl, rfl, h⟩, if_pos h]
  · rw [if_neg (fun q => h q.2.2), if_neg h]
theorem zur_row {σ : zM} {k i k' i' : Nat} {f : Nat → Int32} (h : ¬ (k' = k ∧ i' = i)) : zur σ k i f k' i' = σ k' i' := by
  unfold zur
  rw [if_neg h]
theorem zur_here (σ : zM) (k i : Nat) (f : Nat → Int32) : zur σ k i f k i = f := by
  unfold zur
  rw [if_pos ⟨rfl, rfl⟩]
/-! cells and worlds -/
def zrf (ad : zR → Nat) (r : Nat) (lk : List Nat) (ty k i o : Nat) : Option Nat := (zrs ty k i o).map fun q => ad ((if q.1 = 0 then r else lk.getD (q.1 - 1) r), q.2.1, q.2.2)
def zsv (ad : zR → Nat) (r : Nat) (lk : List Nat) (ty k i : Nat) (f : Nat → Int32) (o : Nat) : Value := match zrf ad r lk ty k i o with
  | some a => .ref a
  | none => .int (if zbo ty k o = true then f o &&& 1 else f o)
def zce (cA : Nat → ClassId) (ad : zR → Nat) (r : Nat) (lk : List Nat) (ty k i : Nat) (f : Nat → Int32) : va_E := match (zsh ty k).2 with
  | .inl (ci, n) => .inr (ci, (List.range n).map (zsv ad r lk ty k i f))
  | .inr (.inl n) => .inl (cA 0, n, .inl f)
  | .inr (.inr (n, ca)) => .inl (cA ca, n, .inr (.inr (.inr (.inr (zrf ad r lk ty k i)))))
def zty' (Rg : List zD) (r : Nat) : Nat := (Rg.getD r (0, [])).1
def zlk (Rg : List zD) (r : Nat) : List Nat := (Rg.getD r (0, [])).2
def zcq (cA : Nat → ClassId) (ad : zR → Nat) (Rg : List zD) (Ms : List zM) (q : zR) : va_E := zce cA ad q.1 (zlk Rg q.1) (zty' Rg q.1) q.2.1 q.2.2 (Ms.getD q.1 zm0 q.2.1 q.2.2)
def zin (Rg : List zD) (q : zR) : Prop := q.1 < Rg.length ∧ q.2.1 < zKn ∧ q.2.2 < (zsh (zty' Rg q.1) q.2.1).1
def zids (Rg : List zD) : List zR := (List.range Rg.length).flatMap fun r => (List.range zKn).flatMap fun k => (List.range (zsh (zty' Rg r) k).1).map fun i => (r, k, i)
theorem zids_iff {Rg : List zD} {q : zR} : q ∈ zids Rg ↔ zin Rg q := by
  unfold zids zin
  simp only [List.mem_flatMap, List.mem_range, List.mem_map]
  constructor
  · rintro ⟨r, h1, k, h2, i, h3, rfl⟩
    exact ⟨h1, h2, h3⟩
  · rintro ⟨h1, h2, h3⟩
    exact ⟨q.1, h1, q.2.1, h2, q.2.2, h3, rfl⟩
def zwl (cA : Nat → ClassId) (ad : zR → Nat) (Rg : List zD) (Ms : List zM) : va_W := (zids Rg).map fun q => (ad q, zcq cA ad Rg Ms q)
theorem zw_get {cA : Nat → ClassId} {ad : zR → Nat} {Rg : List zD} {Ms : List zM} {q : zR} (h : zin Rg q) : ∃ j : Nat, (zwl cA ad Rg Ms)[j]? = some (ad q, zcq cA ad Rg Ms q) := by
  obtain ⟨j, hj⟩ := List.getElem?_of_mem (zids_iff.mpr h)
  exact ⟨j, by unfold zwl; rw [List.getElem?_map, hj]; rfl⟩
theorem zw_of {cA : Nat → ClassId} {ad : zR → Nat} {Rg : List zD} {Ms : List zM} {j : Nat} {x : Nat × va_E} (h : (zwl cA ad Rg Ms)[j]? = some x) : ∃ q, (zids Rg)[j]? = some q ∧ zin Rg q ∧ x = (ad q, zcq cA ad Rg Ms q) := by
  unfold zwl at h
  rw [List.getElem?_map] at h
  cases hq : (zids Rg)[j]? with
  | none => rw [hq] at h; cases h
  | some q =>
    rw [hq] at h
    exact ⟨q, rfl, zids_iff.mp (List.mem_of_getElem? hq), (Option.some.inj h).symm⟩
/-- the addresses are apart: two places of one address are one -/
theorem zw_inj {A : Nat → Prop} {cA : Nat → ClassId} {ad : zR → Nat} {Rg : List zD} {Ms : List zM} (hD : va_D A (zwl cA ad Rg Ms)) {q q' : zR} (h : zin Rg q) (h' : zin Rg q') (e : ad q = ad q') : q = q' := by
  obtain ⟨j, hj⟩ := List.getElem?_of_mem (zids_iff.mpr h)
  obtain ⟨j', hj'⟩ := List.getElem?_of_mem (zids_iff.mpr h')
  have e1 : (zwl cA ad Rg Ms)[j]? = some (ad q, zcq cA ad Rg Ms q) := by unfold zwl; rw [List.getElem?_map, hj]; rfl
  have e2 : (zwl cA ad Rg Ms)[j']? = some (ad q', zcq cA ad Rg Ms q') := by unfold zwl; rw [List.getElem?_map, hj']; rfl
  have := hD.1 j j' _ _ e1 e2 e
  subst this
  exact Option.some.inj (hj.symm.trans hj')
theorem zw_set {A : Nat → Prop} {cA : Nat → ClassId} {ad : zR → Nat} {Rg : List zD} {Ms Ms' : List zM} (hD : va_D A (zwl cA ad Rg Ms)) {j : Nat} {q : zR} {e : va_E} (hq : zin Rg q) (hj : (zwl cA ad Rg Ms)[j]? = some (ad q, zcq cA ad Rg Ms q)) (he : zcq cA ad Rg Ms' q = e) (hn : ∀ q', zin Rg q' → q' ≠ q → zcq cA ad Rg Ms' q' = zcq cA ad Rg Ms q') : (zwl cA ad Rg Ms).set j (ad q, e) = zwl cA ad Rg Ms' := by
  have hl := (List.getElem?_eq_some_iff.mp hj).1
  refine List.ext_getElem? fun i => ?_
  by_cases hi : i = j
  · subst hi
    rw [List.getElem?_set_self hl]
    obtain ⟨q0, h1, h2, h3⟩ := zw_of hj
    have : q0 = q := zw_inj hD h2 hq (congrArg Prod.fst h3).symm
    subst this
    unfold zwl
    rw [List.getElem?_map, h1, ← he]
    rfl
  · rw [List.getElem?_set_ne (Ne.symm hi)]
    cases hx : (zwl cA ad Rg Ms)[i]? with
    | none =>
      unfold zwl at hx ⊢
      rw [List.getElem?_map] at hx ⊢
      cases hz : (zids Rg)[i]? with
      | none => rfl
      | some q0 => rw [hz] at hx; cases hx
    | some x =>
      obtain ⟨q0, h1, h2, h3⟩ := zw_of hx
      have hne : q0 ≠ q := fun z => hi (hD.1 i j _ _ hx hj (by rw [h3, z]))
      unfold zwl
      rw [List.getElem?_map, h1, h3, ← hn q0 h2 hne]
      rfl
theorem zw_D {A : Nat → Prop} {cA : Nat → ClassId} {ad : zR → Nat} {Rg : List zD} {Ms : List zM} (Ms' : List zM) (hD : va_D A (zwl cA ad Rg Ms)) : va_D A (zwl cA ad Rg Ms') := by
  refine ⟨fun i j p q hi hj hpq => ?_, fun k q hk => ?_⟩
  · obtain ⟨q1, a1, a2, a3⟩ := zw_of hi
    obtain ⟨q2, b1, b2, b3⟩ := zw_of hj
    have e1 : (zwl cA ad Rg Ms)[i]? = some (ad q1, zcq cA ad Rg Ms q1) := by unfold zwl; rw [List.getElem?_map, a1]; rfl
    have e2 : (zwl cA ad Rg Ms)[j]? = some (ad q2, zcq cA ad Rg Ms q2) := by unfold zwl; rw [List.getElem?_map, b1]; rfl
    exact hD.1 i j _ _ e1 e2 (by rw [a3, b3] at hpq; exact hpq)
  · obtain ⟨q1, a1, a2, a3⟩ := zw_of hk
    have e1 : (zwl cA ad Rg Ms)[k]? = some (ad q1, zcq cA ad Rg Ms q1) := by unfold zwl; rw [List.getElem?_map, a1]; rfl
    have := hD.2 k _ e1
    rw [a3]
    exact this
/-- one region's memory, at one row, has changed -/
theorem zcq_row {cA : Nat → ClassId} {ad : zR → Nat} {Rg : List zD} {Ms : List zM} {r k i : Nat} {σ σ' : zM} (hm : Ms[r]? = some σ) (hs : ∀ k' i', ¬ (k' = k ∧ i' = i) → σ' k' i' = σ k' i') : ∀ q', q' ≠ (r, k, i) → zcq cA ad Rg (Ms.set r σ') q' = zcq cA ad Rg Ms q' := by
  intro q' hne
  obtain ⟨r', k', i'⟩ := q'
  have hl := (List.getElem?_eq_some_iff.mp hm).1
  unfold zcq
  dsimp only
  by_cases hr : r' = r
  · subst hr
    rw [List.getD_eq_getElem?_getD, List.getD_eq_getElem?_getD, List.getElem?_set_self hl, hm]
    show zce cA ad r' _ _ k' i' (σ' k' i') = zce cA ad r' _ _ k' i' (σ k' i')
    rw [hs k' i' (fun z => hne (by rw [z.1, z.2]))]
  · rw [List.getD_eq_getElem?_getD, List.getD_eq_getElem?_getD, List.getElem?_set_ne (Ne.symm hr)]
theorem zcq_here {cA : Nat → ClassId} {ad : zR → Nat} {Rg : List zD} {Ms : List zM} {r k i : Nat} {σ σ' : zM} (hm : Ms[r]? = some σ) : zcq cA ad Rg (Ms.set r σ') (r, k, i) = zce cA ad r (zlk Rg r) (zty' Rg r) k i (σ' k i) := by
  have hl := (List.getElem?_eq_some_iff.mp hm).1
  unfold zcq
  dsimp only
  rw [List.getD_eq_getElem?_getD, List.getElem?_set_self hl]
  rfl
theorem zcq_at {cA : Nat → ClassId} {ad : zR → Nat} {Rg : List zD} {Ms : List zM} {r k i : Nat} {σ : zM} (hm : Ms[r]? = some σ) : zcq cA ad Rg Ms (r, k, i) = zce cA ad r (zlk Rg r) (zty' Rg r) k i (σ k i) := by
  unfold zcq
  dsimp only
  rw [List.getD_eq_getElem?_getD, hm]
  rfl
/-! locals -/
def zlv (ad : zR → Nat) (nL : Nat) (ls : Array Slot) (L : List (Option zV)) : Prop := ls.size = nL ∧ lv_wf ls ∧ ∀ (k : Nat) (v : zV), L[k]? = some (some v) → ls[k]? = some (.val (zt ad v))
def zll (ad : zR → Nat) (L : List (Option zV)) : List (Nat × Value) := (List.range L.length).filterMap fun k => match L[k]? with
  | some (some v) => some (k, zt ad v)
  | _ => none
theorem zll_mem {ad : zR → Nat} {L : List (Option zV)} {k : Nat} {v : zV} (h : L[k]? = some (some v)) : (k, zt ad v) ∈ zll ad L := by
  unfold zll
  rw [List.mem_filterMap]
  exact ⟨k, List.mem_range.mpr (List.getElem?_eq_some_iff.mp h).1, by rw [h]⟩
theorem zll_of {ad : zR → Nat} {L : List (Option zV)} {q : Nat × Value} (h : q ∈ zll ad L) : ∃ v, L[q.1]? = some (some v) ∧ q.2 = zt ad v := by
  unfold zll at h
  rw [List.mem_filterMap] at h
  obtain ⟨k, -, h2⟩ := h
  split at h2
  · rename_i v hv
    cases h2
    exact ⟨v, hv, rfl⟩
  · cases h2
theorem zlv_has {ad : zR → Nat} {nL : Nat} {ls : Array Slot} {L : List (Option zV)} (h : zlv ad nL ls L) : lv_has ls nL (zll ad L) := by
  refine ⟨h.1, h.2.1, fun q hq => ?_⟩
  obtain ⟨v, h1, h2⟩ := zll_of hq
  rw [h2]
  exact h.2.2 _ _ h1
/-- no long stands just ahead of place i -/
def zsafe (L : List (Option zV)) (i : Nat) : Bool := match i with
  | 0 => true
  | j + 1 => match L[j]? with
    | some (some (.inr (.inr _))) => false
    | _ => true
theorem zlv_set {ad : zR → Nat} {nL : Nat} {ls : Array Slot} {L : List (Option zV)} {i : Nat} {v : zV} (hs : zsafe L i = true) (hc : zcat v = 1) (h : lv_has ls nL ((i, zt ad v) :: (zll ad L).filter (fun q => !(q.1 == i) && !(q.1 + 1 == i && q.2.category == 2)))) : zlv ad nL ls (L.set i (some v)) := by
  refine ⟨h.1, h.2.1, fun k w hk => ?_⟩
  by_cases hki : k = i
  · subst hki
    have hl : k < L.length := by
      rcases Nat.lt_or_ge k L.length with q | q
      · exact q
      · rw [List.getElem?_eq_none (by rw [List.length_set]; exact q)] at hk
        cases hk
    rw [List.getElem?_set_self hl] at hk
    cases hk
    exact h.2.2 _ List.mem_cons_self
  · rw [List.getElem?_set_ne (Ne.symm hki)] at hk
    refine h.2.2 (k, zt ad w) (List.mem_cons_of_mem _ (List.mem_filter.mpr ⟨zll_mem hk, ?_⟩))
    have h1 : (k == i) = false := by simp [hki]
    have h2 : (k + 1 == i && (zt ad w).category == 2) = false := by
      by_cases hk1 : k + 1 = i
      · subst hk1
        unfold zsafe at hs
        dsimp only at hs
        rw [hk] at hs
        rcases w with q | x | x
        · simp [zt, Value.category]
        · simp [zt, Value.category]
        · cases hs
      · simp [hk1]
    dsimp only
    rw [h1, h2]
    rfl
theorem zlv_setl {ad : zR → Nat} {nL : Nat} {ls : Array Slot} {L : List (Option zV)} {i : Nat} {x : Int64} (hs : zsafe L i = true) (h : lv_has ls nL ((i, Value.long x) :: (zll ad L).filter (fun q => !(q.1 == i) && (!(q.1 == i + 1) && !(q.1 + 1 == i && q.2.category == 2))))) : zlv ad nL ls ((L.set i (some (zl x))).set (i + 1) none) := by
  refine ⟨h.1, h.2.1, fun k w hk => ?_⟩
  have hk1 : k ≠ i + 1 := by
    rintro rfl
    rcases Nat.lt_or_ge (i + 1) L.length with q | q
    · rw [List.getElem?_set_self (by rw [List.length_set]; exact q)] at hk
      cases hk
    · rw [List.getElem?_eq_none (by rw [List.length_set, List.length_set]; exact q)] at hk
      cases hk
  rw [List.getElem?_set_ne (Ne.symm hk1)] at hk
  by_cases hki : k = i
  · subst hki
    have hl : k < L.length := by
      rcases Nat.lt_or_ge k L.length with q | q
      · exact q
      · rw [List.getElem?_eq_none (by rw [List.length_set]; exact q)] at hk
        cases hk
    rw [List.getElem?_set_self hl] at hk
    cases hk
    exact h.2.2 _ List.mem_cons_self
  · rw [List.getElem?_set_ne (Ne.symm hki)] at hk
    refine h.2.2 (k, zt ad w) (List.mem_cons_of_mem _ (List.mem_filter.mpr ⟨zll_mem hk, ?_⟩))
    have h1 : (k == i) = false := by simp [hki]
    have h3 : (k == i + 1) = false := by simp [hk1]
    have h2 : (k + 1 == i && (zt ad w).category == 2) = false := by
      by_cases hk1 : k + 1 = i
      · subst hk1
        unfold zsafe at hs
        dsimp only at hs
        rw [hk] at hs
        rcases w with q | x | x
        · simp [zt, Value.category]
        · simp [zt, Value.category]
        · cases hs
      · simp [hk1]
    dsimp only
    rw [h1, h2, h3]
    rfl
/-- what is known of the locals, less of it -/
def zsub (L L' : List (Option zV)) : Prop := ∀ (k : Nat) (v : zV), L'[k]? = some (some v) → L[k]? = some (some v)
theorem zs_z : zsub [] [] := fun _ _ h => h
theorem zs_k {a : Option zV} {L L' : List (Option zV)} (h : zsub L L') : zsub (a :: L) (a :: L') := by
  intro k v hk
  cases k with
  | zero => exact hk
  | succ k => exact h k v hk
theorem zs_n {a : Option zV} {L L' : List (Option zV)} (h : zsub L L') : zsub (a :: L) (none :: L') := by
  intro k v hk
  cases k with
  | zero => cases hk
  | succ k => exact h k v hk
theorem zlv_sub {ad : zR → Nat} {nL : Nat} {ls : Array Slot} {L L' : List (Option zV)} (h : zlv ad nL ls L) (hs : zsub L L') : zlv ad nL ls L' := ⟨h.1, h.2.1, fun k v hk => h.2.2 k v (hs k v hk)⟩
