/-! ===== constructors: arrays of arrays, the end's order ===== -/
section ZNM
variable {X : zX} {cc : ByteArray} {nL : Nat} {own : String} {mc ms fr lo pc ck sk : Nat} {B : State → Prop} {lv lv' : List (Nat × Value)} {st : List Value} {ws : va_W}
theorem zn_mna (F : zLr X cc nL own) {idx N K : Nat} {n k : Int32} {ws' : Nat → (Nat → Nat) → va_W} (hd : decode cc pc = .ok (.multianewarray idx 2, 4)) (hw : Cond.classLink own idx "[[I" ∈ zTg) (hwa : Cond.arrayClass .int ∈ zTg) (hza : FieldType.int ∈ zaa) (hn : ¬ n < 0) (hk : ¬ k < 0) (hN : n.toNatClampNeg = N) (hK0 : k.toNatClampNeg = K) (hb1 : N * 4 ≤ 536870912) (hb2 : K * componentBytes .int ≤ 536870912) (hb3 : K ≤ 536870912) (hck : ck + (1 + N) ≤ mc) (hsk : sk + (N + N * K) ≤ ms)
    (hws : ∀ (q : Nat) (r : Nat → Nat), ws ++ (q, .inl (X.2.2.2.2.2.2.2.2.2.2.1 4, N, .inr (.inr (.inr (.inr (fun i => if i < N then some (r i) else none)))))) :: (List.range N).map (fun i => (r i, .inl (X.2.2.2.2.2.2.2.2.2.2.1 0, K, .inl (fun _ => 0)))) = ws' q r)
    (kk : ∀ (q : Nat) (r : Nat → Nat), zN X mc ms fr lo B nL (pc + 4) lv (.ref q :: st) (ws' q r) (ck + 1 + N) (sk + N + N * K)) : zN X mc ms fr lo B nL pc lv (.int k :: .int n :: st) ws ck sk := by
  obtain ⟨p, l, e, s, m, args, below, meth, c, D, cA, ad, A⟩ := X
  obtain ⟨⟨hx, hb, hml, hown, hts, hlk, hK, hA, hE, htr⟩, hAr⟩ := F
  intro H locs ls hl hP hD hS
  have e0 : s.vm.findClass ("[" ++ FieldType.int.toString) = some (cA 0) := (hK.2 0 _ (ztl_at (by decide))).2
  have e1 : s.vm.findClass ("[" ++ (FieldType.array .int).toString) = some (cA 4) := (hK.2 4 _ (ztl_at (by decide))).2
  have hP0 : va_P D zcl (ws ++ va_pl [] (fun _ => .inl (0, 0, .inl fun _ => 0))) H := by rw [show va_pl [] (fun _ => .inl (0, 0, .inl fun _ => 0)) = [] from rfl, List.append_nil]; exact hP
  have hD0 : va_D A (ws ++ va_pl [] (fun _ => .inl (0, 0, .inl fun _ => 0))) := by rw [show va_pl [] (fun _ => .inl (0, 0, .inl fun _ => 0)) = [] from rfl, List.append_nil]; exact hD
  refine va_mna (ty := .int) (z := (K, .inl fun _ => 0)) (cy := cA 0) hx hb hown (hts _ hw) (hAr.2.1 _ hza) (hts _ hwa) e0 hK hP0 hD0 hS hA hn hk hN hK0 hb1 hb2 hb3 rfl rfl hck hsk (fun c => arrV_new c K (.int 0)) hd fun q r cA' H1 hr hr2 hK1 hP1 hD1 hS1 => ?_
  have e2 : s.vm.findClass ("[" ++ (FieldType.array .int).toString) = some cA' := (hK1.2 (ztl cA).length (cA', .array .int) (by rw [List.getElem?_append_right (Nat.le_refl _), Nat.sub_self]; rfl)).2
  cases zcls_eq e1 e2
  have e3 : (ws ++ [(q, .inl (cA 4, N, .inr (.inr (.inr (.inr (fun i => if i < N then some (r i) else none))))))]) ++ va_pl ([] ++ (List.range N).map r) (vr_up (fun _ => .inl (0, 0, .inl fun _ => 0)) ((List.range N).map r) (.inl (cA 0, K, .inl fun _ => 0))) = ws' q r := by
    rw [← hws q r, List.append_assoc]
    congr 1
    show _ :: _ = _ :: _
    congr 1
    unfold va_pl
    rw [List.nil_append, List.map_map]
    refine List.map_congr_left fun i hi => ?_
    show (r i, vr_up _ _ _ (r i)) = _
    rw [vr_up_in (List.mem_map.mpr ⟨i, hi, rfl⟩)]
  rw [e3] at hP1 hD1
  exact kk q r H1 locs ls hl hP1 hD1 hS1
end ZNM
theorem arrV_to {c : ClassId} {n : Nat} {f g : Nat → Value} (h : ∀ j, j < n → f j = g j) : arrV c n f = arrV c n g := by
  unfold arrV
  have : (Array.ofFn (n := n) fun j => f j.val) = Array.ofFn (n := n) fun j => g j.val := by
    congr 1
    funext j
    exact h j.val j.isLt
  rw [this]
/-- the same cells, but for what a row of references says behind its end -/
def zWs (a b : va_W) : Prop := ∀ (k : Nat) (y : Nat × va_E), b[k]? = some y → ∃ x, a[k]? = some x ∧ x.1 = y.1 ∧ ∀ (D : va_G) (cl : List vw_C) (H : Heap), va_at D cl x H → va_at D cl y H
theorem zWs.z : zWs [] [] := by
  intro k y h
  cases h
theorem zWs.k {x : Nat × va_E} {a b : va_W} (h0 : zWs a b) : zWs (x :: a) (x :: b) := by
  intro k y h
  cases k with
  | zero => exact ⟨y, h, rfl, fun _ _ _ h => h⟩
  | succ k => exact h0 k y h
theorem zWs.r {q : Nat} {c : ClassId} {n : Nat} {f g : Nat → Option Nat} {a b : va_W} (hf : ∀ j, j < n → f j = g j) (h0 : zWs a b) : zWs ((q, .inl (c, n, .inr (.inr (.inr (.inr f))))) :: a) ((q, .inl (c, n, .inr (.inr (.inr (.inr g))))) :: b) := by
  intro k y h
  cases k with
  | zero =>
    cases h
    refine ⟨_, rfl, rfl, fun D cl H h => ?_⟩
    refine Eq.trans h ?_
    show some (vp_cell c (n, .inr (.inr (.inr (.inr f))))) = some (vp_cell c (n, .inr (.inr (.inr (.inr g)))))
    rw [vp_cell_q, vp_cell_q, arrV_to (fun j hj => congrArg va_rf (hf j hj))]
  | succ k => exact h0 k y h
theorem zWs.get {a b : va_W} (h : zWs a b) : ∀ (k : Nat) (y : Nat × va_E), b[k]? = some y → ∃ x, a[k]? = some x ∧ x.1 = y.1 ∧ ∀ (D : va_G) (cl : List vw_C) (H : Heap), va_at D cl x H → va_at D cl y H := h
section ZNE
variable {X : zX} {nL : Nat} {mc ms fr lo pc ck sk : Nat} {B : State → Prop} {lv : List (Nat × Value)} {st : List Value} {ws ws' : va_W}
theorem zn_ext (h : zWs ws ws') (kk : zN X mc ms fr lo B nL pc lv st ws' ck sk) : zN X mc ms fr lo B nL pc lv st ws ck sk := by
  obtain ⟨p, l, e, s, m, args, below, meth, c, D, cA, ad, A⟩ := X
  refine fun H locs ls hl hP hD hS => kk H locs ls hl (fun k y hy => ?_) ⟨fun i j x y hi hj hxy => ?_, fun k y hy => ?_⟩ hS
  · obtain ⟨x, h1, -, h3⟩ := h.get k y hy
    exact h3 D zcl H (hP k x h1)
  · obtain ⟨x', h1, h2, -⟩ := h.get i x hi
    obtain ⟨y', g1, g2, -⟩ := h.get j y hj
    exact hD.1 i j x' y' h1 g1 (by rw [h2, g2, hxy])
  · obtain ⟨x', h1, h2, -⟩ := h.get k y hy
    rw [← h2]
    exact hD.2 k x' h1
end ZNE
/-- a fresh region's names: one list, cut by kinds -/
def zaf (off : Nat → Nat) (l : List Nat) (k i : Nat) : Nat := l.getD (off k + i) 0
def zLm (n : Nat) : Nat → Int32 := fun k => if k < n then -1 else 0
theorem zLm_0 : zLm 0 = fun _ => 0 := by
  funext k
  unfold zLm
  rw [if_neg (Nat.not_lt_zero k)]
theorem zLm_s (n : Nat) : upd (zLm n) n (-1) = zLm (n + 1) := by
  funext k
  unfold upd zLm
  by_cases h : k = n
  · subst h
    rw [if_pos rfl, if_pos (Nat.lt_succ_self k)]
  · rw [if_neg h]
    by_cases h2 : k < n
    · rw [if_pos h2, if_pos (Nat.lt_succ_of_lt h2)]
    · rw [if_neg h2, if_neg (fun q => h (Nat.le_antisymm (Nat.le_of_lt_succ q) (Nat.le_of_not_lt h2)))]
