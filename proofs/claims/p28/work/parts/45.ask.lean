/-! ===== what is asked, and what would be ===== -/
theorem s_out {a lo hi : Int32} (h1 : lo.toInt ≤ a.toInt) (h2 : a.toInt ≤ hi.toInt) : fWB_outside a lo hi = some 0 := by
  unfold fWB_outside
  rw [if_neg (fun z => by rw [zlt] at z; omega), if_pos (zle.mpr h2)]
theorem s_has {n : Nat} {s : zM} (h8 : n ≤ 8) (h5 : s 0 0 5 = Int32.ofNat n) {w : Nat} (hw : w < n) : fSe_hasTurbine (Int32.ofNat w) s = some 1 := by
  unfold fSe_hasTurbine
  rw [if_neg (fun z => by rw [zlt, zon (by omega), z0i] at z; omega), if_neg (fun z => by rw [h5, znle (by omega) (by omega)] at z; omega)]
theorem s_check {n : Nat} {s : zM} (h8 : n ≤ 8) (h5 : s 0 0 5 = Int32.ofNat n) {w : Nat} (hw : w < n) (s0 s2 s3 : zM) : fWB_checkTurbine (Int32.ofNat w) s0 s s2 s3 = some (.inl ()) := by
  unfold fWB_checkTurbine
  rw [s_has h8 h5 hw]
  rfl
theorem s_would {n h : Nat} {s t s0 s3 : zM} (hS : s_St n s) (ht : zK (s_CP n) s t) (h1 : 1 ≤ h) (h2 : h ≤ 24) : fWB_wouldDeliver (Int32.ofNat h) s0 s t s3 = Option.bind (s_F h 0 s) fun q => some (.inl (q.1, q.2)) := by
  unfold fWB_wouldDeliver
  rw [s_out (by rw [z1i, zon (by omega)]; omega) (by rw [zon (by omega), show (24 : Int32).toInt = 24 from rfl]; omega), Option.bind_some, if_pos rfl, s_copy hS ht, Option.bind_some, s_phs h (by omega)]
def s_wx (a b c d e : Int32) (s : zM) : zM := zu (zu (zu (zu (zu s 4 0 0 a) 4 0 1 b) 4 0 2 c) 4 0 3 d) 4 0 4 e
theorem s_blow {h : Nat} {a b c d e : Int32} {s0 s s2 s3 : zM} (h1 : 1 ≤ h) (h2 : h ≤ 24) (ha : 0 ≤ a.toInt ∧ a.toInt ≤ 7) (hb : 0 ≤ b.toInt ∧ b.toInt ≤ 30) (hc : 0 ≤ c.toInt ∧ c.toInt ≤ 60) (hd : -50 ≤ d.toInt ∧ d.toInt ≤ 200) (he : 0 ≤ e.toInt ∧ e.toInt ≤ 20000) : fWB_blow (Int32.ofNat h) a b c d e s0 s s2 s3 = Option.bind (s_F h 0 (s_wx a b c d e s)) fun q => some (.inl (q.1, q.2)) := by
  unfold fWB_blow fWe_set
  dsimp only [zlet]
  rw [s_out (by rw [z1i, zon (by omega)]; omega) (by rw [zon (by omega), show (24 : Int32).toInt = 24 from rfl]; omega), Option.bind_some, if_pos rfl, s_out (lo := 0) (hi := 7) ha.1 ha.2, Option.bind_some, if_pos rfl, s_out (lo := 0) (hi := 30) hb.1 hb.2, Option.bind_some, if_pos rfl, s_out (lo := 0) (hi := 60) hc.1 hc.2, Option.bind_some, if_pos rfl, s_out (lo := -50) (hi := 200) hd.1 hd.2, Option.bind_some, if_pos rfl, s_out (lo := 0) (hi := 20000) he.1 he.2, Option.bind_some, if_pos rfl, Option.bind_some, s_phs h (by omega)]
  rfl
theorem zu_id {s : zM} {k i o : Nat} {x : Int32} (h : s k i o = x) : zu s k i o x = s := by
  funext k' i' o'
  unfold zu
  split
  · rename_i hz
    rw [hz.1, hz.2.1, hz.2.2, h]
  · rfl
theorem zu_zu (s : zM) (k i o : Nat) (x y : Int32) : zu (zu s k i o x) k i o y = zu s k i o y := by
  funext k' i' o'
  unfold zu
  split
  · rfl
  · rfl
theorem s_wx_id {s : zM} {a b c d e : Int32} (h0 : s 4 0 0 = a) (h1 : s 4 0 1 = b) (h2 : s 4 0 2 = c) (h3 : s 4 0 3 = d) (h4 : s 4 0 4 = e) : s_wx a b c d e s = s := by
  unfold s_wx
  rw [zu_id h0, zu_id h1, zu_id h2, zu_id h3, zu_id h4]
theorem s_wx_K (n : Nat) (a b c d e : Int32) (s : zM) : zK (s_CP n) s (s_wx a b c d e s) :=
  have m : ∀ o, o ≤ 4 → s_CP n 4 0 o := fun _ ho => Or.inr (Or.inl ⟨rfl, rfl, ho⟩)
  ((((zK.rf.u (m 0 (by decide))).u (m 1 (by decide))).u (m 2 (by decide))).u (m 3 (by decide))).u (m 4 (by decide))
theorem s_wx_Iv {n : Nat} {s : zM} {a b c d e : Int32} (h : s_Iv n s) (he : 0 ≤ e.toInt) : s_Iv n (s_wx a b c d e s) := by
  obtain ⟨⟨h8, h5, h6, h7, ht, hr, ho⟩, hc, hh⟩ := h
  exact ⟨⟨h8, h5, h6, h7, ht, hr, he⟩, hc, hh⟩
/-! a TURN is told -/
theorem s_turn {n w : Nat} {s s0 s2 s3 : zM} {x : Int32} (h8 : n ≤ 8) (h5 : s 0 0 5 = Int32.ofNat n) (hw : w < n) (hx : -2 ≤ x.toInt ∧ x.toInt ≤ 2) : fWB_turn (Int32.ofNat w) x s0 s s2 s3 = some (.inl (s 7 w 7, zu s 7 w 7 x)) := by
  unfold fWB_turn
  rw [s_check h8 h5 hw]
  show Option.bind (fWB_outside x (-2) 2) _ = _
  rw [s_out (show (-2 : Int32).toInt ≤ x.toInt from hx.1) (show x.toInt ≤ (2 : Int32).toInt from hx.2), Option.bind_some, if_pos rfl, show zix (Int32.ofNat w) 8 _ = _ from if_neg (zvin (by omega) (by decide)), zclm w (by omega)]
  rfl
theorem s_turn_Iv {n w : Nat} {s : zM} {x : Int32} (h : s_Iv n s) (hx : -2 ≤ x.toInt ∧ x.toInt ≤ 2) : s_Iv n (zu s 7 w 7 x) := by
  obtain ⟨⟨h8, h5, h6, h7, ht, hr, ho⟩, hc, hh⟩ := h
  refine ⟨⟨h8, h5, h6, h7, fun i hi => ?_, hr, ho⟩, hc, hh⟩
  by_cases hiw : i = w
  · subst hiw
    rw [zzs]
    exact hx
  · rw [zzu (fun z => hiw z.2.1)]
    exact ht i hi
theorem s_turn_K {n w : Nat} (hw : w < n) (s : zM) (x : Int32) : zK (s_CP n) s (zu s 7 w 7 x) := zK.rf.u (Or.inr (Or.inr (Or.inr (Or.inr (Or.inl ⟨rfl, hw, by decide⟩)))))
/-! the best TURN -/
/-- what is DELIVERED in one HOUR with this TURN -/
def s_val (s : zM) (w : Nat) (x : Int32) : Int32 := match fSe_passHour (zu s 7 w 7 x) with
  | some r => r.1
  | none => 0
def s_bs (q : Int32 × Int32) (x v : Int32) : Int32 × Int32 := if v ≤ q.2 then q else (x, v)
def s_best (s : zM) (w : Nat) : Int32 := (s_bs (s_bs (s_bs (s_bs (s_bs (0, -1) 0 (s_val s w 0)) (-1) (s_val s w (-1))) 1 (s_val s w 1)) (-2) (s_val s w (-2))) 2 (s_val s w 2)).1
theorem s_bstep {n w k : Nat} {s t : zM} (hI : s_Iv n s) (ht : zK (s_CP n) s t) (hw : w < n) (hk : k < 5) (q : Int32 × Int32) {x : Int32} (hx : zk4.getD k 0 = x) (hx2 : -2 ≤ x.toInt ∧ x.toInt ≤ 2) : ∃ t', fWB_bestTurn_l12 (Int32.ofNat w) s (q.1, q.2, Int32.ofNat k, t) = some (.inl ((s_bs q x (s_val s w x)).1, (s_bs q x (s_val s w x)).2, Int32.ofNat (k + 1), t')) ∧ zK (s_CP n) s t' ∧ 0 ≤ (s_val s w x).toInt ∧ ∀ t2, zK (s_CP n) s t2 → fWB_bestTurn_l12 (Int32.ofNat w) s (q.1, q.2, Int32.ofNat k, t2) = fWB_bestTurn_l12 (Int32.ofNat w) s (q.1, q.2, Int32.ofNat k, t) := by
  have h8 := hI.1.1
  obtain ⟨r, e, h0, hk1, hI2⟩ := s_passHour (s_turn_Iv (w := w) hI hx2)
  have hv : s_val s w x = r.1 := by unfold s_val; rw [e]
  have key : ∀ t2, zK (s_CP n) s t2 → fWB_bestTurn_l12 (Int32.ofNat w) s (q.1, q.2, Int32.ofNat k, t2) = some (.inl ((s_bs q x (s_val s w x)).1, (s_bs q x (s_val s w x)).2, Int32.ofNat (k + 1), r.2)) := by
    intro t2 ht2
    unfold fWB_bestTurn_l12
    dsimp only [zlet]
    rw [if_neg (fun z => by rw [show (5 : Int32) = Int32.ofNat 5 from rfl, znle (by omega) (by omega)] at z; omega), s_copy hI.1 ht2, Option.bind_some, show ∀ f, zix (Int32.ofNat w) 8 f = f (Int32.ofNat w).toNatClampNeg from fun f => if_neg (zvin (by omega) (by decide)), zclm w (by omega), show ∀ f : Nat → Option ((Int32 × Int32 × Int32 × zM) ⊕ (Int32 × zM)), zix (Int32.ofNat k) 5 f = f (Int32.ofNat k).toNatClampNeg from fun f => if_neg (zvin (by omega) (by decide)), zclm k (by omega), hx, e, Option.bind_some]
    unfold s_bs
    rw [hv]
    by_cases hc : r.1 ≤ q.2
    · rw [if_pos hc, if_pos hc, Option.bind_some, zn1]
    · rw [if_neg hc, if_neg hc, show ∀ f : Nat → Option (Int32 × Int32), zix (Int32.ofNat k) 5 f = f (Int32.ofNat k).toNatClampNeg from fun f => if_neg (zvin (by omega) (by decide)), zclm k (by omega), hx, Option.bind_some, zn1]
  exact ⟨r.2, key t ht, (s_turn_K hw s x).tr (hk1.mono (s_PHC n)), by rw [hv]; exact h0, fun t2 ht2 => (key t2 ht2).trans (key t ht).symm⟩
theorem s_bfive {b : Int32 × Int32 × Int32 × zM → Option ((Int32 × Int32 × Int32 × zM) ⊕ (Int32 × zM))} {a c : Int32} {q1 q2 q3 q4 q5 : Int32 × Int32} {t t1 t2 t3 t4 t5 : zM} (e1 : b (a, c, Int32.ofNat 0, t) = some (.inl (q1.1, q1.2, Int32.ofNat 1, t1))) (e2 : b (q1.1, q1.2, Int32.ofNat 1, t1) = some (.inl (q2.1, q2.2, Int32.ofNat 2, t2))) (e3 : b (q2.1, q2.2, Int32.ofNat 2, t2) = some (.inl (q3.1, q3.2, Int32.ofNat 3, t3))) (e4 : b (q3.1, q3.2, Int32.ofNat 3, t3) = some (.inl (q4.1, q4.2, Int32.ofNat 4, t4))) (e5 : b (q4.1, q4.2, Int32.ofNat 4, t4) = some (.inl (q5.1, q5.2, Int32.ofNat 5, t5))) (e6 : b (q5.1, q5.2, Int32.ofNat 5, t5) = some (.inr (q5.1, t5))) : ziter b 1000 (a, c, Int32.ofNat 0, t) = some (q5.1, t5) :=
  (zit_more 999 e1).trans ((zit_more 998 e2).trans ((zit_more 997 e3).trans ((zit_more 996 e4).trans ((zit_more 995 e5).trans (zit_end 994 e6)))))
theorem s_bestTurn {n w : Nat} {s : zM} (hI : s_Iv n s) (hw : w < n) : ∃ t', zK (s_CP n) s t' ∧ (∀ s0 t s3, zK (s_CP n) s t → fWB_bestTurn (Int32.ofNat w) s0 s t s3 = some (.inl (s_best s w, t'))) ∧ 0 ≤ (s_val s w 0).toInt := by
  obtain ⟨t1, e1, k1, v1, i1⟩ := s_bstep (k := 0) hI (zK.rf (P := s_CP n)) hw (by decide) (0, -1) (x := 0) rfl (by decide)
  obtain ⟨t2, e2, k2, v2, -⟩ := s_bstep (k := 1) hI k1 hw (by decide) (s_bs (0, -1) 0 (s_val s w 0)) (x := -1) rfl (by decide)
  obtain ⟨t3, e3, k3, v3, -⟩ := s_bstep (k := 2) hI k2 hw (by decide) (s_bs (s_bs (0, -1) 0 (s_val s w 0)) (-1) (s_val s w (-1))) (x := 1) rfl (by decide)
  obtain ⟨t4, e4, k4, v4, -⟩ := s_bstep (k := 3) hI k3 hw (by decide) (s_bs (s_bs (s_bs (0, -1) 0 (s_val s w 0)) (-1) (s_val s w (-1))) 1 (s_val s w 1)) (x := -2) rfl (by decide)
  obtain ⟨t5, e5, k5, v5, -⟩ := s_bstep (k := 4) hI k4 hw (by decide) (s_bs (s_bs (s_bs (s_bs (0, -1) 0 (s_val s w 0)) (-1) (s_val s w (-1))) 1 (s_val s w 1)) (-2) (s_val s w (-2))) (x := 2) rfl (by decide)
  have f6 : ∀ (b m : Int32) (u : zM), fWB_bestTurn_l12 (Int32.ofNat w) s (b, m, Int32.ofNat 5, u) = some (.inr (b, u)) := fun b m u => by
    unfold fWB_bestTurn_l12
    exact if_pos (show (5 : Int32) ≤ Int32.ofNat 5 by decide)
  have L : ∀ t, zK (s_CP n) s t → ziter (fWB_bestTurn_l12 (Int32.ofNat w) s) 1000 ((0 : Int32), (-1 : Int32), Int32.ofNat 0, t) = some (s_best s w, t5) := fun t ht => s_bfive ((i1 t ht).trans e1) e2 e3 e4 e5 (f6 _ _ _)
  clear e1 e2 e3 e4 e5 i1 f6
  refine ⟨t5, k5, fun s0 t s3 ht => ?_, v1⟩
  unfold fWB_bestTurn
  rw [s_check hI.1.1 hI.1.2.1 hw]
  generalize s_best s w = bb at L
  show Option.bind (ziter (fWB_bestTurn_l12 (Int32.ofNat w) s) 1000 ((0 : Int32), (-1 : Int32), Int32.ofNat 0, t)) _ = _
  rw [L t ht]
  rfl
/-- of several the first that none passes -/
def s_bG (vv : Int32 → Int32) (X : Nat → Int32) (k : Nat) (q : Int32 × Int32) : Prop := ∃ j, j < k ∧ q = (X j, vv (X j)) ∧ ∀ i, i < k → (vv (X i)).toInt ≤ (vv (X j)).toInt ∧ (i < j → (vv (X i)).toInt < (vv (X j)).toInt)
theorem s_bG_step {vv : Int32 → Int32} {X : Nat → Int32} {k : Nat} {q : Int32 × Int32} (h : s_bG vv X k q) : s_bG vv X (k + 1) (s_bs q (X k) (vv (X k))) := by
  obtain ⟨j, hj, rfl, hm⟩ := h
  unfold s_bs
  by_cases c : vv (X k) ≤ (X j, vv (X j)).2
  · rw [if_pos c]
    refine ⟨j, by omega, rfl, fun i hi => ?_⟩
    by_cases hik : i = k
    · subst hik
      exact ⟨zle.mp c, fun z => absurd z (by omega)⟩
    · exact hm i (by omega)
  · rw [if_neg c]
    have c2 : (vv (X j)).toInt < (vv (X k)).toInt := Int.not_le.mp fun z => c (zle.mpr z)
    refine ⟨k, by omega, rfl, fun i hi => ?_⟩
    by_cases hik : i = k
    · subst hik
      exact ⟨by omega, fun z => absurd z (by omega)⟩
    · have c3 := (hm i (by omega)).1
      exact ⟨by omega, fun _ => by omega⟩
theorem s_bG_one {vv : Int32 → Int32} {X : Nat → Int32} {a : Int32} (h : 0 ≤ (vv (X 0)).toInt) : s_bG vv X 1 (s_bs (a, -1) (X 0) (vv (X 0))) := by
  unfold s_bs
  rw [if_neg (fun z => by rw [zle, show ((a, -1) : Int32 × Int32).2.toInt = -1 from rfl] at z; omega)]
  refine ⟨0, by omega, rfl, fun i hi => ?_⟩
  obtain rfl : i = 0 := by omega
  exact ⟨Int.le_refl _, fun z => absurd z (by omega)⟩
def s_X (i : Nat) : Int32 := zk4.getD i 0
theorem s_bestOk {s : zM} {w : Nat} (v0 : 0 ≤ (s_val s w 0).toInt) : ∃ j, j < 5 ∧ s_best s w = s_X j ∧ ∀ i, i < 5 → (s_val s w (s_X i)).toInt ≤ (s_val s w (s_X j)).toInt ∧ (i < j → (s_val s w (s_X i)).toInt < (s_val s w (s_X j)).toInt) := by
  have h1 : s_bG (s_val s w) s_X 1 _ := s_bG_one (a := 0) (X := s_X) v0
  obtain ⟨j, hj, e, h⟩ := s_bG_step (s_bG_step (s_bG_step (s_bG_step h1)))
  exact ⟨j, hj, congrArg Prod.fst e, h⟩
