/-! ===== calls ===== -/
/-- a callee's place, seen by the caller: ρ names the caller's region of each of the callee's -/
def zmq (ρ : List Nat) (q : zR) : zR := (if q.1 < 100 then ρ.getD q.1 0 else q.1, q.2.1, q.2.2)
def zmv (ρ : List Nat) : zV → zV
  | .inl q => .inl (zmq ρ q)
  | .inr x => .inr x
theorem zt_mv (ad : zR → Nat) (ρ : List Nat) (v : zV) : zt (fun q => ad (zmq ρ q)) v = zt ad (zmv ρ v) := by
  rcases v with q | x | x <;> rfl
theorem zt_mvs (ad : zR → Nat) (ρ : List Nat) (vs : List zV) : vs.map (zt fun q => ad (zmq ρ q)) = (vs.map (zmv ρ)).map (zt ad) := by
  rw [List.map_map]
  exact List.map_congr_left fun v _ => zt_mv ad ρ v
def zRel (ρ : List Nat) (Rg Rg' : List zD) : Prop := Rg'.length ≤ 100 ∧ ρ.length = Rg'.length ∧
  (∀ r, r < Rg'.length → ρ.getD r 0 < Rg.length ∧ zty' Rg' r = zty' Rg (ρ.getD r 0) ∧ (zlk Rg' r).map (fun x => ρ.getD x 0) = zlk Rg (ρ.getD r 0) ∧ ∀ x ∈ zlk Rg' r, x < 100) ∧
  ∀ r, r < Rg'.length → ∀ r2, r2 < Rg'.length → ρ.getD r 0 = ρ.getD r2 0 → r = r2
theorem zmq_in {ρ : List Nat} {Rg Rg' : List zD} (h : zRel ρ Rg Rg') {q : zR} (hq : zin Rg' q) : zin Rg (zmq ρ q) := by
  obtain ⟨h1, h2, h3⟩ := hq
  obtain ⟨g1, -, g3, -⟩ := h
  obtain ⟨a1, a2, -, -⟩ := g3 _ h1
  unfold zmq
  rw [if_pos (Nat.lt_of_lt_of_le h1 g1)]
  exact ⟨a1, h2, by dsimp only; rw [← a2]; exact h3⟩
theorem zmq_inj {ρ : List Nat} {Rg Rg' : List zD} (h : zRel ρ Rg Rg') {q q' : zR} (hq : zin Rg' q) (hq' : zin Rg' q') (e : zmq ρ q = zmq ρ q') : q = q' := by
  obtain ⟨g1, -, -, g4⟩ := h
  obtain ⟨r, k, i⟩ := q
  obtain ⟨r', k', i'⟩ := q'
  have h1 : r < Rg'.length := hq.1
  have h2 : r' < Rg'.length := hq'.1
  unfold zmq at e
  dsimp only at e
  rw [if_pos (Nat.lt_of_lt_of_le h1 g1), if_pos (Nat.lt_of_lt_of_le h2 g1)] at e
  have e1 := g4 r h1 r' h2 (congrArg Prod.fst e)
  have e2 := congrArg Prod.snd e
  rw [e1]
  exact congrArg (Prod.mk r') e2
theorem zcq_mq {cA : Nat → ClassId} {ad : zR → Nat} {ρ : List Nat} {Rg Rg' : List zD} {Ms Ms' : List zM} (h : zRel ρ Rg Rg') {q : zR} (hq : zin Rg' q) (hM : Ms'.getD q.1 zm0 = Ms.getD (ρ.getD q.1 0) zm0) : zcq cA (fun q => ad (zmq ρ q)) Rg' Ms' q = zcq cA ad Rg Ms (zmq ρ q) := by
  obtain ⟨g1, g2, g3, -⟩ := h
  obtain ⟨r, k, i⟩ := q
  have h1 : r < Rg'.length := hq.1
  have h100 : r < 100 := Nat.lt_of_lt_of_le h1 g1
  obtain ⟨a1, a2, a3, a4⟩ := g3 _ h1
  dsimp only at hM
  generalize hr2 : ρ.getD r 0 = r2 at *
  have hz : zmq ρ (r, k, i) = (r2, k, i) := by
    unfold zmq
    dsimp only
    rw [if_pos h100, hr2]
  rw [hz]
  unfold zcq
  dsimp only
  rw [hM, a2]
  have hzrf : ∀ (ty k i o : Nat), zrf (fun q => ad (zmq ρ q)) r (zlk Rg' r) ty k i o = zrf ad r2 (zlk Rg r2) ty k i o := by
    intro ty k i o
    unfold zrf
    cases zrs ty k i o with
    | none => rfl
    | some q =>
      obtain ⟨l', k', i'⟩ := q
      show some (ad (zmq ρ _)) = some (ad _)
      unfold zmq
      dsimp only
      by_cases hl : l' = 0
      · rw [if_pos hl, if_pos hl, if_pos h100, hr2]
      · rw [if_neg hl, if_neg hl, ← a3]
        have e1 : ((zlk Rg' r).map fun x => ρ.getD x 0).getD (l' - 1) r2 = ρ.getD ((zlk Rg' r).getD (l' - 1) r) 0 := by
          rw [List.getD_eq_getElem?_getD] at hr2
          simp only [List.getD_eq_getElem?_getD, List.getElem?_map]
          cases hx : (zlk Rg' r)[l' - 1]? with
          | none => exact hr2.symm
          | some x => rfl
        have e2 : (zlk Rg' r).getD (l' - 1) r < 100 := by
          rw [List.getD_eq_getElem?_getD]
          cases hx : (zlk Rg' r)[l' - 1]? with
          | none => exact h100
          | some x => exact a4 x (List.mem_of_getElem? hx)
        rw [if_pos e2, e1]
  have hzsv : ∀ (ty k i : Nat) (f : Nat → Int32), zsv (fun q => ad (zmq ρ q)) r (zlk Rg' r) ty k i f = zsv ad r2 (zlk Rg r2) ty k i f := by
    intro ty k i f
    funext o
    unfold zsv
    rw [hzrf]
  unfold zce
  rw [show zrf (fun q => ad (zmq ρ q)) r (zlk Rg' r) (zty' Rg r2) k i = zrf ad r2 (zlk Rg r2) (zty' Rg r2) k i from funext fun o => hzrf _ _ _ o, hzsv]
theorem zids_nodup (Rg : List zD) : (zids Rg).Nodup := by
  unfold zids List.Nodup
  rw [List.pairwise_flatMap]
  refine ⟨fun r _ => ?_, ?_⟩
  · rw [List.pairwise_flatMap]
    refine ⟨fun k _ => ?_, ?_⟩
    · rw [List.pairwise_map]
      exact List.nodup_range.imp fun h e => h (congrArg (fun q : zR => q.2.2) e)
    · refine List.nodup_range.imp fun h x hx y hy e => ?_
      obtain ⟨i, -, rfl⟩ := List.mem_map.mp hx
      obtain ⟨j, -, rfl⟩ := List.mem_map.mp hy
      exact h (congrArg (fun q : zR => q.2.1) e)
  · refine List.nodup_range.imp fun h x hx y hy e => ?_
    obtain ⟨k, -, hx⟩ := List.mem_flatMap.mp hx
    obtain ⟨k', -, hy⟩ := List.mem_flatMap.mp hy
    obtain ⟨i, -, rfl⟩ := List.mem_map.mp hx
    obtain ⟨j, -, rfl⟩ := List.mem_map.mp hy
    exact h (congrArg (fun q : zR => q.1) e)
theorem zids_nd {Rg : List zD} {i j : Nat} {q : zR} (hi : (zids Rg)[i]? = some q) (hj : (zids Rg)[j]? = some q) : i = j :=
  (List.getElem?_inj (List.getElem?_eq_some_iff.mp hi).1 (zids_nodup Rg)).mp (hi.trans hj.symm)
/-- the callee's world out of the caller's -/
theorem zc_P {D : va_G} {cA : Nat → ClassId} {ad : zR → Nat} {ρ : List Nat} {Rg Rg' : List zD} {Ms Ms' : List zM} {H : Heap} (h : zRel ρ Rg Rg') (hM : ∀ r, r < Rg'.length → Ms'.getD r zm0 = Ms.getD (ρ.getD r 0) zm0) (hP : va_P D zcl (zwl cA ad Rg Ms) H) : va_P D zcl (zwl cA (fun q => ad (zmq ρ q)) Rg' Ms') H := by
  intro j x hx
  obtain ⟨q, -, hq, rfl⟩ := zw_of hx
  obtain ⟨j2, hj2⟩ := zw_get (cA := cA) (ad := ad) (Ms := Ms) (zmq_in h hq)
  rw [zcq_mq (Ms := Ms) h hq (hM _ hq.1)]
  exact hP j2 _ hj2
theorem zc_D {A : Nat → Prop} {cA : Nat → ClassId} {ad : zR → Nat} {ρ : List Nat} {Rg Rg' : List zD} {Ms : List zM} (Ms' : List zM) (h : zRel ρ Rg Rg') (hD : va_D A (zwl cA ad Rg Ms)) : va_D A (zwl cA (fun q => ad (zmq ρ q)) Rg' Ms') := by
  refine ⟨fun i j p q hi hj hpq => ?_, fun k q hk => ?_⟩
  · obtain ⟨q1, a1, a2, rfl⟩ := zw_of hi
    obtain ⟨q2, b1, b2, rfl⟩ := zw_of hj
    have e0 := zw_inj hD (zmq_in h a2) (zmq_in h b2) hpq
    have e : q1 = q2 := zmq_inj h a2 b2 e0
    subst e
    have f : ∀ (m : Nat), (zids Rg')[m]? = some q1 → (zwl cA (fun q => ad (zmq ρ q)) Rg' Ms')[m]? = some (ad (zmq ρ q1), zcq cA (fun q => ad (zmq ρ q)) Rg' Ms' q1) := fun m hm => by unfold zwl; rw [List.getElem?_map, hm]; rfl
    exact zids_nd a1 b1
  · obtain ⟨q1, a1, a2, rfl⟩ := zw_of hk
    obtain ⟨j2, hj2⟩ := zw_get (cA := cA) (ad := ad) (Ms := Ms) (zmq_in h a2)
    have := hD.2 j2 _ hj2
    exact this
/-- the caller's memories behind the call -/
def zput (ρ : List Nat) (Ms Ms' : List zM) : List zM := (List.range Ms.length).map fun r => match (List.range ρ.length).find? (fun r' => ρ.getD r' 0 == r) with
  | some r' => Ms'.getD r' zm0
  | none => Ms.getD r zm0
theorem zput_hit {ρ : List Nat} {Rg Rg' : List zD} {Ms Ms' : List zM} (h : zRel ρ Rg Rg') (hl : Ms.length = Rg.length) {r' : Nat} (hr : r' < Rg'.length) : (zput ρ Ms Ms').getD (ρ.getD r' 0) zm0 = Ms'.getD r' zm0 := by
  obtain ⟨g1, g2, g3, g4⟩ := h
  unfold zput
  rw [List.getD_eq_getElem?_getD, List.getElem?_map, List.getElem?_range (by rw [hl]; exact (g3 _ hr).1)]
  dsimp only [Option.map_some, Option.getD_some]
  cases hf : (List.range ρ.length).find? (fun r'' => ρ.getD r'' 0 == ρ.getD r' 0) with
  | none =>
    have := List.find?_eq_none.mp hf r' (List.mem_range.mpr (by rw [g2]; exact hr))
    exact absurd (beq_self_eq_true _) this
  | some r2 =>
    have h1 := List.find?_some hf
    have h2 := List.mem_range.mp (List.mem_of_find?_eq_some hf)
    rw [g4 r2 (by rw [← g2]; exact h2) r' hr (by simpa using h1)]
theorem zput_miss {ρ : List Nat} {Ms Ms' : List zM} {r : Nat} (hr : r < Ms.length) (h : ∀ r', r' < ρ.length → ρ.getD r' 0 ≠ r) : (zput ρ Ms Ms').getD r zm0 = Ms.getD r zm0 := by
  unfold zput
  rw [List.getD_eq_getElem?_getD, List.getElem?_map, List.getElem?_range hr]
  dsimp only [Option.map_some, Option.getD_some]
  cases hf : (List.range ρ.length).find? (fun r'' => ρ.getD r'' 0 == r) with
  | none => rfl
  | some r2 =>
    have h1 := List.find?_some hf
    have h2 := List.mem_range.mp (List.mem_of_find?_eq_some hf)
    exact absurd (by simpa using h1) (h r2 h2)
/-- the callee's cells are the caller's -/
theorem zc_A {A : Nat → Prop} {cA : Nat → ClassId} {ad : zR → Nat} {ρ : List Nat} {Rg Rg' : List zD} {Ms Ms' : List zM} {H0 H : Heap} {locs : List Loc} (h : zRel ρ Rg Rg') (hD : va_D A (zwl cA ad Rg Ms)) (hS : va_S A H0 H locs) (hA : ∀ q, H0.size ≤ q → A q) : ∀ q, va_A (zwl cA (fun q => ad (zmq ρ q)) Rg' Ms') H.size q → A q := by
  intro q hq
  rcases hq with ⟨k, e, hk⟩ | hq
  · obtain ⟨q1, -, a2, a3⟩ := zw_of hk
    obtain ⟨j, hj⟩ := zw_get (cA := cA) (ad := ad) (Ms := Ms) (zmq_in h a2)
    have := hD.2 j _ hj
    rw [show q = ad (zmq ρ q1) from congrArg Prod.fst a3]
    exact this
  · exact hA q (Nat.le_trans hS.1 hq)
/-- the caller's world behind the call -/
theorem zc_back {A : Nat → Prop} {D : va_G} {cA : Nat → ClassId} {ad : zR → Nat} {ρ : List Nat} {Rg Rg' : List zD} {Ms Ms' Ms'' : List zM} {H H1 : Heap} (h : zRel ρ Rg Rg') (hl : Ms.length = Rg.length) (hP : va_P D zcl (zwl cA ad Rg Ms) H) (hD : va_D A (zwl cA ad Rg Ms)) (hk : ∀ q : Nat, q < H.size → ¬ va_A (zwl cA (fun q => ad (zmq ρ q)) Rg' Ms') H.size q → H1[q]? = H[q]?) (hP1 : va_P D zcl (zwl cA (fun q => ad (zmq ρ q)) Rg' Ms'') H1) : va_P D zcl (zwl cA ad Rg (zput ρ Ms Ms'')) H1 := by
  intro j x hx
  obtain ⟨q, hq0, hq, rfl⟩ := zw_of hx
  by_cases hex : ∃ r', r' < Rg'.length ∧ ρ.getD r' 0 = q.1
  · obtain ⟨r', hr, e⟩ := hex
    obtain ⟨g1, g2, g3, g4⟩ := id h
    obtain ⟨r, k, i⟩ := q
    dsimp only at e
    have hq' : zin Rg' (r', k, i) := ⟨hr, hq.2.1, by
      have h3 := hq.2.2
      dsimp only at h3 ⊢
      rw [(g3 _ hr).2.1, e]
      exact h3⟩
    have ez : zmq ρ (r', k, i) = (r, k, i) := by
      unfold zmq
      dsimp only
      rw [if_pos (Nat.lt_of_lt_of_le hr g1), e]
    obtain ⟨j2, hj2⟩ := zw_get (cA := cA) (ad := fun q => ad (zmq ρ q)) (Ms := Ms'') hq'
    have hat := hP1 j2 _ hj2
    have e2 := zcq_mq (cA := cA) (ad := ad) (Ms := zput ρ Ms Ms'') (Ms' := Ms'') h hq' (zput_hit h hl hr).symm
    rw [e2, ez] at hat
    exact hat
  · have hmiss : ∀ r', r' < ρ.length → ρ.getD r' 0 ≠ q.1 := fun r' hr e => hex ⟨r', by rw [← h.2.1]; exact hr, e⟩
    obtain ⟨j2, hj2⟩ := zw_get (cA := cA) (ad := ad) (Ms := Ms) hq
    have hat := hP j2 _ hj2
    have hlt : ad q < H.size := hat.lt
    have hna : ¬ va_A (zwl cA (fun q => ad (zmq ρ q)) Rg' Ms') H.size (ad q) := by
      rintro (⟨k, e, hk⟩ | hk)
      · obtain ⟨q1, -, a2, a3⟩ := zw_of hk
        have e0 : q = zmq ρ q1 := zw_inj hD hq (zmq_in h a2) (congrArg Prod.fst a3)
        refine hmiss q1.1 (by rw [h.2.1]; exact a2.1) ?_
        rw [e0]
        unfold zmq
        rw [if_pos (Nat.lt_of_lt_of_le a2.1 h.1)]
      · omega
    have hz : zcq cA ad Rg (zput ρ Ms Ms'') q = zcq cA ad Rg Ms q := by
      unfold zcq
      rw [zput_miss (by rw [hl]; exact hq.1) hmiss]
    rw [hz]
    exact hat.kept (hk _ hlt hna)
/-! what a method does, as its callers see it: at every launch without stack traces, at all addresses -/
def zPc (D : va_G) (cA : Nat → ClassId) (ad : zR → Nat) (Rg : List zD) (as : List zV) (Ms : List zM) (sz : Nat) : Array Value → State → Prop := va_Pc (as.map (zt ad)) fun U =>
  U.heap.size = sz ∧ va_P D zcl (zwl cA ad Rg Ms) U.heap ∧ va_K D zcl (ztl cA) U ∧ va_D (fun _ => True) (zwl cA ad Rg Ms) ∧ zEv ad (va_A (zwl cA ad Rg Ms) sz) U U.heap
def zMet (y : MethodName) (cb : ByteArray) (nB : Nat) (rb : Option FieldType) (fb lb : Nat) (Rg : List zD) (as : List zV) (Ms : List zM) (o : zO) : Prop := ∀ (l : Launch), l.stackTraces = false → ∀ (D : va_G) (cA : Nat → ClassId) (ad : zR → Nat) (sz : Nat), match o.1 with
  | .inl v => Met l y (.code y cb nB rb :: zTg) (zrm fb lb o) (zPc D cA ad Rg as Ms sz) (zQc D cA ad (va_A (zwl cA ad Rg Ms) sz) Rg v o.2) 0 0 (va_A (zwl cA ad Rg Ms) sz)
  | .inr E => vx_Met l y (.code y cb nB rb :: zTg) (zrm fb lb o) (zPc D cA ad Rg as Ms sz) zNo (zXc D cA ad (va_A (zwl cA ad Rg Ms) sz) Rg E o.2) 1 6 (va_A (zwl cA ad Rg Ms) sz)
theorem zPc_blind {D : va_G} {cA : Nat → ClassId} {ad : zR → Nat} {Rg : List zD} {as : List zV} {Ms : List zM} {sz : Nat} : FrameBlind (zPc D cA ad Rg as Ms sz) := by
  rintro a U g mk ⟨q0, q1, q2, q3, q4, q5⟩
  exact ⟨q0, q1, q2, va_K.moved (u := U) (U := U.calling g mk a) (Vm.Alike.refl U.vm) q3, q4, zEv.same (s := U) (U := U.calling g mk a) rfl q5⟩
def zls (as : List zV) (nL : Nat) : List (Option zV) := as.flatMap (fun v => if zcat v = 2 then [some v, none] else [some v]) ++ List.replicate (nL - (as.flatMap fun v => if zcat v = 2 then [some v, none] else [some v]).length) none
