/-! ===== methods over lists of cells: what they promise, and their calls ===== -/
def zAlP (D : va_G) (cA : Nat → ClassId) (ad : zR → Nat) (W0 : va_W) (as : List Value) (sz : Nat) : Array Value → State → Prop := va_Pc as fun U => U.heap.size = sz ∧ va_P D zcl W0 U.heap ∧ va_K D zcl (ztl cA) U ∧ va_D (fun _ => True) W0 ∧ zEv ad (va_A W0 sz) U U.heap ∧ zAr U
def zAl (y : MethodName) (cb : ByteArray) (nB : Nat) (rb : Option FieldType) (fb lb mc ms : Nat) (as : List Value) (W0 : (Nat → ClassId) → va_W) (Bo : (Nat → ClassId) → Option Value → va_W → Prop) : Prop := ∀ (l : Launch), l.stackTraces = false → ∀ (D : va_G) (cA : Nat → ClassId) (ad : zR → Nat) (sz : Nat),
  Met l y (.code y cb nB rb :: zTg) { frames := fb, cells := mc, slots := ms, locals := lb } (zAlP D cA ad (W0 cA) as sz) (zNq D (va_A (W0 cA) sz) (Bo cA)) mc ms (va_A (W0 cA) sz)
theorem zAlP_blind {D : va_G} {cA : Nat → ClassId} {ad : zR → Nat} {W0 : va_W} {as : List Value} {sz : Nat} : FrameBlind (zAlP D cA ad W0 as sz) := by
  rintro a U g mk ⟨q0, q1, q2, q3, q4, q5, q6⟩
  exact ⟨q0, q1, q2, va_K.moved (u := U) (U := U.calling g mk a) (Vm.Alike.refl U.vm) q3, q4, zEv.same (s := U) (U := U.calling g mk a) rfl q5, q6.moved (s := U) (U := U.calling g mk a) (Vm.Alike.refl U.vm)⟩
theorem zAl_of {y : MethodName} {cb : ByteArray} {nB fb lb mc ms : Nat} {rb : Option FieldType} {as : List Value} {W0 : (Nat → ClassId) → va_W} {Bo : (Nat → ClassId) → Option Value → va_W → Prop} (hy : plainName y.cls = true) (hnB : (lg_sl as).length ≤ nB)
    (body : ∀ (X : zX), zLr X cb nB y.cls → zRt X rb → (∀ x ∈ X.2.2.2.2.2.2.2.2.1.exceptionTable.toList, False) → zN X mc ms fb lb (zNQ X mc ms (Bo X.2.2.2.2.2.2.2.2.2.2.1)) nB 0 (lv_args 0 as) [] (W0 X.2.2.2.2.2.2.2.2.2.2.1) 0 0) : zAl y cb nB rb fb lb mc ms as W0 Bo := by
  intro l htr D cA ad sz
  refine Met.ofW (cc := cb) (maxL := nB) (ret := rb) hy rfl ?_
  intro p e s m args below meth c s₁ B hml hv
  obtain ⟨rfl, hsz0, hP, hK, hD, hE, hAr⟩ := hv
  have hts := atoms_spec (ws := .code y cb nB rb :: zTg) B.pre
  have hex : ∀ x ∈ c.exceptionTable.toList, False := by
    obtain ⟨meth9, c9, h1, h2, -, -, -, -, h7, -⟩ := Cond.code_spec B.named (hts _ List.mem_cons_self)
    cases Option.some.inj (h1.symm.trans B.method)
    cases Option.some.inj (h2.symm.trans (Stand.of_body B).code)
    intro x hx
    rw [Array.isEmpty_iff.mp h7] at hx
    cases hx
  have F : zLr (p, l, e, s, m, as.toArray, below, meth, c, D, cA, ad, va_A (W0 cA) sz) cb nB y.cls :=
    ⟨⟨B.exec, B.bytes, hml, findClass_of_methodNamed B.named, fun w hw => hts w (List.mem_cons_of_mem _ hw), B.notSynchronized, hK, fun q h => Or.inr (by rw [← hsz0]; exact h), hE, htr⟩, hAr⟩
  have hl := lv_entry as (n := nB) hnB
  rw [lg_entry_eq]
  exact body _ F B.returns hex s.heap [] _ hl hP hD.self va_S.rf
/-- the caller's other cells beside what the callee leaves -/
theorem zy_beside {D : va_G} {A0 : Nat → Prop} {cl : List vw_C} {w0 w1 wsB : va_W} {H H1 : Heap} (hP : va_P D cl (w0 ++ wsB) H) (hD : va_D A0 (w0 ++ wsB)) (hk : ∀ q : Nat, q < H.size → ¬ va_A w0 H.size q → H1[q]? = H[q]?) (hF : ∀ q, va_A w0 H.size q → A0 q) (hP1 : va_P D cl w1 H1) (hD1 : va_D (va_A w0 H.size) w1) : va_P D cl (w1 ++ wsB) H1 ∧ va_D A0 (w1 ++ wsB) := by
  have at2 : ∀ (k : Nat) (x : Nat × va_E), wsB[k]? = some x → (w0 ++ wsB)[w0.length + k]? = some x := fun k x h => by rw [List.getElem?_append_right (Nat.le_add_right _ _), Nat.add_sub_cancel_left]; exact h
  have apart : ∀ (k : Nat) (x : Nat × va_E), wsB[k]? = some x → x.1 < H.size ∧ ¬ va_A w0 H.size x.1 := by
    intro k x hx
    have hl := (hP _ x (at2 k x hx)).lt
    refine ⟨hl, fun h => ?_⟩
    rcases h with ⟨k2, e, h⟩ | h
    · have hk2 := (List.getElem?_eq_some_iff.mp h).1
      have := hD.1 k2 (w0.length + k) _ x ((List.getElem?_append_left hk2).trans h) (at2 k x hx) rfl
      omega
    · omega
  refine ⟨va_P.app hP1 (fun k x hx => (hP _ x (at2 k x hx)).kept (hk x.1 (apart k x hx).1 (apart k x hx).2)), va_D.app (hD1.weaken fun k q _ h => hF q.1 h) ⟨fun i j x y hi hj hxy => ?_, fun k x hx => hD.2 _ x (at2 k x hx)⟩ (fun i j x y hx hy hxy => (apart j y hy).2 (by rw [← hxy]; exact hD1.2 i x hx))⟩
  have := hD.1 _ _ x y (at2 i x hi) (at2 j y hj) hxy
  omega
theorem zMet_conv {l : Launch} {y : MethodName} {ws : List Cond} {rm : Room} {Pc Pc' : Array Value → State → Prop} {Qc Qc' : Array Value → State → Outcome → State → Prop} {mc ms : Nat} {free free' : Addr → Prop} (h : Met l y ws rm Pc Qc mc ms free) (hp : ∀ a U, Pc' a U → Pc a U) (hf : ∀ q, free q → free' q) (hq : ∀ a st o t, Pc' a st → Qc a st o t → Qc' a st o t) : Met l y ws rm Pc' Qc' mc ms free' := by
  intro p e ha hc hcl s m args below hs hS hP hK
  obtain ⟨n, o, h1, h2, h3, h4, L, h5, h6⟩ := h p e ha hc hcl s m args below hs hS (hp _ _ hP) hK
  exact ⟨n, o, h1, h2, h3, hq _ _ _ _ hP h4, L, h5, fun q hq => hf _ (h6 q hq)⟩
theorem zwl_cong {cA : Nat → ClassId} {ad ad' : zR → Nat} {Rg : List zD} {Ms : List zM} (hl : Rg.length ≤ 100) (hlk : ∀ r ∈ Rg, ∀ x ∈ r.2, x < 100) (h : ∀ q, q.1 < 100 → ad' q = ad q) : zwl cA ad' Rg Ms = zwl cA ad Rg Ms := by
  unfold zwl
  refine List.map_congr_left fun q hq => ?_
  have hin := zids_iff.mp hq
  have h1 : q.1 < 100 := Nat.lt_of_lt_of_le hin.1 hl
  have hrf : ∀ ty k i o, zrf ad' q.1 (zlk Rg q.1) ty k i o = zrf ad q.1 (zlk Rg q.1) ty k i o := by
    intro ty k i o
    unfold zrf
    cases zrs ty k i o with
    | none => rfl
    | some z =>
      refine congrArg some (h _ ?_)
      show (if z.1 = 0 then q.1 else (zlk Rg q.1).getD (z.1 - 1) q.1) < 100
      split
      · exact h1
      · rw [List.getD_eq_getElem?_getD]
        cases hz : (zlk Rg q.1)[z.1 - 1]? with
        | none => exact h1
        | some x =>
          refine hlk (Rg.getD q.1 (0, [])) ?_ x (List.mem_of_getElem? hz)
          rw [List.getD_eq_getElem?_getD, List.getElem?_eq_getElem hin.1]
          exact List.getElem_mem hin.1
  have e1 : zcq cA ad' Rg Ms q = zcq cA ad Rg Ms q := by
    unfold zcq zce
    have e2 : ∀ ty k i, zrf ad' q.1 (zlk Rg q.1) ty k i = zrf ad q.1 (zlk Rg q.1) ty k i := fun ty k i => funext fun o => hrf ty k i o
    have e3 : ∀ ty k i f, zsv ad' q.1 (zlk Rg q.1) ty k i f = zsv ad q.1 (zlk Rg q.1) ty k i f := fun ty k i f => funext fun o => by unfold zsv; rw [hrf]
    rw [e2, e3]
  rw [h q h1, e1]
/-- a method of regions is one of lists of cells -/
theorem zAl_of_zMet {y : MethodName} {cb : ByteArray} {nB fb lb : Nat} {rb : Option FieldType} {Rg : List zD} {as : List zV} {Ms Ms' : List zM} {v : Option zV} (h : zMet y cb nB rb fb lb Rg as Ms (.inl v, Ms')) (hl : Rg.length ≤ 100) (hlk : ∀ r ∈ Rg, ∀ x ∈ r.2, x < 100) (has : ∀ x ∈ as, ∀ q, x = .inl q → q.1 < 100) (hv : ∀ q, v = some (.inl q) → q.1 < 100) (ad1 : zR → Nat) :
    zAl y cb nB rb fb lb 0 0 (as.map (zt ad1)) (fun cA => zwl cA ad1 Rg Ms) (fun cA v' ws => v' = v.map (zt ad1) ∧ ws = zwl cA ad1 Rg Ms') := by
  intro l htr D cA ad sz
  have h1 := h l htr D cA (fun q => if q.1 < 100 then ad1 q else ad q) sz
  dsimp only at h1
  have had : ∀ q : zR, q.1 < 100 → (fun q : zR => if q.1 < 100 then ad1 q else ad q) q = ad1 q := fun q hq => if_pos hq
  have hw : ∀ Ms, zwl cA (fun q => if q.1 < 100 then ad1 q else ad q) Rg Ms = zwl cA ad1 Rg Ms := fun Ms => zwl_cong hl hlk had
  have ht : ∀ x : zV, (∀ q, x = .inl q → q.1 < 100) → zt (fun q => if q.1 < 100 then ad1 q else ad q) x = zt ad1 x := by
    intro x hx
    rcases x with q | x | x
    · exact congrArg Value.ref (had q (hx q rfl))
    · rfl
    · rfl
  have hta : as.map (zt fun q => if q.1 < 100 then ad1 q else ad q) = as.map (zt ad1) := List.map_congr_left fun x hx => ht x (has x hx)
  refine zMet_conv h1 (fun a U hP => ?_) (fun q hq => by rw [hw] at hq; exact hq) (fun a st o t hP hQ => ?_)
  · obtain ⟨q0, q1, q2, q3, q4, q5, q6⟩ := hP
    refine ⟨by rw [hta]; exact q0, q1, by rw [hw]; exact q2, q3, by rw [hw]; exact q4, ?_⟩
    rw [hw]
    exact q5.narrow (fun _ h => h) fun j => by dsimp only; rw [if_neg (by omega)]
  · obtain ⟨q0, q1, q2, q3, q4, q5, q6⟩ := hP
    obtain ⟨g1, g2, g3⟩ := hQ
    rw [hw] at g2 g3
    refine ⟨_, g1, ⟨_, ⟨?_, rfl⟩, g2, zw_D _ q4.self⟩, g3⟩
    cases v with
    | none => rfl
    | some x => exact congrArg some (ht x fun q hq => hv q (by rw [hq]))
section ZNA
variable {X : zX} {cc : ByteArray} {nL : Nat} {own : String} {mc ms fr lo pc ck sk : Nat} {B : State → Prop} {lv : List (Nat × Value)} {S st as : List Value} {ws wsB : va_W}
variable {y : MethodName} {cb : ByteArray} {nB fb lb mcc msc idx n : Nat} {rb : Option FieldType} {C host : String} {W0 : (Nat → ClassId) → va_W} {Bo : (Nat → ClassId) → Option Value → va_W → Prop}
theorem zn_callV (F : zLr X cc nL own) {h0 j0 ci N : Nat} {T : u_T} {vs : List Value} (hC : zAl y cb nB rb fb lb mcc msc (.ref h0 :: as) W0 Bo) (hd : decode cc pc = .ok (.invokevirtual idx, 3))
    (hw : Cond.methodLink own idx y ∈ zTg ∧ Cond.instanceMethod y ∈ zTg ∧ Cond.selects C y y ∈ zTg ∧ Cond.initialized C ∈ zTg ∧ Cond.code y cb nB rb ∈ zTg) (hy : y.cls = C ∧ y.cls ≠ "java/lang/invoke/MethodHandle" ∧ y.cls ≠ "java/lang/invoke/VarHandle" ∧ (parseMethodDescriptor y.desc).map (fun d => d.parameters.length) = some n) (hn : as.length = n)
    (hws : ws = W0 X.2.2.2.2.2.2.2.2.2.2.1 ++ wsB) (hci : zcl[ci]? = some (C, T, N)) (hj : (W0 X.2.2.2.2.2.2.2.2.2.2.1)[j0]? = some (h0, .inr (ci, vs))) (hS0 : S = as.reverse ++ .ref h0 :: st) (hcs : (st.map fun v => v.category).sum ≤ 8) (hfr : fb + 1 ≤ fr) (hlo : 8 + (nB + 11) + lb ≤ lo) (hck : ck + mcc ≤ mc) (hsk : sk + msc ≤ ms)
    (kk : ∀ v w1, Bo X.2.2.2.2.2.2.2.2.2.2.1 v w1 → zN X mc ms fr lo B nL (pc + 3) lv (v.toList ++ st) (w1 ++ wsB) (ck + mcc) (sk + msc)) : zN X mc ms fr lo B nL pc lv S ws ck sk := by
  obtain ⟨p, l, e, s, m, args, below, meth, c, D, cA, ad, A⟩ := X
  obtain ⟨⟨hx, hb, hml, hown, hts, hlk, hK, hA, hE, htr⟩, hAr⟩ := F
  subst hws; subst hS0
  intro H locs ls hl hP hD hS
  have hM := hC l htr D cA ad H.size
  have h0l : ∀ (k : Nat) (q : Nat × va_E), (W0 cA)[k]? = some q → (W0 cA ++ wsB)[k]? = some q := fun k q h => by rw [List.getElem?_append_left (List.getElem?_eq_some_iff.mp h).1]; exact h
  have hP1 : va_P D zcl (W0 cA) H := fun k q h => hP _ q (h0l k q h)
  have hD1 : va_D A (W0 cA) := ⟨fun i j x y hi hj h => hD.1 i j x y (h0l i x hi) (h0l j y hj) h, fun k q h => hD.2 _ q (h0l k q h)⟩
  have hAA : ∀ q, va_A (W0 cA) H.size q → A q := by
    rintro q (⟨k, e, h⟩ | h)
    · exact hD1.2 k _ h
    · exact hA q (Nat.le_trans hS.1 h)
  have hG : GoodIn zTg (wsV own idx C y (.code y cb nB rb :: zTg)) := zgood fun w hw' => by
    obtain ⟨w1, w2, w3, w4, w5⟩ := hw
    unfold wsV at hw'
    rcases List.mem_append.mp hw' with h | h
    · simp only [List.mem_cons, List.not_mem_nil, or_false] at h
      rcases h with rfl | rfl | rfl | rfl <;> assumption
    · rcases List.mem_cons.mp h with rfl | h
      · exact w5
      · exact h
  refine zx_new (va_runV (As := as) (rest := st) ⟨hx, hb, hml, hown, hts⟩ hM (cwV n hts hG rfl rfl rfl hy ⟨hfr, hlo⟩) ⟨zAlP_blind, va_recv hK hP1 hci hj, fun U hU hW => ⟨rfl, by rw [hU], by rw [hU]; exact hP1, va_K.moved hW.alike hK, hD1.weaken fun _ _ _ _ => trivial, by rw [hU]; exact zEv.warm hW ((hE.kept hS.2.1).narrow hAA fun _ => rfl), hAr.moved hW.alike⟩⟩ rfl hn hl.1 rfl (by show 2 * 0 + _ ≤ 8; omega) hd ⟨hck, hsk⟩) hS (fun q _ h => hAA q h) hAA fun v w1 H1 locs1 hB hP2 hD2 hz hk hS1 => ?_
  obtain ⟨a1, a2⟩ := zy_beside hP hD hk hAA hP2 hD2
  exact kk v w1 hB H1 locs1 ls hl a1 a2 hS1
theorem zn_callS (F : zLr X cc nL own) (hC : zAl y cb nB rb fb lb mcc msc as W0 Bo) (hd : decode cc pc = .ok (.invokestatic idx, 3))
    (hw : Cond.methodLink own idx y ∈ zTg ∧ Cond.static y ∈ zTg ∧ Cond.initialized y.cls ∈ zTg ∧ Cond.code y cb nB rb ∈ zTg) (hy : y.cls ≠ "java/lang/invoke/MethodHandle" ∧ y.cls ≠ "java/lang/invoke/VarHandle" ∧ (parseMethodDescriptor y.desc).map (fun d => d.parameters.length) = some n) (hn : as.length = n)
    (hws : ws = W0 X.2.2.2.2.2.2.2.2.2.2.1 ++ wsB) (hS0 : S = as.reverse ++ st) (hcs : (st.map fun v => v.category).sum ≤ 8) (hfr : fb + 1 ≤ fr) (hlo : 8 + (nB + 11) + lb ≤ lo) (hck : ck + mcc ≤ mc) (hsk : sk + msc ≤ ms)
    (kk : ∀ v w1, Bo X.2.2.2.2.2.2.2.2.2.2.1 v w1 → zN X mc ms fr lo B nL (pc + 3) lv (v.toList ++ st) (w1 ++ wsB) (ck + mcc) (sk + msc)) : zN X mc ms fr lo B nL pc lv S ws ck sk := by
  obtain ⟨p, l, e, s, m, args, below, meth, c, D, cA, ad, A⟩ := X
  obtain ⟨⟨hx, hb, hml, hown, hts, hlk, hK, hA, hE, htr⟩, hAr⟩ := F
  subst hws; subst hS0
  intro H locs ls hl hP hD hS
  have hM := hC l htr D cA ad H.size
  have h0l : ∀ (k : Nat) (q : Nat × va_E), (W0 cA)[k]? = some q → (W0 cA ++ wsB)[k]? = some q := fun k q h => by rw [List.getElem?_append_left (List.getElem?_eq_some_iff.mp h).1]; exact h
  have hP1 : va_P D zcl (W0 cA) H := fun k q h => hP _ q (h0l k q h)
  have hD1 : va_D A (W0 cA) := ⟨fun i j x y hi hj h => hD.1 i j x y (h0l i x hi) (h0l j y hj) h, fun k q h => hD.2 _ q (h0l k q h)⟩
  have hAA : ∀ q, va_A (W0 cA) H.size q → A q := by
    rintro q (⟨k, e, h⟩ | h)
    · exact hD1.2 k _ h
    · exact hA q (Nat.le_trans hS.1 h)
  have hG : GoodIn zTg (va_wsS own idx y (.code y cb nB rb :: zTg)) := zgood fun w hw' => by
    obtain ⟨w1, w2, w3, w4⟩ := hw
    unfold va_wsS at hw'
    rcases List.mem_append.mp hw' with h | h
    · simp only [List.mem_cons, List.not_mem_nil, or_false] at h
      rcases h with rfl | rfl | rfl <;> assumption
    · rcases List.mem_cons.mp h with rfl | h
      · exact w4
      · exact h
  refine zx_new (va_runS (As := as) (rest := st) ⟨hx, hb, hml, hown, hts⟩ hM (va_cwS n hts hG rfl rfl rfl hy ⟨hfr, hlo⟩) ⟨zAlP_blind, fun U hU hW => ⟨rfl, by rw [hU], by rw [hU]; exact hP1, va_K.moved hW.alike hK, hD1.weaken fun _ _ _ _ => trivial, by rw [hU]; exact zEv.warm hW ((hE.kept hS.2.1).narrow hAA fun _ => rfl), hAr.moved hW.alike⟩⟩ rfl hn hl.1 rfl (by show 2 * 0 + _ ≤ 8; omega) hd ⟨hck, hsk⟩) hS (fun q _ h => hAA q h) hAA fun v w1 H1 locs1 hB hP2 hD2 hz hk hS1 => ?_
  obtain ⟨a1, a2⟩ := zy_beside hP hD hk hAA hP2 hD2
  exact kk v w1 hB H1 locs1 ls hl a1 a2 hS1
end ZNA
