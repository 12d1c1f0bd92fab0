/-! ===== throws, over lists of cells ===== -/
def zXt (X : zX) (hh : List (Nat × Nat × Nat × Nat)) : Prop := match X with
  | (p, l, e, s, m, args, below, meth, c, D, cA, ad, A) => c.exceptionTable.toList.map (fun h => (h.startPc, h.endPc, h.handlerPc, h.catchType)) = hh
/-- an E is on its way, thrown by what stands at pc -/
def zE (X : zX) (mc ms fr lo : Nat) (B : State → Prop) (nL pc : Nat) (lv : List (Nat × Value)) (ws : va_W) (ck sk : Nat) (E : String) : Prop := match X with
  | (p, l, e, s, m, args, below, meth, c, D, cA, ad, A) => ∀ (H : Heap) (locs : List Loc) (ls : Array Slot) (ce : Cell) (q9 : Addr) (rest : List Value), lv_has ls nL lv → va_P D zcl ws H → va_D A ws → va_S A s.heap H locs → H[q9]? = some ce → ce.vm = .none → s.vm.findClass E = some ce.cls →
      vx_W p l e { frames := fr, cells := mc, slots := ms, locals := lo } s m args below meth c H locs ck sk B (F0 m pc ls rest) q9
def zAx (y : MethodName) (cb : ByteArray) (nB : Nat) (rb : Option FieldType) (fb lb mc ms : Nat) (as : List Value) (W0 : (Nat → ClassId) → va_W) (E : String) (Wx : (Nat → ClassId) → va_W) : Prop := ∀ (l : Launch), l.stackTraces = false → ∀ (D : va_G) (cA : Nat → ClassId) (ad : zR → Nat) (sz : Nat),
  vx_Met l y (.code y cb nB rb :: zTg) { frames := fb, cells := mc, slots := ms, locals := lb } (zAlP D cA ad (W0 cA) as sz) zNo (fun E' st t => E' = E ∧ va_P D zcl (Wx cA) t.heap ∧ va_D (va_A (W0 cA) sz) (Wx cA) ∧ va_F (va_A (W0 cA) sz) st t) mc ms (va_A (W0 cA) sz)
theorem zAx_of_zMet {y : MethodName} {cb : ByteArray} {nB fb lb : Nat} {rb : Option FieldType} {Rg : List zD} {as : List zV} {Ms Ms' : List zM} {E : String} (h : zMet y cb nB rb fb lb Rg as Ms (.inr E, Ms')) (hl : Rg.length ≤ 100) (hlk : ∀ r ∈ Rg, ∀ x ∈ r.2, x < 100) (has : ∀ x ∈ as, ∀ q, x = .inl q → q.1 < 100) (ad1 : zR → Nat) :
    zAx y cb nB rb fb lb 1 6 (as.map (zt ad1)) (fun cA => zwl cA ad1 Rg Ms) E (fun cA => zwl cA ad1 Rg Ms') := by
  intro l htr D cA ad sz
  have h1 := h l htr D cA (fun q => if q.1 < 100 then ad1 q else ad q) sz
  dsimp only at h1
  have had : ∀ q : zR, q.1 < 100 → (fun q : zR => if q.1 < 100 then ad1 q else ad q) q = ad1 q := fun q hq => if_pos hq
  have hw : ∀ Ms, zwl cA (fun q => if q.1 < 100 then ad1 q else ad q) Rg Ms = zwl cA ad1 Rg Ms := fun Ms => zwl_cong hl hlk had
  have ht : ∀ x : zV, (∀ q, x = .inl q → q.1 < 100) → zt (fun q => if q.1 < 100 then ad1 q else ad q) x = zt ad1 x := by
    intro x hx
    rcases x with q | x | x
    · exact congrArg Value.ref (had q (hx q rfl))
    · rfl
    · rfl
  have hta : as.map (zt fun q => if q.1 < 100 then ad1 q else ad q) = as.map (zt ad1) := List.map_congr_left fun x hx => ht x (has x hx)
  intro p e ha hc hcl s m args below hs hS hP hK
  have hP0 := hP
  obtain ⟨q0, q1, q2, q3, q4, q5, q6⟩ := hP
  obtain ⟨n, o, h1, h2, h3, h4⟩ := h1 p e ha hc hcl s m args below hs hS (by
    refine ⟨by rw [hta]; exact q0, q1, by rw [hw]; exact q2, q3, by rw [hw]; exact q4, ?_⟩
    rw [hw]
    exact q5.narrow (fun _ h => h) fun j => by dsimp only; rw [if_neg (by omega)]) hK
  refine ⟨n, o, h1, h2, h3, ?_⟩
  rcases h4 with ⟨hno, -⟩ | ⟨q, hq, E', ce, L, ⟨g1, g2, g3⟩, g4⟩
  · exact hno.elim
  · rw [hw] at g2 g3 g4
    exact Or.inr ⟨q, hq, E', ce, L, ⟨g1, g2, zw_D _ q4.self, g3⟩, g4⟩
section ZNX
variable {X : zX} {cc : ByteArray} {nL : Nat} {own : String} {mc ms fr lo pc ck sk : Nat} {B : State → Prop} {lv : List (Nat × Value)} {S st as : List Value} {ws wsB : va_W}
variable {y : MethodName} {cb : ByteArray} {nB fb lb mcc msc idx n : Nat} {rb : Option FieldType} {C E : String} {W0 Wx : (Nat → ClassId) → va_W} {Bo : (Nat → ClassId) → Option Value → va_W → Prop}
theorem zn_callX (F : zLr X cc nL own) {h0 j0 ci N : Nat} {T : u_T} {vs : List Value} (hC : zAx y cb nB rb fb lb mcc msc (.ref h0 :: as) W0 E Wx) (hd : decode cc pc = .ok (.invokevirtual idx, 3))
    (hw : Cond.methodLink own idx y ∈ zTg ∧ Cond.instanceMethod y ∈ zTg ∧ Cond.selects C y y ∈ zTg ∧ Cond.initialized C ∈ zTg ∧ Cond.code y cb nB rb ∈ zTg) (hy : y.cls = C ∧ y.cls ≠ "java/lang/invoke/MethodHandle" ∧ y.cls ≠ "java/lang/invoke/VarHandle" ∧ (parseMethodDescriptor y.desc).map (fun d => d.parameters.length) = some n) (hn : as.length = n)
    (hws : ws = W0 X.2.2.2.2.2.2.2.2.2.2.1 ++ wsB) (hci : zcl[ci]? = some (C, T, N)) (hj : (W0 X.2.2.2.2.2.2.2.2.2.2.1)[j0]? = some (h0, .inr (ci, vs))) (hS0 : S = as.reverse ++ .ref h0 :: st) (hcs : (st.map fun v => v.category).sum ≤ 8) (hfr : fb + 1 ≤ fr) (hlo : 8 + (nB + 11) + lb ≤ lo) (hck : ck + mcc ≤ mc) (hsk : sk + msc ≤ ms)
    (kk : zE X mc ms fr lo B nL pc lv (Wx X.2.2.2.2.2.2.2.2.2.2.1 ++ wsB) (ck + mcc) (sk + msc) E) : zN X mc ms fr lo B nL pc lv S ws ck sk := by
  obtain ⟨p, l, e, s, m, args, below, meth, c, D, cA, ad, A⟩ := X
  obtain ⟨⟨hx, hb, hml, hown, hts, hlk, hK, hA, hE, htr⟩, hAr⟩ := F
  subst hws; subst hS0
  intro H locs ls hl hP hD hS
  have hM := hC l htr D cA ad H.size
  have h0l : ∀ (k : Nat) (q : Nat × va_E), (W0 cA)[k]? = some q → (W0 cA ++ wsB)[k]? = some q := fun k q h => by rw [List.getElem?_append_left (List.getElem?_eq_some_iff.mp h).1]; exact h
  have hP1 : va_P D zcl (W0 cA) H := fun k q h => hP _ q (h0l k q h)
  have hD1 : va_D A (W0 cA) := ⟨fun i j x y hi hj h => hD.1 i j x y (h0l i x hi) (h0l j y hj) h, fun k q h => hD.2 _ q (h0l k q h)⟩
  have hAA : ∀ q, va_A (W0 cA) H.size q → A q := by
    rintro q (⟨k, e, h⟩ | h)
    · exact hD1.2 k _ h
    · exact hA q (Nat.le_trans hS.1 h)
  have hG : GoodIn zTg (wsV own idx C y (.code y cb nB rb :: zTg)) := zgood fun w hw' => by
    obtain ⟨w1, w2, w3, w4, w5⟩ := hw
    unfold wsV at hw'
    rcases List.mem_append.mp hw' with h | h
    · simp only [List.mem_cons, List.not_mem_nil, or_false] at h
      rcases h with rfl | rfl | rfl | rfl <;> assumption
    · rcases List.mem_cons.mp h with rfl | h
      · exact w5
      · exact h
  have hr := vx_runV (e := e) (below := below) (meth := meth) (H := H) (locs := locs) (cells := ck) (slots := sk) (g := F0 m pc ls (as.reverse ++ .ref h0 :: st)) (As := as) (rest := st) ⟨hx, hb, hml, hown, hts⟩ hM (cwV (R := { frames := fr, cells := mc, slots := ms, locals := lo }) n hts hG rfl rfl rfl hy ⟨hfr, hlo⟩) ⟨zAlP_blind, va_recv hK hP1 hci hj, fun U hU hW => ⟨rfl, by rw [hU], by rw [hU]; exact hP1, va_K.moved hW.alike hK, hD1.weaken fun _ _ _ _ => trivial, by rw [hU]; exact zEv.warm hW ((hE.kept hS.2.1).narrow hAA fun _ => rfl), hAr.moved hW.alike⟩⟩ rfl hn hl.1 rfl (by show 2 * 0 + _ ≤ 8; omega) hd ⟨hck, hsk⟩
  intro T hT Xs
  rcases hr T hT Xs with ⟨w, st₀, t, T', L, h0, X', hL, e1, e2, hno, st⟩ | ⟨q, st₀, t, T', L, E', ce, h0, X', hL, e1, e2, ⟨rfl, hP2, hD2, hF⟩, hce, hcv, hcl, st⟩
  · exact hno.elim
  · obtain ⟨k1, k2, k3⟩ := vx_keep h0 e1 hS (fun q _ h => hAA q h) hAA hL hF
    rw [← e1] at hP2 hce
    obtain ⟨a1, a2⟩ := zy_beside hP hD k2 hAA hP2 hD2
    obtain ⟨t2, a3, b3⟩ := kk T'.heap (locs ++ L) ls ce q _ hl a1 a2 k3 hce hcv hcl T' rfl X'
    exact ⟨t2, st.trans a3, b3⟩
/-- the handler that takes it -/
theorem zE_catch (F : zLr X cc nL own) {hh pre suf : List (Nat × Nat × Nat × Nat)} {x : Nat × Nat × Nat × Nat} {name : String} (hT : zXt X hh) (hsp : hh = pre ++ x :: suf) (hpass : ∀ z ∈ pre, z.2.2.2 ≠ 0 ∧ ∃ nm : String, Cond.classLink own z.2.2.2 nm ∈ zTg ∧ (E, nm) ∈ znc) (hx0 : x.1 ≤ pc ∧ pc < x.2.1 ∧ x.2.2.2 ≠ 0) (hlink : Cond.classLink own x.2.2.2 name ∈ zTg) (hcast : Cond.castable E name ∈ zNws)
    (kk : ∀ q9 : Nat, zN X mc ms fr lo B nL x.2.2.1 lv [.ref q9] ws ck sk) : zE X mc ms fr lo B nL pc lv ws ck sk E := by
  obtain ⟨p, l, e, s, m, args, below, meth, c, D, cA, ad, A⟩ := X
  obtain ⟨⟨hx, hb, hml, hown, hts, hlk, hK, hA, hE, htr⟩, hAr⟩ := F
  intro H locs ls ce q9 rest hl hP hD hS hce hcv hcl
  unfold zXt at hT
  rw [hsp] at hT
  obtain ⟨p1, p2, hs1, hs2, hs3⟩ := List.map_eq_append_iff.mp hT
  obtain ⟨x1, p3, rfl, hs4, hs5⟩ := List.map_eq_cons_iff.mp hs3
  have hc4 : x1.catchType = x.2.2.2 := by rw [← hs4]
  have hc3 : x1.handlerPc = x.2.2.1 := by rw [← hs4]
  refine vx_catch hown p1 x1 p3 hs1 (fun z hz => ?_) ?_ (by rw [hc4]; exact hx0.2.2) (by rw [hc4]; exact hts _ hlink) (va_Nw.use rfl (hE.2.2.1 _ hcast)) hce hcv hcl (by rw [hc3]; exact kk q9 H locs ls hl hP hD hS)
  · have hzm : (z.startPc, z.endPc, z.handlerPc, z.catchType) ∈ pre := by rw [← hs2]; exact List.mem_map.mpr ⟨z, hz, rfl⟩
    obtain ⟨g1, nm, g2, g3⟩ := hpass _ hzm
    exact Or.inr ⟨g1, nm, hts _ g2, hAr.2.2 _ g3⟩
  · have hc1 : x1.startPc = x.1 := by rw [← hs4]
    have hc2 : x1.endPc = x.2.1 := by rw [← hs4]
    show (decide (x1.startPc ≤ pc) && decide (pc < x1.endPc)) = true
    rw [hc1, hc2, decide_eq_true hx0.1, decide_eq_true hx0.2.1]
    rfl
end ZNX
/-- a method with handlers that returns, whatever comes -/
def zNX (X : zX) (mc ms : Nat) (B : Option Value → va_W → Prop) : State → Prop := match X with
  | (p, l, e, s, m, args, below, meth, c, D, cA, ad, A) => vx_MQ below (zNq D A B) (fun _ _ _ => False) args s mc ms A
theorem zn_toX {X : zX} {mc ms fr lo nL pc ck sk : Nat} {B : Option Value → va_W → Prop} {lv : List (Nat × Value)} {st : List Value} {ws : va_W} (h : zN X mc ms fr lo (zNQ X mc ms B) nL pc lv st ws ck sk) : zN X mc ms fr lo (zNX X mc ms B) nL pc lv st ws ck sk := by
  obtain ⟨p, l, e, s, m, args, below, meth, c, D, cA, ad, A⟩ := X
  exact fun H locs ls hl hP hD hS => vx_ret (h H locs ls hl hP hD hS)
def zAw (y : MethodName) (cb : ByteArray) (nB : Nat) (rb : Option FieldType) (hh : List (Nat × Nat × Nat × Nat)) (fb lb mc ms : Nat) (as : List Value) (W0 : (Nat → ClassId) → va_W) (Bo : (Nat → ClassId) → Option Value → va_W → Prop) : Prop := ∀ (l : Launch), l.stackTraces = false → ∀ (D : va_G) (cA : Nat → ClassId) (ad : zR → Nat) (sz : Nat),
  vx_Met l y (.codeWith y cb nB rb hh :: zTg) { frames := fb, cells := mc, slots := ms, locals := lb } (zAlP D cA ad (W0 cA) as sz) (zNq D (va_A (W0 cA) sz) (Bo cA)) (fun _ _ _ => False) mc ms (va_A (W0 cA) sz)
theorem zAw_of {y : MethodName} {cb : ByteArray} {nB fb lb mc ms : Nat} {rb : Option FieldType} {hh : List (Nat × Nat × Nat × Nat)} {as : List Value} {W0 : (Nat → ClassId) → va_W} {Bo : (Nat → ClassId) → Option Value → va_W → Prop} (hy : plainName y.cls = true) (hnB : (lg_sl as).length ≤ nB)
    (body : ∀ (X : zX), zLr X cb nB y.cls → zRt X rb → zXt X hh → zN X mc ms fb lb (zNX X mc ms (Bo X.2.2.2.2.2.2.2.2.2.2.1)) nB 0 (lv_args 0 as) [] (W0 X.2.2.2.2.2.2.2.2.2.2.1) 0 0) : zAw y cb nB rb hh fb lb mc ms as W0 Bo := by
  intro l htr D cA ad sz
  refine vx_ofWH hy rfl ?_
  intro p e s m args below meth c s₁ B hml hv
  obtain ⟨rfl, hsz0, hP, hK, hD, hE, hAr⟩ := hv
  have hts := atoms_spec (ws := .codeWith y cb nB rb hh :: zTg) B.pre
  have hext : c.exceptionTable.toList.map (fun h => (h.startPc, h.endPc, h.handlerPc, h.catchType)) = hh := by
    obtain ⟨m9, meth9, c9, h0, h1, h2, -, -, h7, -⟩ := Cond.codeWith_spec (hts _ List.mem_cons_self)
    cases Option.some.inj (h0.symm.trans B.named)
    cases Option.some.inj (h1.symm.trans B.method)
    cases Option.some.inj (h2.symm.trans (Stand.of_body B).code)
    exact h7
  have F : zLr (p, l, e, s, m, as.toArray, below, meth, c, D, cA, ad, va_A (W0 cA) sz) cb nB y.cls :=
    ⟨⟨B.exec, B.bytes, hml, findClass_of_methodNamed B.named, fun w hw => hts w (List.mem_cons_of_mem _ hw), B.notSynchronized, hK, fun q h => Or.inr (by rw [← hsz0]; exact h), hE, htr⟩, hAr⟩
  have hl := lv_entry as (n := nB) hnB
  rw [lg_entry_eq]
  exact body _ F B.returns hext s.heap [] _ hl hP hD.self va_S.rf
section ZNW
variable {X : zX} {cc : ByteArray} {nL : Nat} {own : String} {mc ms fr lo pc ck sk : Nat} {B : State → Prop} {lv : List (Nat × Value)} {S st as : List Value} {ws wsB : va_W}
variable {y : MethodName} {cb : ByteArray} {nB fb lb mcc msc idx n : Nat} {rb : Option FieldType} {hh : List (Nat × Nat × Nat × Nat)} {W0 : (Nat → ClassId) → va_W} {Bo : (Nat → ClassId) → Option Value → va_W → Prop}
theorem zn_callW (F : zLr X cc nL own) (hC : zAw y cb nB rb hh fb lb mcc msc as W0 Bo) (hd : decode cc pc = .ok (.invokestatic idx, 3))
    (hw : Cond.methodLink own idx y ∈ zTg ∧ Cond.static y ∈ zTg ∧ Cond.initialized y.cls ∈ zTg ∧ Cond.codeWith y cb nB rb hh ∈ zTg) (hy : y.cls ≠ "java/lang/invoke/MethodHandle" ∧ y.cls ≠ "java/lang/invoke/VarHandle" ∧ (parseMethodDescriptor y.desc).map (fun d => d.parameters.length) = some n) (hn : as.length = n)
    (hws : ws = W0 X.2.2.2.2.2.2.2.2.2.2.1 ++ wsB) (hS0 : S = as.reverse ++ st) (hcs : (st.map fun v => v.category).sum ≤ 8) (hfr : fb + 1 ≤ fr) (hlo : 8 + (nB + 11) + lb ≤ lo) (hck : ck + mcc ≤ mc) (hsk : sk + msc ≤ ms)
    (kk : ∀ v w1, Bo X.2.2.2.2.2.2.2.2.2.2.1 v w1 → zN X mc ms fr lo B nL (pc + 3) lv (v.toList ++ st) (w1 ++ wsB) (ck + mcc) (sk + msc)) : zN X mc ms fr lo B nL pc lv S ws ck sk := by
  obtain ⟨p, l, e, s, m, args, below, meth, c, D, cA, ad, A⟩ := X
  obtain ⟨⟨hx, hb, hml, hown, hts, hlk, hK, hA, hE, htr⟩, hAr⟩ := F
  subst hws; subst hS0
  intro H locs ls hl hP hD hS
  have hM := hC l htr D cA ad H.size
  have h0l : ∀ (k : Nat) (q : Nat × va_E), (W0 cA)[k]? = some q → (W0 cA ++ wsB)[k]? = some q := fun k q h => by rw [List.getElem?_append_left (List.getElem?_eq_some_iff.mp h).1]; exact h
  have hP1 : va_P D zcl (W0 cA) H := fun k q h => hP _ q (h0l k q h)
  have hD1 : va_D A (W0 cA) := ⟨fun i j x y hi hj h => hD.1 i j x y (h0l i x hi) (h0l j y hj) h, fun k q h => hD.2 _ q (h0l k q h)⟩
  have hAA : ∀ q, va_A (W0 cA) H.size q → A q := by
    rintro q (⟨k, e, h⟩ | h)
    · exact hD1.2 k _ h
    · exact hA q (Nat.le_trans hS.1 h)
  have hG : GoodIn zTg (va_wsS own idx y (.codeWith y cb nB rb hh :: zTg)) := zgood fun w hw' => by
    obtain ⟨w1, w2, w3, w4⟩ := hw
    unfold va_wsS at hw'
    rcases List.mem_append.mp hw' with h | h
    · simp only [List.mem_cons, List.not_mem_nil, or_false] at h
      rcases h with rfl | rfl | rfl <;> assumption
    · rcases List.mem_cons.mp h with rfl | h
      · exact w4
      · exact h
  have hr := vx_runSX (e := e) (below := below) (meth := meth) (H := H) (locs := locs) (cells := ck) (slots := sk) (g := F0 m pc ls (as.reverse ++ st)) (As := as) (rest := st) ⟨hx, hb, hml, hown, hts⟩ hM (vx_cwSW (R := { frames := fr, cells := mc, slots := ms, locals := lo }) n hts hG rfl rfl rfl hy ⟨hfr, hlo⟩) ⟨zAlP_blind, fun U hU hW => ⟨rfl, by rw [hU], by rw [hU]; exact hP1, va_K.moved hW.alike hK, hD1.weaken fun _ _ _ _ => trivial, by rw [hU]; exact zEv.warm hW ((hE.kept hS.2.1).narrow hAA fun _ => rfl), hAr.moved hW.alike⟩⟩ rfl hn hl.1 rfl (by show 2 * 0 + _ ≤ 8; omega) hd ⟨hck, hsk⟩
  intro T hT Xs
  rcases hr T hT Xs with ⟨w, st₀, t, T', L, h0, X', hL, e1, e2, ⟨v, hv, ⟨w1, hB, hP2, hD2⟩, hF⟩, st⟩ | ⟨q, st₀, t, T', L, E', ce, h0, X', hL, e1, e2, hno, hce, hcv, hcl, st⟩
  · cases hv
    obtain ⟨k1, k2, k3⟩ := vx_keep h0 e1 hS (fun q _ h => hAA q h) hAA hL hF
    rw [← e1] at hP2
    obtain ⟨a1, a2⟩ := zy_beside hP hD k2 hAA hP2 hD2
    obtain ⟨t2, a3, b3⟩ := kk _ w1 hB T'.heap (locs ++ L) ls hl a1 a2 k3 T' rfl X'
    exact ⟨t2, st t2 a3, b3⟩
  · exact hno.elim
end ZNW
