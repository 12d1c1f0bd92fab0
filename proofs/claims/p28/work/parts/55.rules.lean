/-! ===== the law's rules, and short forms ===== -/
def zScr (X : zX) (b L : Nat) (xs : Nat → Int32) : Prop := match X with
  | (p, l, e, s, m, args, below, meth, c, D, cA, ad, A) => va_X b L xs s s.heap ∧ b < s.heap.size ∧ ¬ A b
def zbl (x : Int32) : Int32 := if x = 0 then 0 else 1
section ZLW
variable {X : zX} {cc : ByteArray} {nL : Nat} {own : String} {mc ms fr lo pc ck sk : Nat} {B : State → Prop} {lv lv' : List (Nat × Value)} {st st' : List Value} {ws : va_W}
theorem zn_sld (F : zLr X cc nL own) {b L : Nat} {xs : Nat → Int32} (hX : zScr X b L xs) {i : Int32} {jn : Nat} (hd : decode cc pc = .ok (.iaload, 1)) (hin : vp_in i L) (hjn : i.toNatClampNeg = jn) (kk : zN X mc ms fr lo B nL (pc + 1) lv (.int (xs jn) :: st) ws ck sk) : zN X mc ms fr lo B nL pc lv (.int i :: .ref b :: st) ws ck sk := by
  obtain ⟨p, l, e, s, m, args, below, meth, c, D, cA, ad, A⟩ := X
  obtain ⟨⟨hx, hb, hml, hown, hts, hlk, hK, hA, hE, htr⟩, hAr⟩ := F
  obtain ⟨h1, h2, h3⟩ := hX
  subst hjn
  exact fun H locs ls hl hP hD hS => va_sld hx hb h1 h2 h3 hS hin hd (kk H locs ls hl hP hD hS)
theorem zn_slen (F : zLr X cc nL own) {b L : Nat} {xs : Nat → Int32} (hX : zScr X b L xs) {v : Int32} (hd : decode cc pc = .ok (.arraylength, 1)) (hv : Int32.ofNat L = v) (kk : zN X mc ms fr lo B nL (pc + 1) lv (.int v :: st) ws ck sk) : zN X mc ms fr lo B nL pc lv (.ref b :: st) ws ck sk := by
  obtain ⟨p, l, e, s, m, args, below, meth, c, D, cA, ad, A⟩ := X
  obtain ⟨⟨hx, hb, hml, hown, hts, hlk, hK, hA, hE, htr⟩, hAr⟩ := F
  obtain ⟨h1, h2, h3⟩ := hX
  subst hv
  exact fun H locs ls hl hP hD hS => va_slen hx hb h1 h2 h3 hS hd (kk H locs ls hl hP hD hS)
theorem zn_pick (ks : List Nat) (h : lv_pick lv ks = lv') (kk : zN X mc ms fr lo B nL pc lv' st ws ck sk) : zN X mc ms fr lo B nL pc lv st ws ck sk := by
  obtain ⟨p, l, e, s, m, args, below, meth, c, D, cA, ad, A⟩ := X
  exact fun H locs ls hl hP hD hS => kk H locs ls (lv_sub hl ks h) hP hD hS
theorem zn_wid {ck' sk' : Nat} (h1 : ck ≤ ck') (h2 : sk ≤ sk') (kk : zN X mc ms fr lo B nL pc lv st ws ck' sk') : zN X mc ms fr lo B nL pc lv st ws ck sk := by
  obtain ⟨p, l, e, s, m, args, below, meth, c, D, cA, ad, A⟩ := X
  exact fun H locs ls hl hP hD hS => W.widen h1 h2 (kk H locs ls hl hP hD hS)
theorem zn_st (h : st = st') (kk : zN X mc ms fr lo B nL pc lv st' ws ck sk) : zN X mc ms fr lo B nL pc lv st ws ck sk := by
  rw [h]
  exact kk
theorem zn_laddv (F : zLr X cc nL own) {x y v : Int64} (hd : decode cc pc = .ok (.ladd, 1)) (hv : x + y = v) (kk : zN X mc ms fr lo B nL (pc + 1) lv (.long v :: st) ws ck sk) : zN X mc ms fr lo B nL pc lv (.long y :: .long x :: st) ws ck sk := by
  subst hv
  exact zn_ladd F hd kk
theorem zn_lmulv (F : zLr X cc nL own) {x y v : Int64} (hd : decode cc pc = .ok (.lmul, 1)) (hv : x * y = v) (kk : zN X mc ms fr lo B nL (pc + 1) lv (.long v :: st) ws ck sk) : zN X mc ms fr lo B nL pc lv (.long y :: .long x :: st) ws ck sk := by
  subst hv
  exact zn_lmul F hd kk
theorem zn_iaddv (F : zLr X cc nL own) {x y v : Int32} (hd : decode cc pc = .ok (.iadd, 1)) (hv : x + y = v) (kk : zN X mc ms fr lo B nL (pc + 1) lv (.int v :: st) ws ck sk) : zN X mc ms fr lo B nL pc lv (.int y :: .int x :: st) ws ck sk := by
  subst hv
  exact zn_iadd F hd kk
/-- 'x != 0' as a number -/
theorem zn_bool (F : zLr X cc nL own) {x : Int32} {p1 p2 p3 p4 : Nat} (h1 : decode cc pc = .ok (.ifCond .eq 7, 3)) (h2 : decode cc p1 = .ok (.iconst 1, 1)) (h3 : decode cc p2 = .ok (.goto 4, 3)) (h4 : decode cc p3 = .ok (.iconst 0, 1)) (hp : p1 = pc + 3 ∧ p2 = pc + 4 ∧ p3 = pc + 7 ∧ p4 = pc + 8) (kk : zN X mc ms fr lo B nL p4 lv (.int (zbl x) :: st) ws ck sk) : zN X mc ms fr lo B nL pc lv (.int x :: st) ws ck sk := by
  obtain ⟨rfl, rfl, rfl, rfl⟩ := hp
  unfold zbl at kk
  refine zn_if_eq F (tgt := pc + 7) h1 (by omega) (fun h => ?_) (fun h => ?_)
  · rw [if_pos h] at kk
    exact zn_iconst F (v := 0) h4 (by decide) kk
  · rw [if_neg h] at kk
    exact zn_iconst F (v := 1) h2 (by decide) (zn_goto F (tgt := pc + 8) h3 (by omega) kk)
theorem zas_aux (vm : Vm) (n : Nat) (c : ClassId) : vm.assignableAux (n + 1) c c = true := by
  rw [Vm.assignableAux]
  simp only [beq_self_eq_true, Bool.true_or]
theorem zas_self (vm : Vm) (c : ClassId) : vm.assignable c c = true := zas_aux vm 255 c
/-- a row of ints into a row of rows -/
theorem zn_aastI (F : zLr X cc nL own) {a v q0 qk n k : Nat} {g : Nat → Int32} {f : Nat → Option Nat} {i : Int32} {jn : Nat} {ws' : va_W} (hd : decode cc pc = .ok (.aastore, 1)) (ha : ws[q0]? = some (a, .inl (X.2.2.2.2.2.2.2.2.2.2.1 4, n, .inr (.inr (.inr (.inr f)))))) (hv : ws[qk]? = some (v, .inl (X.2.2.2.2.2.2.2.2.2.2.1 0, k, .inl g))) (hin0 : vp_in i n) (hjn : i.toNatClampNeg = jn) (hws : ws.set q0 (a, .inl (X.2.2.2.2.2.2.2.2.2.2.1 4, n, .inr (.inr (.inr (.inr (va_up f jn (some v))))))) = ws') (kk : zN X mc ms fr lo B nL (pc + 1) lv st ws' ck sk) : zN X mc ms fr lo B nL pc lv (.ref v :: .int i :: .ref a :: st) ws ck sk := by
  obtain ⟨p, l, e, s, m, args, below, meth, c, D, cA, ad, A⟩ := X
  obtain ⟨⟨hx, hb, hml, hown, hts, hlk, hK, hA, hE, htr⟩, hAr⟩ := F
  subst hjn; subst hws
  intro H locs ls hl hP hD hS
  have hlt : i.toNatClampNeg < n := Nat.not_le.mp fun q => hin0 (Or.inr q)
  have h0 : ¬ i < 0 := fun q => hin0 (Or.inl q)
  have e0 : s.vm.findClass ("[" ++ FieldType.int.toString) = some (cA 0) := (hK.2 0 _ (ztl_at (by decide))).2
  have e1 : s.vm.findClass ("[" ++ (FieldType.array .int).toString) = some (cA 4) := (hK.2 4 _ (ztl_at (by decide))).2
  obtain ⟨comp, c4, kA, g1, -, g3, g4, g5⟩ := Jvm.Stand.arrayOver_specB (va_AOA.use (A := args) (hAr.2.1 .int (by decide)))
  have ec : c4 = cA 4 := zcls_eq g5 e1
  have e2 : comp = cA 0 := zcls_eq g1 e0
  subst ec; subst e2
  obtain ⟨k0, hk0, -⟩ := Vm.findClass_spec e0
  refine W.aast hx hb (hP q0 _ ha) (fun q h => by cases h) (fun h => by cases h) g3 g4 rfl hk0 ⟨h0, by show _ < (arrV _ _ _).slots.size; rw [arrV_size]; exact hlt⟩ (hP qk _ hv) (fun q h => by cases h) hk0 (zas_self _ _) rfl rfl hd fun H1 e z oq => ?_
  refine kk H1 _ ls hl (hP.set hD ha ?_ oq) (hD.set ha) (hS.put z oq (hD.2 q0 _ ha))
  show H1[a]? = some (vp_cell _ _)
  rw [e]
  rw [vp_cell_q, vp_cell_q, arrV_store]
  congr 2
  funext q
  by_cases hq : q = i.toNatClampNeg
  · subst hq
    simp [updV, va_up, va_rf]
  · simp [updV, va_up, hq]
theorem zn_mabs (F : zLr X cc nL own) {x : Int32} {idx : Nat} (hd : decode cc pc = .ok (.invokestatic idx, 3)) (hw : Cond.methodLink own idx Lib.Math.abs.name ∈ zTg ∧ Cond.static Lib.Math.abs.name ∈ zTg ∧ Cond.initialized "java/lang/Math" ∈ zTg ∧ Cond.code Lib.Math.abs.name Lib.Math.abs.code 1 (some .int) ∈ zTg) (hfr : 1 ≤ fr) (hlo : (st.map fun v => v.category).sum + 13 ≤ lo) (hck : ck ≤ mc) (hsk : sk ≤ ms) (kk : zN X mc ms fr lo B nL (pc + 3) lv (.int (if 0 ≤ x then x else 0 - x) :: st) ws ck sk) : zN X mc ms fr lo B nL pc lv (.int x :: st) ws ck sk := by
  obtain ⟨p, l, e, s, m, args, below, meth, c, D, cA, ad, A⟩ := X
  obtain ⟨⟨hx, hb, hml, hown, hts, hlk, hK, hA, hE, htr⟩, hAr⟩ := F
  exact fun H locs ls hl hP hD hS => va_mabs hx hb (hml.trans hl.1.symm) hown (hts _ hw.1) (hts _ hw.2.1) (hts _ hw.2.2.1) (hts _ hw.2.2.2) hfr hlo hck hsk hd (kk H locs ls hl hP hD hS)
end ZLW
/-! ===== methods that read the script beside their cells ===== -/
def zAsP (b L : Nat) (xs : Nat → Int32) (D : va_G) (cA : Nat → ClassId) (ad : zR → Nat) (W0 : va_W) (as : List Value) (sz : Nat) : Array Value → State → Prop := va_Pc as fun U => U.heap.size = sz ∧ va_P D zcl W0 U.heap ∧ va_K D zcl (ztl cA) U ∧ va_D (fun _ => True) W0 ∧ zEv ad (va_A W0 sz) U U.heap ∧ zAr U ∧ va_X b L xs U U.heap ∧ b < sz ∧ ¬ va_A W0 sz b
def zAs (b L : Nat) (xs : Nat → Int32) (y : MethodName) (cb : ByteArray) (nB : Nat) (rb : Option FieldType) (fb lb mc ms : Nat) (as : List Value) (W0 : (Nat → ClassId) → va_W) (Bo : (Nat → ClassId) → Option Value → va_W → Prop) : Prop := ∀ (l : Launch), l.stackTraces = false → ∀ (D : va_G) (cA : Nat → ClassId) (ad : zR → Nat) (sz : Nat),
  Met l y (.code y cb nB rb :: zTg) { frames := fb, cells := mc, slots := ms, locals := lb } (zAsP b L xs D cA ad (W0 cA) as sz) (zNq D (va_A (W0 cA) sz) (Bo cA)) mc ms (va_A (W0 cA) sz)
theorem zAsP_blind {b L : Nat} {xs : Nat → Int32} {D : va_G} {cA : Nat → ClassId} {ad : zR → Nat} {W0 : va_W} {as : List Value} {sz : Nat} : FrameBlind (zAsP b L xs D cA ad W0 as sz) := by
  rintro a U g mk ⟨q0, q1, q2, q3, q4, q5, q6, q7, q8⟩
  exact ⟨q0, q1, q2, va_K.moved (u := U) (U := U.calling g mk a) (Vm.Alike.refl U.vm) q3, q4, zEv.same (s := U) (U := U.calling g mk a) rfl q5, q6.moved (s := U) (U := U.calling g mk a) (Vm.Alike.refl U.vm), va_X.moved (u := U) (U := U.calling g mk a) (Vm.Alike.refl U.vm) q7, q8⟩
theorem zAs_of {b L : Nat} {xs : Nat → Int32} {y : MethodName} {cb : ByteArray} {nB fb lb mc ms : Nat} {rb : Option FieldType} {as : List Value} {W0 : (Nat → ClassId) → va_W} {Bo : (Nat → ClassId) → Option Value → va_W → Prop} (hy : plainName y.cls = true) (hnB : (lg_sl as).length ≤ nB)
    (body : ∀ (X : zX), zLr X cb nB y.cls → zScr X b L xs → zRt X rb → zN X mc ms fb lb (zNQ X mc ms (Bo X.2.2.2.2.2.2.2.2.2.2.1)) nB 0 (lv_args 0 as) [] (W0 X.2.2.2.2.2.2.2.2.2.2.1) 0 0) : zAs b L xs y cb nB rb fb lb mc ms as W0 Bo := by
  intro l htr D cA ad sz
  refine Met.ofW (cc := cb) (maxL := nB) (ret := rb) hy rfl ?_
  intro p e s m args below meth c s₁ B hml hv
  obtain ⟨rfl, hsz0, hP, hK, hD, hE, hAr, hX1, hX2⟩ := hv
  have hts := atoms_spec (ws := .code y cb nB rb :: zTg) B.pre
  have F : zLr (p, l, e, s, m, as.toArray, below, meth, c, D, cA, ad, va_A (W0 cA) sz) cb nB y.cls :=
    ⟨⟨B.exec, B.bytes, hml, findClass_of_methodNamed B.named, fun w hw => hts w (List.mem_cons_of_mem _ hw), B.notSynchronized, hK, fun q h => Or.inr (by rw [← hsz0]; exact h), hE, htr⟩, hAr⟩
  have G : zScr (p, l, e, s, m, as.toArray, below, meth, c, D, cA, ad, va_A (W0 cA) sz) b L xs := ⟨hX1, by rw [hsz0]; exact hX2.1, hX2.2⟩
  have hl := lv_entry as (n := nB) hnB
  rw [lg_entry_eq]
  exact body _ F G B.returns s.heap [] _ hl hP hD.self va_S.rf
section ZNA
variable {X : zX} {cc : ByteArray} {nL : Nat} {own : String} {mc ms fr lo pc ck sk : Nat} {B : State → Prop} {lv : List (Nat × Value)} {S st as : List Value} {ws wsB : va_W}
variable {y : MethodName} {cb : ByteArray} {nB fb lb mcc msc idx n : Nat} {rb : Option FieldType} {C host : String} {W0 : (Nat → ClassId) → va_W} {Bo : (Nat → ClassId) → Option Value → va_W → Prop}
theorem zn_callVs (F : zLr X cc nL own) {h0 j0 ci N : Nat} {T : u_T} {vs : List Value} {b L : Nat} {xs : Nat → Int32} (hX : zScr X b L xs) (hC : zAs b L xs y cb nB rb fb lb mcc msc (.ref h0 :: as) W0 Bo) (hd : decode cc pc = .ok (.invokevirtual idx, 3))
    (hw : Cond.methodLink own idx y ∈ zTg ∧ Cond.instanceMethod y ∈ zTg ∧ Cond.selects C y y ∈ zTg ∧ Cond.initialized C ∈ zTg ∧ Cond.code y cb nB rb ∈ zTg) (hy : y.cls = C ∧ y.cls ≠ "java/lang/invoke/MethodHandle" ∧ y.cls ≠ "java/lang/invoke/VarHandle" ∧ (parseMethodDescriptor y.desc).map (fun d => d.parameters.length) = some n) (hn : as.length = n)
    (hws : ws = W0 X.2.2.2.2.2.2.2.2.2.2.1 ++ wsB) (hci : zcl[ci]? = some (C, T, N)) (hj : (W0 X.2.2.2.2.2.2.2.2.2.2.1)[j0]? = some (h0, .inr (ci, vs))) (hS0 : S = as.reverse ++ .ref h0 :: st) (hcs : (st.map fun v => v.category).sum ≤ 8) (hfr : fb + 1 ≤ fr) (hlo : 8 + (nB + 11) + lb ≤ lo) (hck : ck + mcc ≤ mc) (hsk : sk + msc ≤ ms)
    (kk : ∀ v w1, Bo X.2.2.2.2.2.2.2.2.2.2.1 v w1 → zN X mc ms fr lo B nL (pc + 3) lv (v.toList ++ st) (w1 ++ wsB) (ck + mcc) (sk + msc)) : zN X mc ms fr lo B nL pc lv S ws ck sk := by
  obtain ⟨p, l, e, s, m, args, below, meth, c, D, cA, ad, A⟩ := X
  obtain ⟨⟨hx, hb, hml, hown, hts, hlk, hK, hA, hE, htr⟩, hAr⟩ := F
  obtain ⟨x1, x2, x3⟩ := hX
  subst hws; subst hS0
  intro H locs ls hl hP hD hS
  have hM := hC l htr D cA ad H.size
  have h0l : ∀ (k : Nat) (q : Nat × va_E), (W0 cA)[k]? = some q → (W0 cA ++ wsB)[k]? = some q := fun k q h => by rw [List.getElem?_append_left (List.getElem?_eq_some_iff.mp h).1]; exact h
  have hP1 : va_P D zcl (W0 cA) H := fun k q h => hP _ q (h0l k q h)
  have hD1 : va_D A (W0 cA) := ⟨fun i j x y hi hj h => hD.1 i j x y (h0l i x hi) (h0l j y hj) h, fun k q h => hD.2 _ q (h0l k q h)⟩
  have hAA : ∀ q, va_A (W0 cA) H.size q → A q := by
    rintro q (⟨k, e, h⟩ | h)
    · exact hD1.2 k _ h
    · exact hA q (Nat.le_trans hS.1 h)
  have hG : GoodIn zTg (wsV own idx C y (.code y cb nB rb :: zTg)) := zgood fun w hw' => by
    obtain ⟨w1, w2, w3, w4, w5⟩ := hw
    unfold wsV at hw'
    rcases List.mem_append.mp hw' with h | h
    · simp only [List.mem_cons, List.not_mem_nil, or_false] at h
      rcases h with rfl | rfl | rfl | rfl <;> assumption
    · rcases List.mem_cons.mp h with rfl | h
      · exact w5
      · exact h
  refine zx_new (va_runV (As := as) (rest := st) ⟨hx, hb, hml, hown, hts⟩ hM (cwV n hts hG rfl rfl rfl hy ⟨hfr, hlo⟩) ⟨zAsP_blind, va_recv hK hP1 hci hj, fun U hU hW => ⟨rfl, by rw [hU], by rw [hU]; exact hP1, va_K.moved hW.alike hK, hD1.weaken fun _ _ _ _ => trivial, by rw [hU]; exact zEv.warm hW ((hE.kept hS.2.1).narrow hAA fun _ => rfl), hAr.moved hW.alike, by rw [hU]; exact va_X.moved hW.alike (x1.kept (hS.2.1 b x2 x3)), Nat.lt_of_lt_of_le x2 hS.1, fun z => x3 (hAA b z)⟩⟩ rfl hn hl.1 rfl (by show 2 * 0 + _ ≤ 8; omega) hd ⟨hck, hsk⟩) hS (fun q _ h => hAA q h) hAA fun v w1 H1 locs1 hB hP2 hD2 hz hk hS1 => ?_
  obtain ⟨a1, a2⟩ := zy_beside hP hD hk hAA hP2 hD2
  exact kk v w1 hB H1 locs1 ls hl a1 a2 hS1
theorem zn_callSs (F : zLr X cc nL own) {b L : Nat} {xs : Nat → Int32} (hX : zScr X b L xs) (hC : zAs b L xs y cb nB rb fb lb mcc msc as W0 Bo) (hd : decode cc pc = .ok (.invokestatic idx, 3))
    (hw : Cond.methodLink own idx y ∈ zTg ∧ Cond.static y ∈ zTg ∧ Cond.initialized y.cls ∈ zTg ∧ Cond.code y cb nB rb ∈ zTg) (hy : y.cls ≠ "java/lang/invoke/MethodHandle" ∧ y.cls ≠ "java/lang/invoke/VarHandle" ∧ (parseMethodDescriptor y.desc).map (fun d => d.parameters.length) = some n) (hn : as.length = n)
    (hws : ws = W0 X.2.2.2.2.2.2.2.2.2.2.1 ++ wsB) (hS0 : S = as.reverse ++ st) (hcs : (st.map fun v => v.category).sum ≤ 8) (hfr : fb + 1 ≤ fr) (hlo : 8 + (nB + 11) + lb ≤ lo) (hck : ck + mcc ≤ mc) (hsk : sk + msc ≤ ms)
    (kk : ∀ v w1, Bo X.2.2.2.2.2.2.2.2.2.2.1 v w1 → zN X mc ms fr lo B nL (pc + 3) lv (v.toList ++ st) (w1 ++ wsB) (ck + mcc) (sk + msc)) : zN X mc ms fr lo B nL pc lv S ws ck sk := by
  obtain ⟨p, l, e, s, m, args, below, meth, c, D, cA, ad, A⟩ := X
  obtain ⟨⟨hx, hb, hml, hown, hts, hlk, hK, hA, hE, htr⟩, hAr⟩ := F
  obtain ⟨x1, x2, x3⟩ := hX
  subst hws; subst hS0
  intro H locs ls hl hP hD hS
  have hM := hC l htr D cA ad H.size
  have h0l : ∀ (k : Nat) (q : Nat × va_E), (W0 cA)[k]? = some q → (W0 cA ++ wsB)[k]? = some q := fun k q h => by rw [List.getElem?_append_left (List.getElem?_eq_some_iff.mp h).1]; exact h
  have hP1 : va_P D zcl (W0 cA) H := fun k q h => hP _ q (h0l k q h)
  have hD1 : va_D A (W0 cA) := ⟨fun i j x y hi hj h => hD.1 i j x y (h0l i x hi) (h0l j y hj) h, fun k q h => hD.2 _ q (h0l k q h)⟩
  have hAA : ∀ q, va_A (W0 cA) H.size q → A q := by
    rintro q (⟨k, e, h⟩ | h)
    · exact hD1.2 k _ h
    · exact hA q (Nat.le_trans hS.1 h)
  have hG : GoodIn zTg (va_wsS own idx y (.code y cb nB rb :: zTg)) := zgood fun w hw' => by
    obtain ⟨w1, w2, w3, w4⟩ := hw
    unfold va_wsS at hw'
    rcases List.mem_append.mp hw' with h | h
    · simp only [List.mem_cons, List.not_mem_nil, or_false] at h
      rcases h with rfl | rfl | rfl <;> assumption
    · rcases List.mem_cons.mp h with rfl | h
      · exact w4
      · exact h
  refine zx_new (va_runS (As := as) (rest := st) ⟨hx, hb, hml, hown, hts⟩ hM (va_cwS n hts hG rfl rfl rfl hy ⟨hfr, hlo⟩) ⟨zAsP_blind, fun U hU hW => ⟨rfl, by rw [hU], by rw [hU]; exact hP1, va_K.moved hW.alike hK, hD1.weaken fun _ _ _ _ => trivial, by rw [hU]; exact zEv.warm hW ((hE.kept hS.2.1).narrow hAA fun _ => rfl), hAr.moved hW.alike, by rw [hU]; exact va_X.moved hW.alike (x1.kept (hS.2.1 b x2 x3)), Nat.lt_of_lt_of_le x2 hS.1, fun z => x3 (hAA b z)⟩⟩ rfl hn hl.1 rfl (by show 2 * 0 + _ ≤ 8; omega) hd ⟨hck, hsk⟩) hS (fun q _ h => hAA q h) hAA fun v w1 H1 locs1 hB hP2 hD2 hz hk hS1 => ?_
  obtain ⟨a1, a2⟩ := zy_beside hP hD hk hAA hP2 hD2
  exact kk v w1 hB H1 locs1 ls hl a1 a2 hS1
theorem zn_callSN (F : zLr X cc nL own) (hC : zAl y cb nB rb fb lb mcc msc as W0 Bo) (hd : decode cc pc = .ok (.invokestatic idx, 3))
    (hw : Cond.methodLinkNest own idx y host ∈ zNws ∧ Cond.static y ∈ zTg ∧ Cond.initialized y.cls ∈ zTg ∧ Cond.code y cb nB rb ∈ zTg) (hy : y.cls ≠ "java/lang/invoke/MethodHandle" ∧ y.cls ≠ "java/lang/invoke/VarHandle" ∧ (parseMethodDescriptor y.desc).map (fun d => d.parameters.length) = some n) (hn : as.length = n)
    (hws : ws = W0 X.2.2.2.2.2.2.2.2.2.2.1 ++ wsB) (hS0 : S = as.reverse ++ st) (hcs : (st.map fun v => v.category).sum ≤ 8) (hfr : fb + 1 ≤ fr) (hlo : 8 + (nB + 11) + lb ≤ lo) (hck : ck + mcc ≤ mc) (hsk : sk + msc ≤ ms)
    (kk : ∀ v w1, Bo X.2.2.2.2.2.2.2.2.2.2.1 v w1 → zN X mc ms fr lo B nL (pc + 3) lv (v.toList ++ st) (w1 ++ wsB) (ck + mcc) (sk + msc)) : zN X mc ms fr lo B nL pc lv S ws ck sk := by
  obtain ⟨p, l, e, s, m, args, below, meth, c, D, cA, ad, A⟩ := X
  obtain ⟨⟨hx, hb, hml, hown, hts, hlk, hK, hA, hE, htr⟩, hAr⟩ := F
  subst hws; subst hS0
  intro H locs ls hl hP hD hS
  have hM := hC l htr D cA ad H.size
  have h0l : ∀ (k : Nat) (q : Nat × va_E), (W0 cA)[k]? = some q → (W0 cA ++ wsB)[k]? = some q := fun k q h => by rw [List.getElem?_append_left (List.getElem?_eq_some_iff.mp h).1]; exact h
  have hP1 : va_P D zcl (W0 cA) H := fun k q h => hP _ q (h0l k q h)
  have hD1 : va_D A (W0 cA) := ⟨fun i j x y hi hj h => hD.1 i j x y (h0l i x hi) (h0l j y hj) h, fun k q h => hD.2 _ q (h0l k q h)⟩
  have hAA : ∀ q, va_A (W0 cA) H.size q → A q := by
    rintro q (⟨k, e, h⟩ | h)
    · exact hD1.2 k _ h
    · exact hA q (Nat.le_trans hS.1 h)
  have hG : GoodIn zTg (.code y cb nB rb :: zTg) := zgood fun w hw' => by
    rcases List.mem_cons.mp hw' with rfl | h
    · exact hw.2.2.2
    · exact h
  refine zx_new (va_runSN (host := host) (As := as) (rest := st) ⟨hx, hb, hml, hown, hts⟩ hM ⟨va_cnB n hts hG rfl rfl rfl (hE.2.2.1 _ hw.1) (hts _ hw.2.2.1) hy ⟨hfr, hlo⟩, hts _ hw.2.1, trivial⟩ ⟨zAlP_blind, fun U hU hW => ⟨rfl, by rw [hU], by rw [hU]; exact hP1, va_K.moved hW.alike hK, hD1.weaken fun _ _ _ _ => trivial, by rw [hU]; exact zEv.warm hW ((hE.kept hS.2.1).narrow hAA fun _ => rfl), hAr.moved hW.alike⟩⟩ rfl hn hl.1 rfl (by show 2 * 0 + _ ≤ 8; omega) hd ⟨hck, hsk⟩) hS (fun q _ h => hAA q h) hAA fun v w1 H1 locs1 hB hP2 hD2 hz hk hS1 => ?_
  obtain ⟨a1, a2⟩ := zy_beside hP hD hk hAA hP2 hD2
  exact kk v w1 hB H1 locs1 ls hl a1 a2 hS1
theorem zn_callSNs (F : zLr X cc nL own) {b L : Nat} {xs : Nat → Int32} (hX : zScr X b L xs) (hC : zAs b L xs y cb nB rb fb lb mcc msc as W0 Bo) (hd : decode cc pc = .ok (.invokestatic idx, 3))
    (hw : Cond.methodLinkNest own idx y host ∈ zNws ∧ Cond.static y ∈ zTg ∧ Cond.initialized y.cls ∈ zTg ∧ Cond.code y cb nB rb ∈ zTg) (hy : y.cls ≠ "java/lang/invoke/MethodHandle" ∧ y.cls ≠ "java/lang/invoke/VarHandle" ∧ (parseMethodDescriptor y.desc).map (fun d => d.parameters.length) = some n) (hn : as.length = n)
    (hws : ws = W0 X.2.2.2.2.2.2.2.2.2.2.1 ++ wsB) (hS0 : S = as.reverse ++ st) (hcs : (st.map fun v => v.category).sum ≤ 8) (hfr : fb + 1 ≤ fr) (hlo : 8 + (nB + 11) + lb ≤ lo) (hck : ck + mcc ≤ mc) (hsk : sk + msc ≤ ms)
    (kk : ∀ v w1, Bo X.2.2.2.2.2.2.2.2.2.2.1 v w1 → zN X mc ms fr lo B nL (pc + 3) lv (v.toList ++ st) (w1 ++ wsB) (ck + mcc) (sk + msc)) : zN X mc ms fr lo B nL pc lv S ws ck sk := by
  obtain ⟨p, l, e, s, m, args, below, meth, c, D, cA, ad, A⟩ := X
  obtain ⟨⟨hx, hb, hml, hown, hts, hlk, hK, hA, hE, htr⟩, hAr⟩ := F
  obtain ⟨x1, x2, x3⟩ := hX
  subst hws; subst hS0
  intro H locs ls hl hP hD hS
  have hM := hC l htr D cA ad H.size
  have h0l : ∀ (k : Nat) (q : Nat × va_E), (W0 cA)[k]? = some q → (W0 cA ++ wsB)[k]? = some q := fun k q h => by rw [List.getElem?_append_left (List.getElem?_eq_some_iff.mp h).1]; exact h
  have hP1 : va_P D zcl (W0 cA) H := fun k q h => hP _ q (h0l k q h)
  have hD1 : va_D A (W0 cA) := ⟨fun i j x y hi hj h => hD.1 i j x y (h0l i x hi) (h0l j y hj) h, fun k q h => hD.2 _ q (h0l k q h)⟩
  have hAA : ∀ q, va_A (W0 cA) H.size q → A q := by
    rintro q (⟨k, e, h⟩ | h)
    · exact hD1.2 k _ h
    · exact hA q (Nat.le_trans hS.1 h)
  have hG : GoodIn zTg (.code y cb nB rb :: zTg) := zgood fun w hw' => by
    rcases List.mem_cons.mp hw' with rfl | h
    · exact hw.2.2.2
    · exact h
  refine zx_new (va_runSN (host := host) (As := as) (rest := st) ⟨hx, hb, hml, hown, hts⟩ hM ⟨va_cnB n hts hG rfl rfl rfl (hE.2.2.1 _ hw.1) (hts _ hw.2.2.1) hy ⟨hfr, hlo⟩, hts _ hw.2.1, trivial⟩ ⟨zAsP_blind, fun U hU hW => ⟨rfl, by rw [hU], by rw [hU]; exact hP1, va_K.moved hW.alike hK, hD1.weaken fun _ _ _ _ => trivial, by rw [hU]; exact zEv.warm hW ((hE.kept hS.2.1).narrow hAA fun _ => rfl), hAr.moved hW.alike, by rw [hU]; exact va_X.moved hW.alike (x1.kept (hS.2.1 b x2 x3)), Nat.lt_of_lt_of_le x2 hS.1, fun z => x3 (hAA b z)⟩⟩ rfl hn hl.1 rfl (by show 2 * 0 + _ ≤ 8; omega) hd ⟨hck, hsk⟩) hS (fun q _ h => hAA q h) hAA fun v w1 H1 locs1 hB hP2 hD2 hz hk hS1 => ?_
  obtain ⟨a1, a2⟩ := zy_beside hP hD hk hAA hP2 hD2
  exact kk v w1 hB H1 locs1 ls hl a1 a2 hS1
end ZNA
