/-! ===== methods that make things: worlds as lists of cells ===== -/
theorem va_AOA.moved {ty : FieldType} {u U : State} (hvm : u.vm.Alike U.vm) (h : va_AOA ty u) : va_AOA ty U := Jvm.Stand.arrayOver_alikeB hvm h
/-- the words of arrays of references -/
def zAr (s : State) : Prop := (∀ C ∈ zao, va_AO C s) ∧ (∀ ty ∈ zaa, va_AOA ty s) ∧ ∀ q ∈ znc, va_Nc q.1 q.2 s
theorem zAr.moved {s U : State} (hvm : s.vm.Alike U.vm) (h : zAr s) : zAr U := ⟨fun C hC => (h.1 C hC).moved hvm, fun ty hty => (h.2.1 ty hty).moved hvm, fun q hq => (h.2.2 q hq).moved hvm⟩
/-- a class id by its name is one -/
theorem zcls_eq {s : State} {n : String} {a b : ClassId} (h1 : s.vm.findClass n = some a) (h2 : s.vm.findClass n = some b) : a = b := Option.some.inj (h1.symm.trans h2)
theorem va_P_perm {D : va_G} {cl : List vw_C} {ws ws' : va_W} {H : Heap} (h : va_P D cl ws H) (hs : ∀ x ∈ ws', x ∈ ws) : va_P D cl ws' H := by
  intro k q hk
  obtain ⟨j, hj⟩ := List.getElem?_of_mem (hs q (List.mem_of_getElem? hk))
  exact h j q hj
def zNq (D : va_G) (A : Nat → Prop) (B : Option Value → va_W → Prop) : Array Value → State → Outcome → State → Prop := fun _ st oc t =>
  ∃ v, oc = .returned v ∧ (∃ ws, B v ws ∧ va_P D zcl ws t.heap ∧ va_D A ws) ∧ va_F A st t
/-- a frame whose world is a list of cells -/
def zLr (X : zX) (cc : ByteArray) (nL : Nat) (own : String) : Prop := match X with
  | (p, l, e, s, m, args, below, meth, c, D, cA, ad, A) => (p.tables.exec = Jvm.exec ∧ c.code = cc ∧ c.maxLocals = nL ∧ s.vm.findClass own = some m.cls ∧ (∀ w ∈ zTg, w.before args s = true) ∧ meth.locks = false ∧ va_K D zcl (ztl cA) s ∧ (∀ q : Nat, s.heap.size ≤ q → A q) ∧ zEv ad A s s.heap ∧ l.stackTraces = false) ∧ zAr s
def zIn (X : zX) : Prop := match X with
  | (p, l, e, s, m, args, below, meth, c, D, cA, ad, A) => meth.name = "<init>"
def zRt (X : zX) (ret : Option FieldType) : Prop := match X with
  | (p, l, e, s, m, args, below, meth, c, D, cA, ad, A) => meth.sig.returnType = ret
def zNQ (X : zX) (mc ms : Nat) (B : Option Value → va_W → Prop) : State → Prop := match X with
  | (p, l, e, s, m, args, below, meth, c, D, cA, ad, A) => MQ below (zNq D A B) args s mc ms A
def zN (X : zX) (mc ms fr lo : Nat) (B : State → Prop) (nL pc : Nat) (lv : List (Nat × Value)) (st : List Value) (ws : va_W) (ck sk : Nat) : Prop := match X with
  | (p, l, e, s, m, args, below, meth, c, D, cA, ad, A) => ∀ (H : Heap) (locs : List Loc) (ls : Array Slot), lv_has ls nL lv → va_P D zcl ws H → va_D A ws → va_S A s.heap H locs →
      W p l e { frames := fr, cells := mc, slots := ms, locals := lo } s m args below meth c H locs ck sk B (F0 m pc ls st)
section ZN
variable {X : zX} {cc : ByteArray} {nL : Nat} {own : String} {mc ms fr lo pc ck sk : Nat} {B : State → Prop} {lv lv' : List (Nat × Value)} {st : List Value} {ws ws' : va_W}
theorem zn_aload_n (F : zLr X cc nL own) {j : Fin 4} {i x k : Nat} (hd : decode cc pc = .ok (.aload_n j, 1)) (hi : (j : Nat) = i) (hL : lv[k]? = some (i, .ref x)) (kk : zN X mc ms fr lo B nL (pc + 1) lv (.ref x :: st) ws ck sk) : zN X mc ms fr lo B nL pc lv st ws ck sk := by
  obtain ⟨p, l, e, s, m, args, below, meth, c, D, cA, ad, A⟩ := X
  obtain ⟨⟨hx, hb, hml, hown, hts, hlk, hK, hA, hE, htr⟩, hAr⟩ := F
  exact fun H locs ls hl hP hD hS => lv_aload_n hx hb hd hi (lv_at hl k hL) (kk H locs ls hl hP hD hS)
theorem zn_iload_n (F : zLr X cc nL own) {j : Fin 4} {i k : Nat} {x : Int32} (hd : decode cc pc = .ok (.iload_n j, 1)) (hi : (j : Nat) = i) (hL : lv[k]? = some (i, .int x)) (kk : zN X mc ms fr lo B nL (pc + 1) lv (.int x :: st) ws ck sk) : zN X mc ms fr lo B nL pc lv st ws ck sk := by
  obtain ⟨p, l, e, s, m, args, below, meth, c, D, cA, ad, A⟩ := X
  obtain ⟨⟨hx, hb, hml, hown, hts, hlk, hK, hA, hE, htr⟩, hAr⟩ := F
  exact fun H locs ls hl hP hD hS => lv_iload_n hx hb hd hi (lv_at hl k hL) (kk H locs ls hl hP hD hS)
theorem zn_iconst (F : zLr X cc nL own) {n : Int} {v : Int32} (hd : decode cc pc = .ok (.iconst n, 1)) (hv : Int32.ofInt n = v) (kk : zN X mc ms fr lo B nL (pc + 1) lv (.int v :: st) ws ck sk) : zN X mc ms fr lo B nL pc lv st ws ck sk := by
  obtain ⟨p, l, e, s, m, args, below, meth, c, D, cA, ad, A⟩ := X
  obtain ⟨⟨hx, hb, hml, hown, hts, hlk, hK, hA, hE, htr⟩, hAr⟩ := F
  exact fun H locs ls hl hP hD hS => lv_iconst hx hb hd hv (kk H locs ls hl hP hD hS)
theorem zn_bipush (F : zLr X cc nL own) {n : Int} {v : Int32} (hd : decode cc pc = .ok (.bipush n, 2)) (hv : (Int8.ofInt n).toInt32 = v) (kk : zN X mc ms fr lo B nL (pc + 2) lv (.int v :: st) ws ck sk) : zN X mc ms fr lo B nL pc lv st ws ck sk := by
  obtain ⟨p, l, e, s, m, args, below, meth, c, D, cA, ad, A⟩ := X
  obtain ⟨⟨hx, hb, hml, hown, hts, hlk, hK, hA, hE, htr⟩, hAr⟩ := F
  exact fun H locs ls hl hP hD hS => lv_bipush hx hb hd hv (kk H locs ls hl hP hD hS)
theorem zn_sipush (F : zLr X cc nL own) {n : Int} {v : Int32} (hd : decode cc pc = .ok (.sipush n, 3)) (hv : (Int16.ofInt n).toInt32 = v) (kk : zN X mc ms fr lo B nL (pc + 3) lv (.int v :: st) ws ck sk) : zN X mc ms fr lo B nL pc lv st ws ck sk := by
  obtain ⟨p, l, e, s, m, args, below, meth, c, D, cA, ad, A⟩ := X
  obtain ⟨⟨hx, hb, hml, hown, hts, hlk, hK, hA, hE, htr⟩, hAr⟩ := F
  exact fun H locs ls hl hP hD hS => lv_sipush hx hb hd hv (kk H locs ls hl hP hD hS)
theorem zn_dup (F : zLr X cc nL own) {v : Value} (hd : decode cc pc = .ok (.dup, 1)) (hv : v.category = 1) (kk : zN X mc ms fr lo B nL (pc + 1) lv (v :: v :: st) ws ck sk) : zN X mc ms fr lo B nL pc lv (v :: st) ws ck sk := by
  obtain ⟨p, l, e, s, m, args, below, meth, c, D, cA, ad, A⟩ := X
  obtain ⟨⟨hx, hb, hml, hown, hts, hlk, hK, hA, hE, htr⟩, hAr⟩ := F
  exact fun H locs ls hl hP hD hS => lv_dup hx hb hd hv (kk H locs ls hl hP hD hS)
theorem zn_goto (F : zLr X cc nL own) {off : Int} {tgt : Nat} (hd : decode cc pc = .ok (.goto off, 3)) (ht : (pc : Int) + off = (tgt : Int)) (kk : zN X mc ms fr lo B nL tgt lv st ws ck sk) : zN X mc ms fr lo B nL pc lv st ws ck sk := by
  obtain ⟨p, l, e, s, m, args, below, meth, c, D, cA, ad, A⟩ := X
  obtain ⟨⟨hx, hb, hml, hown, hts, hlk, hK, hA, hE, htr⟩, hAr⟩ := F
  exact fun H locs ls hl hP hD hS => lv_goto hx hb hd ht (kk H locs ls hl hP hD hS)
theorem zn_ge_t (F : zLr X cc nL own) {x y : Int32} {off : Int} {tgt : Nat} (hd : decode cc pc = .ok (.if_icmp .ge off, 3)) (ht : (pc : Int) + off = (tgt : Int)) (h : y ≤ x) (kk : zN X mc ms fr lo B nL tgt lv st ws ck sk) : zN X mc ms fr lo B nL pc lv (.int y :: .int x :: st) ws ck sk := by
  obtain ⟨p, l, e, s, m, args, below, meth, c, D, cA, ad, A⟩ := X
  obtain ⟨⟨hx, hb, hml, hown, hts, hlk, hK, hA, hE, htr⟩, hAr⟩ := F
  exact fun H locs ls hl hP hD hS => lv_icmp_ge hx hb hd ht (fun _ => kk H locs ls hl hP hD hS) (fun q => absurd h q)
theorem zn_ge_f (F : zLr X cc nL own) {x y : Int32} {off : Int} {tgt : Nat} (hd : decode cc pc = .ok (.if_icmp .ge off, 3)) (ht : (pc : Int) + off = (tgt : Int)) (h : ¬ y ≤ x) (kk : zN X mc ms fr lo B nL (pc + 3) lv st ws ck sk) : zN X mc ms fr lo B nL pc lv (.int y :: .int x :: st) ws ck sk := by
  obtain ⟨p, l, e, s, m, args, below, meth, c, D, cA, ad, A⟩ := X
  obtain ⟨⟨hx, hb, hml, hown, hts, hlk, hK, hA, hE, htr⟩, hAr⟩ := F
  exact fun H locs ls hl hP hD hS => lv_icmp_ge hx hb hd ht (fun q => absurd q h) (fun _ => kk H locs ls hl hP hD hS)
theorem zn_istore_n (F : zLr X cc nL own) {j : Fin 4} {i : Nat} {x : Int32} (hd : decode cc pc = .ok (.istore_n j, 1)) (hi : (j : Nat) = i) (hn : i < nL) (hL : (i, Value.int x) :: lv.filter (fun q => !(q.1 == i) && !(q.1 + 1 == i && q.2.category == 2)) = lv') (kk : zN X mc ms fr lo B nL (pc + 1) lv' st ws ck sk) : zN X mc ms fr lo B nL pc lv (.int x :: st) ws ck sk := by
  obtain ⟨p, l, e, s, m, args, below, meth, c, D, cA, ad, A⟩ := X
  obtain ⟨⟨hx, hb, hml, hown, hts, hlk, hK, hA, hE, htr⟩, hAr⟩ := F
  exact fun H locs ls hl hP hD hS => lv_istore_n hx hb hd hi hl hn hL fun ls' h' => kk H locs ls' h' hP hD hS
theorem zn_iinc (F : zLr X cc nL own) {i k : Nat} {n : Int} {x v : Int32} (hd : decode cc pc = .ok (.iinc i n, 3)) (hk : lv[k]? = some (i, .int x)) (hv : x + Int32.ofInt n = v) (hn : i < nL) (hL : (i, Value.int v) :: lv.filter (fun q => !(q.1 == i) && !(q.1 + 1 == i && q.2.category == 2)) = lv') (kk : zN X mc ms fr lo B nL (pc + 3) lv' st ws ck sk) : zN X mc ms fr lo B nL pc lv st ws ck sk := by
  obtain ⟨p, l, e, s, m, args, below, meth, c, D, cA, ad, A⟩ := X
  obtain ⟨⟨hx, hb, hml, hown, hts, hlk, hK, hA, hE, htr⟩, hAr⟩ := F
  exact fun H locs ls hl hP hD hS => lv_iinc hx hb hd hl hk hv hn hL fun ls' h' => kk H locs ls' h' hP hD hS
theorem zn_obj (F : zLr X cc nL own) {idx a : Nat} (hd : decode cc pc = .ok (.invokespecial idx, 3)) (hw : Cond.methodLink own idx Lib.objectInit ∈ zTg ∧ Cond.instanceMethod Lib.objectInit ∈ zTg ∧ Cond.code Lib.objectInit ⟨#[0xb1]⟩ 1 none ∈ zTg) (hfr : 1 ≤ fr) (hlo : (st.map fun v => v.category).sum + 12 ≤ lo) (kk : zN X mc ms fr lo B nL (pc + 3) lv st ws ck sk) : zN X mc ms fr lo B nL pc lv (.ref a :: st) ws ck sk := by
  obtain ⟨p, l, e, s, m, args, below, meth, c, D, cA, ad, A⟩ := X
  obtain ⟨⟨hx, hb, hml, hown, hts, hlk, hK, hA, hE, htr⟩, hAr⟩ := F
  exact fun H locs ls hl hP hD hS => W.objInit hx hb hown (hts _ hw.1) (hts _ hw.2.1) (hts _ hw.2.2) (g := F0 m pc ls (.ref a :: st)) rfl (hl.1.trans hml.symm) rfl hd hfr (by show 2 * 0 + _ + 12 ≤ lo; omega) (kk H locs ls hl hP hD hS)
/-- an int field that isn't final -/
theorem zn_put (F : zLr X cc nL own) {idx ci q a j : Nat} {fs : List Value} {x : Int32} (hd : decode cc pc = .ok (.putfield idx, 3)) (hf : zFw own idx ci q .int) (hcl : zCl ci) (he : ws[j]? = some (a, .inr (ci, fs))) (hq : q < fs.length) (hws : ws.set j (a, .inr (ci, fs.set q (.int x))) = ws') (kk : zN X mc ms fr lo B nL (pc + 3) lv st ws' ck sk) : zN X mc ms fr lo B nL pc lv (.int x :: .ref a :: st) ws ck sk := by
  obtain ⟨p, l, e, s, m, args, below, meth, c, D, cA, ad, A⟩ := X
  obtain ⟨⟨hx, hb, hml, hown, hts, hlk, hK, hA, hE, htr⟩, hAr⟩ := F
  subst hws
  obtain ⟨Q, hQ, hqn, hlink, hfin, hdsc⟩ := hf
  obtain ⟨hc1, ⟨ty0, hc2⟩, hc3⟩ := hcl Q hQ
  exact fun H locs ls hl hP hD hS => va_put hx hb hts hc1 ty0 hc2 hc3 hown hK hP hD hS j he hQ q hqn (hts _ hlink) (fun _ h => h) hfin (v := .int x) hdsc rfl rfl hq hd fun H1 locs1 hP1 hD1 hS1 => kk H1 locs1 ls hl hP1 hD1 hS1
/-- a final field of references -/
theorem zn_putF (F : zLr X cc nL own) (hin : zIn X) {idx ci q a j b : Nat} {fs : List Value} {ty : FieldType} (hd : decode cc pc = .ok (.putfield idx, 3)) (hf : ∃ Q : vw_C, zcl[ci]? = some Q ∧ q < Q.2.2 ∧ Cond.fieldLink own idx (Q.2.1 q).1 (Q.2.1 q).2.1 (Q.2.1 q).2.2.1 ∈ zTg ∧ (Q.2.1 q).2.2.2 = true ∧ (Q.2.1 q).1 = own ∧ parseFieldDescriptor (Q.2.1 q).2.2.1 = some ty) (hty : narrow ty (.ref b) = .ref b ∧ fits ty (.ref b) = true) (hcl : zCl ci) (he : ws[j]? = some (a, .inr (ci, fs))) (hq : q < fs.length) (hws : ws.set j (a, .inr (ci, fs.set q (.ref b))) = ws') (kk : zN X mc ms fr lo B nL (pc + 3) lv st ws' ck sk) : zN X mc ms fr lo B nL pc lv (.ref b :: .ref a :: st) ws ck sk := by
  obtain ⟨p, l, e, s, m, args, below, meth, c, D, cA, ad, A⟩ := X
  obtain ⟨⟨hx, hb, hml, hown, hts, hlk, hK, hA, hE, htr⟩, hAr⟩ := F
  subst hws
  obtain ⟨Q, hQ, hqn, hlink, hfin, hdc, hdsc⟩ := hf
  obtain ⟨hc1, ⟨ty0, hc2⟩, hc3⟩ := hcl Q hQ
  exact fun H locs ls hl hP hD hS => va_putF hx hb hts hc1 ty0 hc2 hc3 hown hK hP hD hS j he hQ q hqn (hts _ hlink) (fun _ h => h) hfin hin hdc (v := .ref b) hdsc hty.1 hty.2 hq hd fun H1 locs1 hP1 hD1 hS1 => kk H1 locs1 ls hl hP1 hD1 hS1
theorem zn_get (F : zLr X cc nL own) {idx ci q a j : Nat} {fs : List Value} {v : Value} (hd : decode cc pc = .ok (.getfield idx, 3)) (hf : zFl own idx ci q) (hcl : zCl ci) (he : ws[j]? = some (a, .inr (ci, fs))) (hv : fs[q]? = some v) (kk : zN X mc ms fr lo B nL (pc + 3) lv (v :: st) ws ck sk) : zN X mc ms fr lo B nL pc lv (.ref a :: st) ws ck sk := by
  obtain ⟨p, l, e, s, m, args, below, meth, c, D, cA, ad, A⟩ := X
  obtain ⟨⟨hx, hb, hml, hown, hts, hlk, hK, hA, hE, htr⟩, hAr⟩ := F
  obtain ⟨Q, hQ, hqn, hlink⟩ := hf
  exact fun H locs ls hl hP hD hS => va_get hx hb hts (hcl Q hQ).1 hown hK hP j he hQ q hqn (hts _ hlink) (fun _ h => h) hv hd (kk H locs ls hl hP hD hS)
theorem zn_newa (F : zLr X cc nL own) {n : Int32} {N : Nat} (hd : decode cc pc = .ok (.newarray .int, 2)) (hw : Cond.arrayClass .int ∈ zTg) (hn : ¬ n < 0) (hN : n.toNatClampNeg = N) (hb4 : N * 4 ≤ 536870912) (hck : ck + 1 ≤ mc) (hsk : sk + N ≤ ms) (kk : ∀ q : Nat, zN X mc ms fr lo B nL (pc + 2) lv (.ref q :: st) (ws ++ [(q, .inl (X.2.2.2.2.2.2.2.2.2.2.1 0, N, .inl (fun _ => 0)))]) (ck + 1) (sk + N)) : zN X mc ms fr lo B nL pc lv (.int n :: st) ws ck sk := by
  obtain ⟨p, l, e, s, m, args, below, meth, c, D, cA, ad, A⟩ := X
  obtain ⟨⟨hx, hb, hml, hown, hts, hlk, hK, hA, hE, htr⟩, hAr⟩ := F
  intro H locs ls hl hP hD hS
  refine va_newa hx hb (atype := .int) (hts _ hw) (ty := .int) rfl hK hP hD hS hA (a0 := (N, .inl (fun _ => 0))) (fun _ => rfl) hn hN hb4 hck hsk hd fun q cA' H1 hK1 hP1 hD1 hS1 => ?_
  have e1 : s.vm.findClass ("[" ++ FieldType.int.toString) = some (cA 0) := (hK.2 0 _ (ztl_at (by decide))).2
  have e2 : s.vm.findClass ("[" ++ FieldType.int.toString) = some cA' := (hK1.2 (ztl cA).length (cA', .int) (by rw [List.getElem?_append_right (Nat.le_refl _), Nat.sub_self]; rfl)).2
  cases zcls_eq e1 e2
  exact kk q H1 locs ls hl hP1 hD1 hS1
theorem zn_anewa (F : zLr X cc nL own) {n : Int32} {N idx j : Nat} {C : String} (hd : decode cc pc = .ok (.anewarray idx, 3)) (hw : Cond.classLink own idx C ∈ zTg) (hC : C ∈ zao) (hj : j < zTn) (hty : zty j = .object C) (hn : ¬ n < 0) (hN : n.toNatClampNeg = N) (hb4 : N * 4 ≤ 536870912) (hck : ck + 1 ≤ mc) (hsk : sk + N ≤ ms) (kk : ∀ q : Nat, zN X mc ms fr lo B nL (pc + 3) lv (.ref q :: st) (ws ++ [(q, .inl (X.2.2.2.2.2.2.2.2.2.2.1 j, N, .inr (.inr (.inr (.inr (fun _ => none))))))]) (ck + 1) (sk + N)) : zN X mc ms fr lo B nL pc lv (.int n :: st) ws ck sk := by
  obtain ⟨p, l, e, s, m, args, below, meth, c, D, cA, ad, A⟩ := X
  obtain ⟨⟨hx, hb, hml, hown, hts, hlk, hK, hA, hE, htr⟩, hAr⟩ := F
  intro H locs ls hl hP hD hS
  refine va_newq hx hb hown (hts _ hw) (hAr.1 C hC) hK hP hD hS hA hn hN hb4 hck hsk hd fun q cA' H1 hK1 hP1 hD1 hS1 => ?_
  have e1 := (hK.2 j _ (ztl_at hj)).2
  rw [hty] at e1
  obtain ⟨kA, comp, -, -, -, e1⟩ := e1
  obtain ⟨kA2, comp2, -, -, -, e2⟩ := (hK1.2 (ztl cA).length (cA', .object C) (by rw [List.getElem?_append_right (Nat.le_refl _), Nat.sub_self]; rfl)).2
  cases zcls_eq e1 e2
  exact kk q H1 locs ls hl hP1 hD1 hS1
theorem zn_new (F : zLr X cc nL own) {idx ci N : Nat} {C : String} {T : u_T} {fs : List Value} {ty : Nat → FieldType} (hd : decode cc pc = .ok (.new idx, 3)) (hc : zcl[ci]? = some (C, T, N)) (hcl : zCl ci) (hty : ∀ k, k < N → parseFieldDescriptor (T k).2.2.1 = some (ty k)) (hw : Cond.classLink own idx C ∈ zTg ∧ Cond.instantiable C N ∈ zTg ∧ Cond.initialized C ∈ zTg) (hfs : ∀ j, j < N → defaultValue (ty j) = vp_V fs j) (hck : ck + 1 ≤ mc) (hsk : sk + N ≤ ms) (kk : ∀ q : Nat, zN X mc ms fr lo B nL (pc + 3) lv (.ref q :: st) (ws ++ [(q, .inr (ci, fs))]) (ck + 1) (sk + N)) : zN X mc ms fr lo B nL pc lv st ws ck sk := by
  obtain ⟨p, l, e, s, m, args, below, meth, c, D, cA, ad, A⟩ := X
  obtain ⟨⟨hx, hb, hml, hown, hts, hlk, hK, hA, hE, htr⟩, hAr⟩ := F
  intro H locs ls hl hP hD hS
  exact va_new hx hb hts (hcl _ hc).1 ty hty hown (hts _ hw.1) (hts _ hw.2.1) (hts _ hw.2.2) hK hP hD hS hA hc hfs hck hsk hd fun q H1 hP1 hD1 hS1 => kk q H1 locs ls hl hP1 hD1 hS1
theorem zn_aast (F : zLr X cc nL own) {a v q0 qk ci N t n : Nat} {C : String} {T : u_T} {vs : List Value} {f : Nat → Option Nat} {i : Int32} {jn : Nat} (hd : decode cc pc = .ok (.aastore, 1)) (ha : ws[q0]? = some (a, .inl (X.2.2.2.2.2.2.2.2.2.2.1 t, n, .inr (.inr (.inr (.inr f)))))) (ht : t < zTn) (hty : zty t = .object C) (hv : ws[qk]? = some (v, .inr (ci, vs))) (hc : zcl[ci]? = some (C, T, N)) (hin0 : vp_in i n) (hjn : i.toNatClampNeg = jn) (hws : ws.set q0 (a, .inl (X.2.2.2.2.2.2.2.2.2.2.1 t, n, .inr (.inr (.inr (.inr (va_up f jn (some v))))))) = ws') (kk : zN X mc ms fr lo B nL (pc + 1) lv st ws' ck sk) : zN X mc ms fr lo B nL pc lv (.ref v :: .int i :: .ref a :: st) ws ck sk := by
  obtain ⟨p, l, e, s, m, args, below, meth, c, D, cA, ad, A⟩ := X
  obtain ⟨⟨hx, hb, hml, hown, hts, hlk, hK, hA, hE, htr⟩, hAr⟩ := F
  subst hjn; subst hws
  intro H locs ls hl hP hD hS
  exact va_astq hx hb hK hP hD hS q0 t qk ci ha (by rw [ztl_at ht, hty]) hv hc hin0 hd fun H1 locs1 hP1 hD1 hS1 => kk H1 locs1 ls hl hP1 hD1 hS1
theorem zn_iast (F : zLr X cc nL own) {a q0 n : Nat} {f : Nat → Int32} {i x : Int32} {jn : Nat} (hd : decode cc pc = .ok (.iastore, 1)) (ha : ws[q0]? = some (a, .inl (X.2.2.2.2.2.2.2.2.2.2.1 0, n, .inl f))) (hin0 : vp_in i n) (hjn : i.toNatClampNeg = jn) (hws : ws.set q0 (a, .inl (X.2.2.2.2.2.2.2.2.2.2.1 0, n, .inl (upd f jn x))) = ws') (kk : zN X mc ms fr lo B nL (pc + 1) lv st ws' ck sk) : zN X mc ms fr lo B nL pc lv (.int x :: .int i :: .ref a :: st) ws ck sk := by
  obtain ⟨p, l, e, s, m, args, below, meth, c, D, cA, ad, A⟩ := X
  obtain ⟨⟨hx, hb, hml, hown, hts, hlk, hK, hA, hE, htr⟩, hAr⟩ := F
  subst hjn; subst hws
  intro H locs ls hl hP hD hS
  exact va_iast hx hb hK hP hD hS q0 0 ha (ztl_at (by decide)) hin0 hd fun H1 locs1 hP1 hD1 hS1 => kk H1 locs1 ls hl hP1 hD1 hS1
/-- the cells in another order, or fewer -/
theorem zn_sub (is : List Nat) (hs : is.map (fun i => ws[i]?) = ws'.map some) (hn : va_nd is = true) (kk : zN X mc ms fr lo B nL pc lv st ws' ck sk) : zN X mc ms fr lo B nL pc lv st ws ck sk := by
  obtain ⟨p, l, e, s, m, args, below, meth, c, D, cA, ad, A⟩ := X
  refine fun H locs ls hl hP hD hS => kk H locs ls hl (va_P_perm hP fun x hx => ?_) (hD.sub is hn hs) hS
  have h1 : some x ∈ ws'.map some := List.mem_map.mpr ⟨x, hx, rfl⟩
  rw [← hs] at h1
  obtain ⟨i, -, hi⟩ := List.mem_map.mp h1
  exact List.mem_of_getElem? hi
theorem zn_ret (F : zLr X cc nL own) (hr : zRt X none) {Bo : Option Value → va_W → Prop} (hd : decode cc pc = .ok (.return_, 1)) (hB : Bo none ws) (hck : ck ≤ mc) (hsk : sk ≤ ms) : zN X mc ms fr lo (zNQ X mc ms Bo) nL pc lv [] ws ck sk := by
  obtain ⟨p, l, e, s, m, args, below, meth, c, D, cA, ad, A⟩ := X
  obtain ⟨⟨hx, hb, hml, hown, hts, hlk, hK, hA, hE, htr⟩, hAr⟩ := F
  intro H locs ls hl hP hD hS
  refine W.widen (k := mc) (n := ms) hck hsk ?_
  exact W.vret hx hb hr (fun t ht hW => ⟨none, rfl, ⟨ws, hB, by rw [ht]; exact hP, hD⟩, hS.F ht⟩) hS.2.2 hd hlk
end ZN
/-- what a constructor does with the new object at h0: Bo says what there is behind it -/
def zMk (y : MethodName) (cb : ByteArray) (nB fb lb mc ms : Nat) (raw : va_E) (Bo : (Nat → ClassId) → Nat → va_W → Prop) : Prop := ∀ (l : Launch), l.stackTraces = false → ∀ (D : va_G) (cA : Nat → ClassId) (ad : zR → Nat) (h0 sz : Nat),
  Met l y (.code y cb nB none :: zTg) { frames := fb, cells := mc, slots := ms, locals := lb } (va_Pc [.ref h0] fun U => U.heap.size = sz ∧ va_P D zcl [(h0, raw)] U.heap ∧ va_K D zcl (ztl cA) U ∧ va_D (fun _ => True) [(h0, raw)] ∧ zEv ad (va_A [(h0, raw)] sz) U U.heap ∧ zAr U) (zNq D (va_A [(h0, raw)] sz) fun v ws => v = none ∧ Bo cA h0 ws) mc ms (va_A [(h0, raw)] sz)
theorem zMk_of {y : MethodName} {cb : ByteArray} {nB fb lb mc ms : Nat} {raw : va_E} {Bo : (Nat → ClassId) → Nat → va_W → Prop} (hy : plainName y.cls = true) (hi : y.name = "<init>") (hnB : 1 ≤ nB)
    (body : ∀ (X : zX) (h0 : Nat), zLr X cb nB y.cls → zIn X → zRt X none → zN X mc ms fb lb (zNQ X mc ms fun v ws => v = none ∧ Bo X.2.2.2.2.2.2.2.2.2.2.1 h0 ws) nB 0 [(0, .ref h0)] [] [(h0, raw)] 0 0) : zMk y cb nB fb lb mc ms raw Bo := by
  intro l htr D cA ad h0 sz
  refine Met.ofW (cc := cb) (maxL := nB) (ret := none) hy rfl ?_
  intro p e s m args below meth c s₁ B hml hv
  obtain ⟨rfl, hsz0, hP, hK, hD, hE, hAr⟩ := hv
  have hts := atoms_spec (ws := .code y cb nB none :: zTg) B.pre
  have F : zLr (p, l, e, s, m, ([.ref h0] : List Value).toArray, below, meth, c, D, cA, ad, va_A [(h0, raw)] sz) cb nB y.cls :=
    ⟨⟨B.exec, B.bytes, hml, findClass_of_methodNamed B.named, fun w hw => hts w (List.mem_cons_of_mem _ hw), B.notSynchronized, hK, fun q h => Or.inr (by rw [← hsz0]; exact h), hE, htr⟩, hAr⟩
  have hl := lv_entry ([.ref h0] : List Value) (n := nB) hnB
  rw [lg_entry_eq]
  exact body _ h0 F ((name_of_methodNamed B.named B.method).1.trans hi) B.returns s.heap [] _ hl hP hD.self va_S.rf
section ZNC
variable {p : Program} {l : Launch} {e : Env} {R : Room} {s : State} {m : MethodId} {args : Array Value} {below : List Frame} {meth : Method} {c : Code} {H : Heap} {locs : List Loc} {cells slots mc ms : Nat} {Q : State → Prop}
variable {D : va_G} {A0 A1 : Nat → Prop} {B : Option Value → va_W → Prop} {H0 : Heap} {pc : Nat} {ls : Array Slot} {st0 rest : List Value} {free : Addr → Prop} {a : Array Value}
theorem zx_new (hr : va_Run p l e R s m args below meth c H locs cells slots mc ms (F0 m pc ls st0) rest (zNq D A1 B a) free) (hS : va_S A0 H0 H locs) (hA : ∀ q, q < H.size → A1 q → A0 q) (hf : ∀ q, free q → A0 q)
    (kk : ∀ (v : Option Value) (w1 : va_W) (H1 : Heap) (locs1 : List Loc), B v w1 → va_P D zcl w1 H1 → va_D A1 w1 → H.size ≤ H1.size → (∀ q : Nat, q < H.size → ¬ A1 q → H1[q]? = H[q]?) → va_S A0 H0 H1 locs1 → W p l e R s m args below meth c H1 locs1 (cells + mc) (slots + ms) Q (F0 m (pc + 3) ls (v.toList ++ rest))) : W p l e R s m args below meth c H locs cells slots Q (F0 m pc ls st0) := by
  intro T hT X
  obtain ⟨w, st₀, t, T', L, h0, X', hL, e1, e2, ⟨v, hv, ⟨w1, hB, hP1, hD1⟩, hF⟩, st⟩ := hr T hT X
  cases hv
  obtain ⟨k1, k2, k3⟩ := vx_keep h0 e1 hS hA hf hL hF
  obtain ⟨t2, a1, b1⟩ := kk _ w1 T'.heap (locs ++ L) hB (by rw [e1]; exact hP1) hD1 k1 k2 k3 T' rfl X'
  exact ⟨t2, st t2 a1, b1⟩
/-- the caller's other cells beside what the constructor leaves -/
theorem zx_beside {cl : List vw_C} {ws0 w1 : va_W} {h1 : Nat} {raw : va_E} {H1 : Heap} (hP : va_P D cl (ws0 ++ [(h1, raw)]) H) (hD : va_D A0 (ws0 ++ [(h1, raw)])) (hk : ∀ q : Nat, q < H.size → ¬ va_A [(h1, raw)] H.size q → H1[q]? = H[q]?) (hF : ∀ q, va_A [(h1, raw)] H.size q → A0 q) (hP1 : va_P D cl w1 H1) (hD1 : va_D (va_A [(h1, raw)] H.size) w1) : va_P D cl (ws0 ++ w1) H1 ∧ va_D A0 (ws0 ++ w1) := by
  have hlast : (ws0 ++ [(h1, raw)])[ws0.length]? = some (h1, raw) := by rw [List.getElem?_append_right (Nat.le_refl _), Nat.sub_self]; rfl
  have apart : ∀ (k : Nat) (x : Nat × va_E), ws0[k]? = some x → x.1 < H.size ∧ ¬ va_A [(h1, raw)] H.size x.1 := by
    intro k x hx
    have hk1 := (List.getElem?_eq_some_iff.mp hx).1
    have hx' : (ws0 ++ [(h1, raw)])[k]? = some x := by rw [List.getElem?_append_left hk1]; exact hx
    have hl := (hP k x hx').lt
    refine ⟨hl, fun h => ?_⟩
    rcases h with ⟨k2, e, h⟩ | h
    · have hk2 : k2 < 1 := (List.getElem?_eq_some_iff.mp h).1
      rw [show k2 = 0 by omega] at h
      cases h
      have := hD.1 k ws0.length x _ hx' hlast rfl
      omega
    · omega
  refine ⟨va_P.app (fun k x hx => ?_) hP1, va_D.app ⟨fun i j x y hi hj hxy => ?_, fun k x hx => ?_⟩ (hD1.weaken fun k q _ h => hF q.1 h) (fun i j x y hx hy hxy => (apart i x hx).2 (by rw [hxy]; exact hD1.2 j y hy))⟩
  · have hk1 := (List.getElem?_eq_some_iff.mp hx).1
    exact (hP k x (by rw [List.getElem?_append_left hk1]; exact hx)).kept (hk x.1 (apart k x hx).1 (apart k x hx).2)
  · have h1 := (List.getElem?_eq_some_iff.mp hi).1
    have h2 := (List.getElem?_eq_some_iff.mp hj).1
    exact hD.1 i j x y (by rw [List.getElem?_append_left h1]; exact hi) (by rw [List.getElem?_append_left h2]; exact hj) hxy
  · have h1 := (List.getElem?_eq_some_iff.mp hx).1
    exact hD.2 k x (by rw [List.getElem?_append_left h1]; exact hx)
end ZNC
section ZND
variable {X : zX} {cc : ByteArray} {nL : Nat} {own : String} {mc ms fr lo pc ck sk : Nat} {B : State → Prop} {lv : List (Nat × Value)} {st : List Value} {ws ws0 : va_W}
variable {y : MethodName} {cb : ByteArray} {nB fb lb mcc msc idx h1 : Nat} {raw : va_E} {Bo : (Nat → ClassId) → Nat → va_W → Prop}
theorem zn_call (F : zLr X cc nL own) (hC : zMk y cb nB fb lb mcc msc raw Bo) (hd : decode cc pc = .ok (.invokespecial idx, 3)) (hw : Cond.methodLink own idx y ∈ zTg ∧ Cond.instanceMethod y ∈ zTg ∧ Cond.initialized y.cls ∈ zTg ∧ Cond.code y cb nB none ∈ zTg) (hy : y.name = "<init>" ∧ y.cls ≠ "java/lang/invoke/MethodHandle" ∧ y.cls ≠ "java/lang/invoke/VarHandle" ∧ (parseMethodDescriptor y.desc).map (fun d => d.parameters.length) = some 0) (hws : ws = ws0 ++ [(h1, raw)]) (hcs : (st.map fun v => v.category).sum ≤ 8) (hfr : fb + 1 ≤ fr) (hlo : 8 + (nB + 11) + lb ≤ lo) (hck : ck + mcc ≤ mc) (hsk : sk + msc ≤ ms)
    (kk : ∀ w1, Bo X.2.2.2.2.2.2.2.2.2.2.1 h1 w1 → zN X mc ms fr lo B nL (pc + 3) lv st (ws0 ++ w1) (ck + mcc) (sk + msc)) : zN X mc ms fr lo B nL pc lv (.ref h1 :: st) ws ck sk := by
  obtain ⟨p, l, e, s, m, args, below, meth, c, D, cA, ad, A⟩ := X
  obtain ⟨⟨hx, hb, hml, hown, hts, hlk, hK, hA, hE, htr⟩, hAr⟩ := F
  subst hws
  intro H locs ls hl hP hD hS
  have hM := hC l htr D cA ad h1 H.size
  have hlast : (ws0 ++ [(h1, raw)])[ws0.length]? = some (h1, raw) := by rw [List.getElem?_append_right (Nat.le_refl _), Nat.sub_self]; rfl
  have h0l : ∀ (k : Nat) (q : Nat × va_E), ([(h1, raw)] : va_W)[k]? = some q → (ws0 ++ [(h1, raw)])[ws0.length + k]? = some q := fun k q h => by rw [List.getElem?_append_right (Nat.le_add_right _ _), Nat.add_sub_cancel_left]; exact h
  have hP1 : va_P D zcl [(h1, raw)] H := fun k q h => hP _ q (h0l k q h)
  have hD1 : va_D A [(h1, raw)] := ⟨fun i j x y hi hj _ => by
    have a1 : i < 1 := (List.getElem?_eq_some_iff.mp hi).1
    have a2 : j < 1 := (List.getElem?_eq_some_iff.mp hj).1
    omega, fun k q h => hD.2 _ q (h0l k q h)⟩
  have hAA : ∀ q, va_A [(h1, raw)] H.size q → A q := by
    rintro q (⟨k, e, h⟩ | h)
    · exact hD1.2 k _ h
    · exact hA q (Nat.le_trans hS.1 h)
  have hG : GoodIn zTg (.code y cb nB none :: zTg) := zgood fun w hw' => by
    rcases List.mem_cons.mp hw' with rfl | h
    · exact hw.2.2.2
    · exact h
  refine zx_new (va_runI (As := []) (rest := st) ⟨hx, hb, hml, hown, hts⟩ hM (cwI 0 hts hG rfl rfl rfl (hts _ hw.2.2.1) (hts _ hw.1) (hts _ hw.2.1) hy.1 hy.2 ⟨hfr, hlo⟩) ⟨?_, fun U hU hW => ⟨rfl, by rw [hU], by rw [hU]; exact hP1, va_K.moved hW.alike hK, hD1.weaken fun _ _ _ _ => trivial, by rw [hU]; exact zEv.warm hW ((hE.kept hS.2.1).narrow hAA fun _ => rfl), hAr.moved hW.alike⟩⟩ rfl rfl hl.1 rfl (by show 2 * 0 + _ ≤ 8; omega) hd ⟨hck, hsk⟩) hS (fun q _ h => hAA q h) hAA fun v w1 H1 locs1 hB hP2 hD2 hz hk hS1 => ?_
  · rintro a U g mk ⟨q0, q1, q2, q3, q4, q5, q6⟩
    exact ⟨q0, q1, q2, va_K.moved (u := U) (U := U.calling g mk a) (Vm.Alike.refl U.vm) q3, q4, zEv.same (s := U) (U := U.calling g mk a) rfl q5, q6.moved (s := U) (U := U.calling g mk a) (Vm.Alike.refl U.vm)⟩
  · obtain ⟨a1, a2⟩ := zx_beside hP hD hk hAA hP2 hD2
    obtain ⟨rfl, hB⟩ := hB
    exact kk w1 hB H1 locs1 ls hl a1 a2 hS1
/-- the same, of a nest mate's private constructor -/
theorem zn_callN (F : zLr X cc nL own) {host : String} (hC : zMk y cb nB fb lb mcc msc raw Bo) (hd : decode cc pc = .ok (.invokespecial idx, 3)) (hw : Cond.methodLinkNest own idx y host ∈ zNws ∧ Cond.instanceMethod y ∈ zTg ∧ Cond.initialized y.cls ∈ zTg ∧ Cond.code y cb nB none ∈ zTg) (hy : y.name = "<init>" ∧ y.cls ≠ "java/lang/invoke/MethodHandle" ∧ y.cls ≠ "java/lang/invoke/VarHandle" ∧ (parseMethodDescriptor y.desc).map (fun d => d.parameters.length) = some 0) (hws : ws = ws0 ++ [(h1, raw)]) (hcs : (st.map fun v => v.category).sum ≤ 8) (hfr : fb + 1 ≤ fr) (hlo : 8 + (nB + 11) + lb ≤ lo) (hck : ck + mcc ≤ mc) (hsk : sk + msc ≤ ms)
    (kk : ∀ w1, Bo X.2.2.2.2.2.2.2.2.2.2.1 h1 w1 → zN X mc ms fr lo B nL (pc + 3) lv st (ws0 ++ w1) (ck + mcc) (sk + msc)) : zN X mc ms fr lo B nL pc lv (.ref h1 :: st) ws ck sk := by
  obtain ⟨p, l, e, s, m, args, below, meth, c, D, cA, ad, A⟩ := X
  obtain ⟨⟨hx, hb, hml, hown, hts, hlk, hK, hA, hE, htr⟩, hAr⟩ := F
  subst hws
  intro H locs ls hl hP hD hS
  have hM := hC l htr D cA ad h1 H.size
  have hlast : (ws0 ++ [(h1, raw)])[ws0.length]? = some (h1, raw) := by rw [List.getElem?_append_right (Nat.le_refl _), Nat.sub_self]; rfl
  have h0l : ∀ (k : Nat) (q : Nat × va_E), ([(h1, raw)] : va_W)[k]? = some q → (ws0 ++ [(h1, raw)])[ws0.length + k]? = some q := fun k q h => by rw [List.getElem?_append_right (Nat.le_add_right _ _), Nat.add_sub_cancel_left]; exact h
  have hP1 : va_P D zcl [(h1, raw)] H := fun k q h => hP _ q (h0l k q h)
  have hD1 : va_D A [(h1, raw)] := ⟨fun i j x y hi hj _ => by
    have a1 : i < 1 := (List.getElem?_eq_some_iff.mp hi).1
    have a2 : j < 1 := (List.getElem?_eq_some_iff.mp hj).1
    omega, fun k q h => hD.2 _ q (h0l k q h)⟩
  have hAA : ∀ q, va_A [(h1, raw)] H.size q → A q := by
    rintro q (⟨k, e, h⟩ | h)
    · exact hD1.2 k _ h
    · exact hA q (Nat.le_trans hS.1 h)
  have hG : GoodIn zTg (.code y cb nB none :: zTg) := zgood fun w hw' => by
    rcases List.mem_cons.mp hw' with rfl | h
    · exact hw.2.2.2
    · exact h
  refine zx_new (va_runIN (As := []) (rest := st) ⟨hx, hb, hml, hown, hts⟩ hM ⟨va_cnB 0 hts hG rfl rfl rfl (hE.2.2.1 _ hw.1) (hts _ hw.2.2.1) hy.2 ⟨hfr, hlo⟩, hy.1, hts _ hw.2.1⟩ ⟨?_, fun U hU hW => ⟨rfl, by rw [hU], by rw [hU]; exact hP1, va_K.moved hW.alike hK, hD1.weaken fun _ _ _ _ => trivial, by rw [hU]; exact zEv.warm hW ((hE.kept hS.2.1).narrow hAA fun _ => rfl), hAr.moved hW.alike⟩⟩ rfl rfl hl.1 rfl (by show 2 * 0 + _ ≤ 8; omega) hd ⟨hck, hsk⟩) hS (fun q _ h => hAA q h) hAA fun v w1 H1 locs1 hB hP2 hD2 hz hk hS1 => ?_
  · rintro a U g mk ⟨q0, q1, q2, q3, q4, q5, q6⟩
    exact ⟨q0, q1, q2, va_K.moved (u := U) (U := U.calling g mk a) (Vm.Alike.refl U.vm) q3, q4, zEv.same (s := U) (U := U.calling g mk a) rfl q5, q6.moved (s := U) (U := U.calling g mk a) (Vm.Alike.refl U.vm)⟩
  · obtain ⟨a1, a2⟩ := zx_beside hP hD hk hAA hP2 hD2
    obtain ⟨rfl, hB⟩ := hB
    exact kk w1 hB H1 locs1 ls hl a1 a2 hS1
end ZND
abbrev zcA (X : zX) : Nat → ClassId := X.2.2.2.2.2.2.2.2.2.2.1
theorem zn_ws {X : zX} {nL : Nat} {mc ms fr lo pc ck sk : Nat} {B : State → Prop} {lv : List (Nat × Value)} {st : List Value} {ws ws' : va_W} (h : ws = ws') (kk : zN X mc ms fr lo B nL pc lv st ws' ck sk) : zN X mc ms fr lo B nL pc lv st ws ck sk := by
  rw [h]
  exact kk
