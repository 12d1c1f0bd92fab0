/-! ===== the judgement ===== -/
abbrev zX : Type := Program × Launch × Env × State × MethodId × Array Value × List Frame × Method × Code × va_G × (Nat → ClassId) × (zR → Nat) × (Nat → Prop)
def ztl (cA : Nat → ClassId) : List (ClassId × FieldType) := (List.range zTn).map fun j => (cA j, zty j)
theorem ztl_at {cA : Nat → ClassId} {j : Nat} (h : j < zTn) : (ztl cA)[j]? = some (cA j, zty j) := by
  unfold ztl
  rw [List.getElem?_map, List.getElem?_range h]
  rfl
/-- what stands around: arrays of constants, texts, words of the tables -/
def zEv (ad : zR → Nat) (A : Nat → Prop) (s : State) (H : Heap) : Prop :=
  (∀ (j : Nat) (q : String × String × List Int32), zst[j]? = some q → va_Z q.1 q.2.1 "[I" (.ref (ad (100 + j, 0, 0))) A s H ∧ va_T .int (ad (100 + j, 0, 0)) q.2.2.length (fun i => .int (q.2.2.getD i 0)) A s H) ∧
  (∀ q ∈ zstr, ∃ a : Nat, vk_R q.1 q.2.1 q.2.2 a s) ∧ (∀ w ∈ zNws, va_Nw w s) ∧
  vx_Zq Bundle.tN "UNASSIGNED_STACK" Bundle.steD A s H ∧ vx_Zq Bundle.tN "SUPPRESSED_SENTINEL" Bundle.listD A s H
theorem zNw_on {w : Cond} (h : zkw w = true) : w.onTables = true := by
  cases w <;> first | rfl | cases h
theorem zNw_warm {w : Cond} (h : zkw w = true) {s U : State} (hW : s.WarmedH U.vm) (hz : va_Nw w s) : va_Nw w U := by
  cases w <;> first | (cases h; done) | exact va_Nw.warmC hW hz | exact va_Nw.warmD hW hz | exact va_Nw.warmF hW hz | exact va_Nw.warmM hW hz
theorem zEv.warm {ad : zR → Nat} {A : Nat → Prop} {s U : State} {H : Heap} (hW : s.WarmedH U.vm) (h : zEv ad A s H) : zEv ad A U H := by
  obtain ⟨h1, h2, h3, h4, h5⟩ := h
  exact ⟨fun j q hq => ⟨va_Z.moved hW.alike (h1 j q hq).1, va_T.moved hW.alike (h1 j q hq).2⟩, fun q hq => (h2 q hq).imp fun a ha => vk_R.warm hW ha, fun w hw => zNw_warm (List.all_eq_true.mp zNws_ok w hw) hW (h3 w hw), vx_Zq.moved hW.alike h4, vx_Zq.moved hW.alike h5⟩
theorem zEv.same {ad : zR → Nat} {A : Nat → Prop} {s U : State} {H : Heap} (hv : U.vm = s.vm) (h : zEv ad A s H) : zEv ad A U H := by
  obtain ⟨h1, h2, h3, h4, h5⟩ := h
  have hal : s.vm.Alike U.vm := by rw [hv]; exact Vm.Alike.refl _
  exact ⟨fun j q hq => ⟨va_Z.moved hal (h1 j q hq).1, va_T.moved hal (h1 j q hq).2⟩, fun q hq => (h2 q hq).imp fun a ha => vk_R.same hv ha, fun w hw => va_Nw.same (zNw_on (List.all_eq_true.mp zNws_ok w hw)) hv.symm (h3 w hw), vx_Zq.moved hal h4, vx_Zq.moved hal h5⟩
theorem zEv.kept {ad : zR → Nat} {A : Nat → Prop} {s : State} {H H1 : Heap} (h : zEv ad A s H) (hq : ∀ a : Nat, a < H.size → ¬ A a → H1[a]? = H[a]?) : zEv ad A s H1 := by
  obtain ⟨h1, h2, h3, h4, h5⟩ := h
  exact ⟨fun j q hj => ⟨(h1 j q hj).1.kept hq, (h1 j q hj).2.kept hq⟩, h2, h3, h4.kept hq, h5.kept hq⟩
theorem zEv.narrow {ad ad' : zR → Nat} {A B : Nat → Prop} {s : State} {H : Heap} (h : zEv ad A s H) (hAB : ∀ q, B q → A q) (had : ∀ j, ad' (100 + j, 0, 0) = ad (100 + j, 0, 0)) : zEv ad' B s H := by
  obtain ⟨h1, h2, h3, h4, h5⟩ := h
  exact ⟨fun j q hj => by rw [had]; exact ⟨(h1 j q hj).1.narrow hAB, (h1 j q hj).2.narrow hAB⟩, h2, h3, h4.narrow hAB, h5.narrow hAB⟩
/-- a frame of a method of the class own: its code, the machine's, the tables', the classes that are known -/
def zFr (X : zX) (cc : ByteArray) (nL : Nat) (own : String) (ret : Option FieldType) : Prop := match X with
  | (p, l, e, s, m, args, below, meth, c, D, cA, ad, A) => p.tables.exec = Jvm.exec ∧ c.code = cc ∧ c.maxLocals = nL ∧ s.vm.findClass own = some m.cls ∧ (∀ w ∈ zTg, w.before args s = true) ∧ meth.locks = false ∧ va_K D zcl (ztl cA) s ∧ (∀ q : Nat, s.heap.size ≤ q → A q) ∧ zEv ad A s s.heap ∧ l.stackTraces = false ∧ (∀ x ∈ c.exceptionTable.toList, False) ∧ meth.sig.returnType = ret
def zrm (fr lo : Nat) (o : zO) : Room := match o.1 with
  | .inl _ => { frames := fr, cells := 0, slots := 0, locals := lo }
  | .inr _ => { frames := fr, cells := 1, slots := 6, locals := lo }
theorem zrm_f (fr lo : Nat) (o : zO) : (zrm fr lo o).frames = fr := by unfold zrm; split <;> rfl
theorem zrm_l (fr lo : Nat) (o : zO) : (zrm fr lo o).locals = lo := by unfold zrm; split <;> rfl
def zQc (D : va_G) (cA : Nat → ClassId) (ad : zR → Nat) (A : Nat → Prop) (Rg : List zD) (v : Option zV) (Ms : List zM) : Array Value → State → Outcome → State → Prop := fun _ st oc t =>
  oc = .returned (v.map (zt ad)) ∧ va_P D zcl (zwl cA ad Rg Ms) t.heap ∧ va_F A st t
def zXc (D : va_G) (cA : Nat → ClassId) (ad : zR → Nat) (A : Nat → Prop) (Rg : List zD) (E : String) (Ms : List zM) : String → State → State → Prop := fun E' st t =>
  E' = E ∧ va_P D zcl (zwl cA ad Rg Ms) t.heap ∧ va_F A st t
def zNo : Array Value → State → Outcome → State → Prop := fun _ _ _ _ => False
def zQ (X : zX) (Rg : List zD) (o : zO) : State → Prop := match X with
  | (p, l, e, s, m, args, below, meth, c, D, cA, ad, A) => match o.1 with
    | .inl v => MQ below (zQc D cA ad A Rg v o.2) args s 0 0 A
    | .inr E => vx_MQ below zNo (zXc D cA ad A Rg E o.2) args s 1 6 A
/-- from pc, with these locals, this stack, these memories: the method comes to the outcome φ, if that is one -/
def zZ (X : zX) (Rg : List zD) (fr lo nL pc : Nat) (L : List (Option zV)) (st : List zV) (Ms : List zM) (φ : Option zO) : Prop := match X with
  | (p, l, e, s, m, args, below, meth, c, D, cA, ad, A) => ∀ o : zO, φ = some o → ∀ (H : Heap) (locs : List Loc) (ls : Array Slot), zlv ad nL ls L → va_P D zcl (zwl cA ad Rg Ms) H → va_D A (zwl cA ad Rg Ms) → va_S A s.heap H locs →
      W p l e (zrm fr lo o) s m args below meth c H locs 0 0 (zQ (p, l, e, s, m, args, below, meth, c, D, cA, ad, A) Rg o) (F0 m pc ls (st.map (zt ad)))
theorem zlb {a b : Nat} (h : Nat.ble (a + 1) b = true) : a < b := Nat.le_of_ble_eq_true h
def zmax (x y : Int32) : Int32 := if x < y then y else x
def zmin (x y : Int32) : Int32 := if y < x then y else x
def zabs (x : Int32) : Int32 := if 0 ≤ x then x else 0 - x
theorem zsw_out {v lw hi : Int32} {a b : Int} (ha : lw.toInt = a) (hb : hi.toInt = b) (h : v < lw ∨ hi < v) : v.toInt < a ∨ b < v.toInt := by
  subst ha; subst hb
  rcases h with h | h
  · exact Or.inl (Int32.lt_iff_toInt_lt.mp h)
  · exact Or.inr (Int32.lt_iff_toInt_lt.mp h)
theorem zsw_in {v lw hi : Int32} {a b : Int} (ha : lw.toInt = a) (hb : hi.toInt = b) (h : ¬ (v < lw ∨ hi < v)) : a ≤ v.toInt ∧ v.toInt ≤ b := by
  subst ha; subst hb
  exact ⟨Int.not_lt.mp fun q => h (Or.inl (Int32.lt_iff_toInt_lt.mpr q)), Int.not_lt.mp fun q => h (Or.inr (Int32.lt_iff_toInt_lt.mpr q))⟩
theorem zsw_at {v k : Int32} {a : Int} (hv : v = k) (hk : k.toInt = a) : v.toInt = a := by rw [hv]; exact hk
theorem zsw_ne {v k : Int32} {a : Int} (hk : k.toInt = a) (h : ¬ v = k) : v.toInt ≠ a := fun q => h (Int32.toInt_inj.mp (q.trans hk.symm))
theorem zsw_eq {v k : Int32} {a : Int} (hk : k.toInt = a) (h : v.toInt = a) : v = k := Int32.toInt_inj.mp (h.trans hk.symm)
section ZZ
variable {X : zX} {cc : ByteArray} {nL : Nat} {own : String} {ret : Option FieldType} {Rg : List zD} {fr lo pc : Nat} {L L' : List (Option zV)} {st : List zV} {Ms : List zM} {φ : Option zO} {α β : Type}
/-! what the value φ is made of -/
theorem zz_some {a : α} {κ : α → Option zO} (k : zZ X Rg fr lo nL pc L st Ms (κ a)) : zZ X Rg fr lo nL pc L st Ms (Option.bind (some a) κ) := k
theorem zz_bind {x : Option α} {f : α → Option β} {κ : β → Option zO} (k : zZ X Rg fr lo nL pc L st Ms (Option.bind x fun a => Option.bind (f a) κ)) : zZ X Rg fr lo nL pc L st Ms (Option.bind (Option.bind x f) κ) := by
  cases x <;> exact k
theorem zz_t {c : Prop} [Decidable c] {a b : Option α} {κ : α → Option zO} (h : c) (k : zZ X Rg fr lo nL pc L st Ms (Option.bind a κ)) : zZ X Rg fr lo nL pc L st Ms (Option.bind (if c then a else b) κ) := by
  rw [if_pos h]
  exact k
theorem zz_f {c : Prop} [Decidable c] {a b : Option α} {κ : α → Option zO} (h : ¬ c) (k : zZ X Rg fr lo nL pc L st Ms (Option.bind b κ)) : zZ X Rg fr lo nL pc L st Ms (Option.bind (if c then a else b) κ) := by
  rw [if_neg h]
  exact k
theorem zz_sw {c : Prop} [Decidable c] {a b : Option α} {κ : α → Option zO} (kt : c → zZ X Rg fr lo nL pc L st Ms (Option.bind a κ)) (kf : ¬ c → zZ X Rg fr lo nL pc L st Ms (Option.bind b κ)) : zZ X Rg fr lo nL pc L st Ms (Option.bind (if c then a else b) κ) := by
  by_cases h : c
  · exact zz_t h (kt h)
  · exact zz_f h (kf h)
theorem zz_none {κ : α → Option zO} : zZ X Rg fr lo nL pc L st Ms (Option.bind none κ) := by
  obtain ⟨p, l, e, s, m, args, below, meth, c, D, cA, ad, A⟩ := X
  intro o ho
  cases ho
/-- a test that must hold for there to be an outcome -/
def zg {α : Type} (c : Prop) [Decidable c] (x : Option α) : Option α := if c then x else none
theorem zz_g {c : Prop} [Decidable c] {x : Option α} {κ : α → Option zO} (k : c → zZ X Rg fr lo nL pc L st Ms (Option.bind x κ)) : zZ X Rg fr lo nL pc L st Ms (Option.bind (zg c x) κ) := by
  unfold zg
  by_cases h : c
  · rw [if_pos h]
    exact k h
  · rw [if_neg h]
    exact zz_none
/-- a name for a value -/
def zlet {α β : Type} (a : α) (f : α → β) : β := f a
theorem zz_let {a : α} {f : α → Option β} {κ : β → Option zO} (k : zZ X Rg fr lo nL pc L st Ms (Option.bind (f a) κ)) : zZ X Rg fr lo nL pc L st Ms (Option.bind (zlet a f) κ) := k
/-- an index into an array of n -/
def zix {α : Type} (i : Int32) (n : Nat) (f : Nat → Option α) : Option α := if i < 0 ∨ n ≤ i.toNatClampNeg then none else f i.toNatClampNeg
theorem zz_ix {i : Int32} {n : Nat} {f : Nat → Option α} {κ : α → Option zO} (k : ∀ j : Nat, j < n → vp_in i n → i.toNatClampNeg = j → zZ X Rg fr lo nL pc L st Ms (Option.bind (f j) κ)) : zZ X Rg fr lo nL pc L st Ms (Option.bind (zix i n f) κ) := by
  unfold zix
  by_cases h : i < 0 ∨ n ≤ i.toNatClampNeg
  · rw [if_pos h]
    exact zz_none
  · rw [if_neg h]
    exact k _ (Nat.not_le.mp fun q => h (Or.inr q)) h rfl
theorem zz_letm {a : α} {f : α → Option β} {κ : β → Option zO} {Mf : α → List zM} (k : ∀ v, zZ X Rg fr lo nL pc L st (Mf v) (Option.bind (f v) κ)) : zZ X Rg fr lo nL pc L st (Mf a) (Option.bind (zlet a f) κ) := k a
theorem zz_letl {a : α} {f : α → Option β} {κ : β → Option zO} {Lf : α → List (Option zV)} (k : ∀ v, zZ X Rg fr lo nL pc (Lf v) st Ms (Option.bind (f v) κ)) : zZ X Rg fr lo nL pc (Lf a) st Ms (Option.bind (zlet a f) κ) := k a
/-- a loop, at most n times round: a turn goes on (inl) or ends it (inr) -/
def ziter {σ β : Type} (b : σ → Option (σ ⊕ β)) : Nat → σ → Option β
  | 0, _ => none
  | n + 1, s => (b s).bind (Sum.elim (fun s' => ziter b n s') some)
theorem ziter_succ {σ β : Type} (b : σ → Option (σ ⊕ β)) (n : Nat) (s : σ) : ziter b (n + 1) s = (b s).bind (Sum.elim (ziter b n) some) := by
  rw [ziter]
theorem zz_iter {σ : Type} {b : σ → Option (σ ⊕ β)} {κ : β → Option zO} {Lf : σ → List (Option zV)} {Mf : σ → List zM} (h : ∀ (s : σ) (ψ : σ ⊕ β → Option zO), (∀ s', zZ X Rg fr lo nL pc (Lf s') st (Mf s') (ψ (.inl s'))) → (∀ x, ψ (.inr x) = κ x) → zZ X Rg fr lo nL pc (Lf s) st (Mf s) (Option.bind (b s) ψ)) : ∀ (n : Nat) (s : σ), zZ X Rg fr lo nL pc (Lf s) st (Mf s) (Option.bind (ziter b n s) κ)
  | 0, _ => zz_none
  | n + 1, s => by
    have h1 := h s (Sum.elim (fun s' => Option.bind (ziter b n s') κ) κ) (fun s' => zz_iter h n s') (fun _ => rfl)
    rw [ziter_succ]
    rw [show Option.bind ((b s).bind (Sum.elim (ziter b n) some)) κ = Option.bind (b s) (Sum.elim (fun s' => Option.bind (ziter b n s') κ) κ) by
      cases b s with
      | none => rfl
      | some r => cases r <;> rfl]
    exact h1
theorem zz_sub (hs : zsub L L') (k : zZ X Rg fr lo nL pc L' st Ms φ) : zZ X Rg fr lo nL pc L st Ms φ := by
  obtain ⟨p, l, e, s, m, args, below, meth, c, D, cA, ad, A⟩ := X
  exact fun o ho H locs ls hl hP hD hS => k o ho H locs ls (zlv_sub hl hs) hP hD hS

theorem zz_iadd (F : zFr X cc nL own ret) {x y : Int32} (hd : decode cc pc = .ok (.iadd, 1)) (k : zZ X Rg fr lo nL (pc + 1) L (zi (x + y) :: st) Ms φ) : zZ X Rg fr lo nL pc L (zi y :: zi x :: st) Ms φ := by
  obtain ⟨p, l, e, s, m, args, below, meth, c, D, cA, ad, A⟩ := X
  obtain ⟨hx, hb, hml, hown, hts, hlk, hK, hA, hE, htr, hex, hret⟩ := F
  exact fun o ho H locs ls hl hP hD hS => lv_iadd hx hb hd (k o ho H locs ls hl hP hD hS)

theorem zz_isub (F : zFr X cc nL own ret) {x y : Int32} (hd : decode cc pc = .ok (.isub, 1)) (k : zZ X Rg fr lo nL (pc + 1) L (zi (x - y) :: st) Ms φ) : zZ X Rg fr lo nL pc L (zi y :: zi x :: st) Ms φ := by
  obtain ⟨p, l, e, s, m, args, below, meth, c, D, cA, ad, A⟩ := X
  obtain ⟨hx, hb, hml, hown, hts, hlk, hK, hA, hE, htr, hex, hret⟩ := F
  exact fun o ho H locs ls hl hP hD hS => lv_isub hx hb hd (k o ho H locs ls hl hP hD hS)

theorem zz_imul (F : zFr X cc nL own ret) {x y : Int32} (hd : decode cc pc = .ok (.imul, 1)) (k : zZ X Rg fr lo nL (pc + 1) L (zi (x * y) :: st) Ms φ) : zZ X Rg fr lo nL pc L (zi y :: zi x :: st) Ms φ := by
  obtain ⟨p, l, e, s, m, args, below, meth, c, D, cA, ad, A⟩ := X
  obtain ⟨hx, hb, hml, hown, hts, hlk, hK, hA, hE, htr, hex, hret⟩ := F
  exact fun o ho H locs ls hl hP hD hS => lv_imul hx hb hd (k o ho H locs ls hl hP hD hS)

theorem zz_iand (F : zFr X cc nL own ret) {x y : Int32} (hd : decode cc pc = .ok (.iand, 1)) (k : zZ X Rg fr lo nL (pc + 1) L (zi (x &&& y) :: st) Ms φ) : zZ X Rg fr lo nL pc L (zi y :: zi x :: st) Ms φ := by
  obtain ⟨p, l, e, s, m, args, below, meth, c, D, cA, ad, A⟩ := X
  obtain ⟨hx, hb, hml, hown, hts, hlk, hK, hA, hE, htr, hex, hret⟩ := F
  exact fun o ho H locs ls hl hP hD hS => lv_iand hx hb hd (k o ho H locs ls hl hP hD hS)

theorem zz_ior (F : zFr X cc nL own ret) {x y : Int32} (hd : decode cc pc = .ok (.ior, 1)) (k : zZ X Rg fr lo nL (pc + 1) L (zi (x ||| y) :: st) Ms φ) : zZ X Rg fr lo nL pc L (zi y :: zi x :: st) Ms φ := by
  obtain ⟨p, l, e, s, m, args, below, meth, c, D, cA, ad, A⟩ := X
  obtain ⟨hx, hb, hml, hown, hts, hlk, hK, hA, hE, htr, hex, hret⟩ := F
  exact fun o ho H locs ls hl hP hD hS => lv_ior hx hb hd (k o ho H locs ls hl hP hD hS)

theorem zz_ixor (F : zFr X cc nL own ret) {x y : Int32} (hd : decode cc pc = .ok (.ixor, 1)) (k : zZ X Rg fr lo nL (pc + 1) L (zi (x ^^^ y) :: st) Ms φ) : zZ X Rg fr lo nL pc L (zi y :: zi x :: st) Ms φ := by
  obtain ⟨p, l, e, s, m, args, below, meth, c, D, cA, ad, A⟩ := X
  obtain ⟨hx, hb, hml, hown, hts, hlk, hK, hA, hE, htr, hex, hret⟩ := F
  exact fun o ho H locs ls hl hP hD hS => lv_ixor hx hb hd (k o ho H locs ls hl hP hD hS)

theorem zz_ishr (F : zFr X cc nL own ret) {x y : Int32} (hd : decode cc pc = .ok (.ishr, 1)) (k : zZ X Rg fr lo nL (pc + 1) L (zi (x >>> (y &&& 31)) :: st) Ms φ) : zZ X Rg fr lo nL pc L (zi y :: zi x :: st) Ms φ := by
  obtain ⟨p, l, e, s, m, args, below, meth, c, D, cA, ad, A⟩ := X
  obtain ⟨hx, hb, hml, hown, hts, hlk, hK, hA, hE, htr, hex, hret⟩ := F
  exact fun o ho H locs ls hl hP hD hS => lv_ishr hx hb hd (k o ho H locs ls hl hP hD hS)

theorem zz_ladd (F : zFr X cc nL own ret) {x y : Int64} (hd : decode cc pc = .ok (.ladd, 1)) (k : zZ X Rg fr lo nL (pc + 1) L (zl (x + y) :: st) Ms φ) : zZ X Rg fr lo nL pc L (zl y :: zl x :: st) Ms φ := by
  obtain ⟨p, l, e, s, m, args, below, meth, c, D, cA, ad, A⟩ := X
  obtain ⟨hx, hb, hml, hown, hts, hlk, hK, hA, hE, htr, hex, hret⟩ := F
  exact fun o ho H locs ls hl hP hD hS => lv_ladd hx hb hd (k o ho H locs ls hl hP hD hS)

theorem zz_lsub (F : zFr X cc nL own ret) {x y : Int64} (hd : decode cc pc = .ok (.lsub, 1)) (k : zZ X Rg fr lo nL (pc + 1) L (zl (x - y) :: st) Ms φ) : zZ X Rg fr lo nL pc L (zl y :: zl x :: st) Ms φ := by
  obtain ⟨p, l, e, s, m, args, below, meth, c, D, cA, ad, A⟩ := X
  obtain ⟨hx, hb, hml, hown, hts, hlk, hK, hA, hE, htr, hex, hret⟩ := F
  exact fun o ho H locs ls hl hP hD hS => lv_lsub hx hb hd (k o ho H locs ls hl hP hD hS)

theorem zz_lmul (F : zFr X cc nL own ret) {x y : Int64} (hd : decode cc pc = .ok (.lmul, 1)) (k : zZ X Rg fr lo nL (pc + 1) L (zl (x * y) :: st) Ms φ) : zZ X Rg fr lo nL pc L (zl y :: zl x :: st) Ms φ := by
  obtain ⟨p, l, e, s, m, args, below, meth, c, D, cA, ad, A⟩ := X
  obtain ⟨hx, hb, hml, hown, hts, hlk, hK, hA, hE, htr, hex, hret⟩ := F
  exact fun o ho H locs ls hl hP hD hS => lv_lmul hx hb hd (k o ho H locs ls hl hP hD hS)

theorem zz_idiv (F : zFr X cc nL own ret) {x y : Int32} (hd : decode cc pc = .ok (.idiv, 1)) (hne : ¬ y = 0) (k : zZ X Rg fr lo nL (pc + 1) L (zi (x / y) :: st) Ms φ) : zZ X Rg fr lo nL pc L (zi y :: zi x :: st) Ms φ := by
  obtain ⟨p, l, e, s, m, args, below, meth, c, D, cA, ad, A⟩ := X
  obtain ⟨hx, hb, hml, hown, hts, hlk, hK, hA, hE, htr, hex, hret⟩ := F
  exact fun o ho H locs ls hl hP hD hS => lv_idiv hx hb hd hne (k o ho H locs ls hl hP hD hS)

theorem zz_irem (F : zFr X cc nL own ret) {x y : Int32} (hd : decode cc pc = .ok (.irem, 1)) (hne : ¬ y = 0) (k : zZ X Rg fr lo nL (pc + 1) L (zi (x % y) :: st) Ms φ) : zZ X Rg fr lo nL pc L (zi y :: zi x :: st) Ms φ := by
  obtain ⟨p, l, e, s, m, args, below, meth, c, D, cA, ad, A⟩ := X
  obtain ⟨hx, hb, hml, hown, hts, hlk, hK, hA, hE, htr, hex, hret⟩ := F
  exact fun o ho H locs ls hl hP hD hS => lv_irem hx hb hd hne (by have h := k o ho H locs ls hl hP hD hS; rw [← irem_eq_mod] at h; exact h)

theorem zz_ineg (F : zFr X cc nL own ret) {x : Int32} (hd : decode cc pc = .ok (.ineg, 1)) (k : zZ X Rg fr lo nL (pc + 1) L (zi (-x) :: st) Ms φ) : zZ X Rg fr lo nL pc L (zi x :: st) Ms φ := by
  obtain ⟨p, l, e, s, m, args, below, meth, c, D, cA, ad, A⟩ := X
  obtain ⟨hx, hb, hml, hown, hts, hlk, hK, hA, hE, htr, hex, hret⟩ := F
  exact fun o ho H locs ls hl hP hD hS => lv_ineg hx hb hd (k o ho H locs ls hl hP hD hS)

theorem zz_i2l (F : zFr X cc nL own ret) {x : Int32} (hd : decode cc pc = .ok (.i2l, 1)) (k : zZ X Rg fr lo nL (pc + 1) L (zl x.toInt64 :: st) Ms φ) : zZ X Rg fr lo nL pc L (zi x :: st) Ms φ := by
  obtain ⟨p, l, e, s, m, args, below, meth, c, D, cA, ad, A⟩ := X
  obtain ⟨hx, hb, hml, hown, hts, hlk, hK, hA, hE, htr, hex, hret⟩ := F
  exact fun o ho H locs ls hl hP hD hS => lv_i2l hx hb hd rfl (k o ho H locs ls hl hP hD hS)

theorem zz_lcmp (F : zFr X cc nL own ret) {x y : Int64} (hd : decode cc pc = .ok (.lcmp, 1)) (k : zZ X Rg fr lo nL (pc + 1) L (zi (lg_cmp x y) :: st) Ms φ) : zZ X Rg fr lo nL pc L (zl y :: zl x :: st) Ms φ := by
  obtain ⟨p, l, e, s, m, args, below, meth, c, D, cA, ad, A⟩ := X
  obtain ⟨hx, hb, hml, hown, hts, hlk, hK, hA, hE, htr, hex, hret⟩ := F
  exact fun o ho H locs ls hl hP hD hS => W.lcmp hx hb hd (k o ho H locs ls hl hP hD hS)

theorem zz_iconst (F : zFr X cc nL own ret) {n : Int} {v : Int32} (hd : decode cc pc = .ok (.iconst n, 1)) (hv : Int32.ofInt n = v) (k : zZ X Rg fr lo nL (pc + 1) L (zi v :: st) Ms φ) : zZ X Rg fr lo nL pc L st Ms φ := by
  obtain ⟨p, l, e, s, m, args, below, meth, c, D, cA, ad, A⟩ := X
  obtain ⟨hx, hb, hml, hown, hts, hlk, hK, hA, hE, htr, hex, hret⟩ := F
  exact fun o ho H locs ls hl hP hD hS => lv_iconst hx hb hd hv (k o ho H locs ls hl hP hD hS)

theorem zz_bipush (F : zFr X cc nL own ret) {n : Int} {v : Int32} (hd : decode cc pc = .ok (.bipush n, 2)) (hv : (Int8.ofInt n).toInt32 = v) (k : zZ X Rg fr lo nL (pc + 2) L (zi v :: st) Ms φ) : zZ X Rg fr lo nL pc L st Ms φ := by
  obtain ⟨p, l, e, s, m, args, below, meth, c, D, cA, ad, A⟩ := X
  obtain ⟨hx, hb, hml, hown, hts, hlk, hK, hA, hE, htr, hex, hret⟩ := F
  exact fun o ho H locs ls hl hP hD hS => lv_bipush hx hb hd hv (k o ho H locs ls hl hP hD hS)

theorem zz_sipush (F : zFr X cc nL own ret) {n : Int} {v : Int32} (hd : decode cc pc = .ok (.sipush n, 3)) (hv : (Int16.ofInt n).toInt32 = v) (k : zZ X Rg fr lo nL (pc + 3) L (zi v :: st) Ms φ) : zZ X Rg fr lo nL pc L st Ms φ := by
  obtain ⟨p, l, e, s, m, args, below, meth, c, D, cA, ad, A⟩ := X
  obtain ⟨hx, hb, hml, hown, hts, hlk, hK, hA, hE, htr, hex, hret⟩ := F
  exact fun o ho H locs ls hl hP hD hS => lv_sipush hx hb hd hv (k o ho H locs ls hl hP hD hS)

theorem zz_lconst (F : zFr X cc nL own ret) {n : Fin 2} {v : Int64} (hd : decode cc pc = .ok (.lconst n, 1)) (hv : Int64.ofNat (n : Nat) = v) (k : zZ X Rg fr lo nL (pc + 1) L (zl v :: st) Ms φ) : zZ X Rg fr lo nL pc L st Ms φ := by
  obtain ⟨p, l, e, s, m, args, below, meth, c, D, cA, ad, A⟩ := X
  obtain ⟨hx, hb, hml, hown, hts, hlk, hK, hA, hE, htr, hex, hret⟩ := F
  exact fun o ho H locs ls hl hP hD hS => lv_lconst hx hb hd hv (k o ho H locs ls hl hP hD hS)

theorem zz_ldc2 (F : zFr X cc nL own ret) {idx : Nat} {v : Int64} (hd : decode cc pc = .ok (.ldc2_w idx, 3)) (hw : Cond.constantLong own idx v ∈ zTg) (k : zZ X Rg fr lo nL (pc + 3) L (zl v :: st) Ms φ) : zZ X Rg fr lo nL pc L st Ms φ := by
  obtain ⟨p, l, e, s, m, args, below, meth, c, D, cA, ad, A⟩ := X
  obtain ⟨hx, hb, hml, hown, hts, hlk, hK, hA, hE, htr, hex, hret⟩ := F
  exact fun o ho H locs ls hl hP hD hS => lv_ldc2 hx hb hown (hts _ hw) hd (k o ho H locs ls hl hP hD hS)

theorem zz_dup (F : zFr X cc nL own ret) {u : zV} (hd : decode cc pc = .ok (.dup, 1)) (uc : zcat u = 1) (k : zZ X Rg fr lo nL (pc + 1) L (u :: u :: st) Ms φ) : zZ X Rg fr lo nL pc L (u :: st) Ms φ := by
  obtain ⟨p, l, e, s, m, args, below, meth, c, D, cA, ad, A⟩ := X
  obtain ⟨hx, hb, hml, hown, hts, hlk, hK, hA, hE, htr, hex, hret⟩ := F
  exact fun o ho H locs ls hl hP hD hS => lv_dup hx hb hd ((zcat_t ad u).trans uc) (k o ho H locs ls hl hP hD hS)

theorem zz_pop (F : zFr X cc nL own ret) {u : zV} (hd : decode cc pc = .ok (.pop, 1)) (uc : zcat u = 1) (k : zZ X Rg fr lo nL (pc + 1) L st Ms φ) : zZ X Rg fr lo nL pc L (u :: st) Ms φ := by
  obtain ⟨p, l, e, s, m, args, below, meth, c, D, cA, ad, A⟩ := X
  obtain ⟨hx, hb, hml, hown, hts, hlk, hK, hA, hE, htr, hex, hret⟩ := F
  exact fun o ho H locs ls hl hP hD hS => lv_pop hx hb hd ((zcat_t ad u).trans uc) (k o ho H locs ls hl hP hD hS)

theorem zz_dup2 (F : zFr X cc nL own ret) {u v : zV} (hd : decode cc pc = .ok (.dup2, 1)) (uc : zcat u = 1) (vc : zcat v = 1) (k : zZ X Rg fr lo nL (pc + 1) L (u :: v :: u :: v :: st) Ms φ) : zZ X Rg fr lo nL pc L (u :: v :: st) Ms φ := by
  obtain ⟨p, l, e, s, m, args, below, meth, c, D, cA, ad, A⟩ := X
  obtain ⟨hx, hb, hml, hown, hts, hlk, hK, hA, hE, htr, hex, hret⟩ := F
  exact fun o ho H locs ls hl hP hD hS => lv_dup2_11 hx hb hd ((zcat_t ad u).trans uc) ((zcat_t ad v).trans vc) (k o ho H locs ls hl hP hD hS)

theorem zz_dup_x1 (F : zFr X cc nL own ret) {u v : zV} (hd : decode cc pc = .ok (.dup_x1, 1)) (uc : zcat u = 1) (vc : zcat v = 1) (k : zZ X Rg fr lo nL (pc + 1) L (u :: v :: u :: st) Ms φ) : zZ X Rg fr lo nL pc L (u :: v :: st) Ms φ := by
  obtain ⟨p, l, e, s, m, args, below, meth, c, D, cA, ad, A⟩ := X
  obtain ⟨hx, hb, hml, hown, hts, hlk, hK, hA, hE, htr, hex, hret⟩ := F
  exact fun o ho H locs ls hl hP hD hS => lv_dup_x1 hx hb hd ((zcat_t ad u).trans uc) ((zcat_t ad v).trans vc) (k o ho H locs ls hl hP hD hS)

theorem zz_goto (F : zFr X cc nL own ret) {off : Int} {tgt : Nat} (hd : decode cc pc = .ok (.goto off, 3)) (ht : (pc : Int) + off = (tgt : Int)) (k : zZ X Rg fr lo nL tgt L st Ms φ) : zZ X Rg fr lo nL pc L st Ms φ := by
  obtain ⟨p, l, e, s, m, args, below, meth, c, D, cA, ad, A⟩ := X
  obtain ⟨hx, hb, hml, hown, hts, hlk, hK, hA, hE, htr, hex, hret⟩ := F
  exact fun o ho H locs ls hl hP hD hS => lv_goto hx hb hd ht (k o ho H locs ls hl hP hD hS)

theorem zz_iload_n (F : zFr X cc nL own ret) {j : Fin 4} {i : Nat} {x : Int32} (hd : decode cc pc = .ok (.iload_n j, 1)) (hi : (j : Nat) = i) (hL : L[i]? = some (some (zi x))) (k : zZ X Rg fr lo nL (pc + 1) L (zi x :: st) Ms φ) : zZ X Rg fr lo nL pc L st Ms φ := by
  obtain ⟨p, l, e, s, m, args, below, meth, c, D, cA, ad, A⟩ := X
  obtain ⟨hx, hb, hml, hown, hts, hlk, hK, hA, hE, htr, hex, hret⟩ := F
  exact fun o ho H locs ls hl hP hD hS => lv_iload_n hx hb hd hi (hl.2.2 _ _ hL) (k o ho H locs ls hl hP hD hS)

theorem zz_iload (F : zFr X cc nL own ret) {i : Nat} {x : Int32} (hd : decode cc pc = .ok (.iload i, 2)) (hL : L[i]? = some (some (zi x))) (k : zZ X Rg fr lo nL (pc + 2) L (zi x :: st) Ms φ) : zZ X Rg fr lo nL pc L st Ms φ := by
  obtain ⟨p, l, e, s, m, args, below, meth, c, D, cA, ad, A⟩ := X
  obtain ⟨hx, hb, hml, hown, hts, hlk, hK, hA, hE, htr, hex, hret⟩ := F
  exact fun o ho H locs ls hl hP hD hS => lv_iload hx hb hd (hl.2.2 _ _ hL) (k o ho H locs ls hl hP hD hS)

theorem zz_aload_n (F : zFr X cc nL own ret) {j : Fin 4} {i : Nat} {r q q2 : Nat} (hd : decode cc pc = .ok (.aload_n j, 1)) (hi : (j : Nat) = i) (hL : L[i]? = some (some (zr r q q2))) (k : zZ X Rg fr lo nL (pc + 1) L (zr r q q2 :: st) Ms φ) : zZ X Rg fr lo nL pc L st Ms φ := by
  obtain ⟨p, l, e, s, m, args, below, meth, c, D, cA, ad, A⟩ := X
  obtain ⟨hx, hb, hml, hown, hts, hlk, hK, hA, hE, htr, hex, hret⟩ := F
  exact fun o ho H locs ls hl hP hD hS => lv_aload_n hx hb hd hi (hl.2.2 _ _ hL) (k o ho H locs ls hl hP hD hS)

theorem zz_aload (F : zFr X cc nL own ret) {i : Nat} {r q q2 : Nat} (hd : decode cc pc = .ok (.aload i, 2)) (hL : L[i]? = some (some (zr r q q2))) (k : zZ X Rg fr lo nL (pc + 2) L (zr r q q2 :: st) Ms φ) : zZ X Rg fr lo nL pc L st Ms φ := by
  obtain ⟨p, l, e, s, m, args, below, meth, c, D, cA, ad, A⟩ := X
  obtain ⟨hx, hb, hml, hown, hts, hlk, hK, hA, hE, htr, hex, hret⟩ := F
  exact fun o ho H locs ls hl hP hD hS => lv_aload hx hb hd (hl.2.2 _ _ hL) (k o ho H locs ls hl hP hD hS)

theorem zz_lload_n (F : zFr X cc nL own ret) {j : Fin 4} {i : Nat} {x : Int64} (hd : decode cc pc = .ok (.lload_n j, 1)) (hi : (j : Nat) = i) (hL : L[i]? = some (some (zl x))) (k : zZ X Rg fr lo nL (pc + 1) L (zl x :: st) Ms φ) : zZ X Rg fr lo nL pc L st Ms φ := by
  obtain ⟨p, l, e, s, m, args, below, meth, c, D, cA, ad, A⟩ := X
  obtain ⟨hx, hb, hml, hown, hts, hlk, hK, hA, hE, htr, hex, hret⟩ := F
  exact fun o ho H locs ls hl hP hD hS => lv_lload_n hx hb hd hi (hl.2.2 _ _ hL) (k o ho H locs ls hl hP hD hS)

theorem zz_lload (F : zFr X cc nL own ret) {i : Nat} {x : Int64} (hd : decode cc pc = .ok (.lload i, 2)) (hL : L[i]? = some (some (zl x))) (k : zZ X Rg fr lo nL (pc + 2) L (zl x :: st) Ms φ) : zZ X Rg fr lo nL pc L st Ms φ := by
  obtain ⟨p, l, e, s, m, args, below, meth, c, D, cA, ad, A⟩ := X
  obtain ⟨hx, hb, hml, hown, hts, hlk, hK, hA, hE, htr, hex, hret⟩ := F
  exact fun o ho H locs ls hl hP hD hS => lv_lload hx hb hd (hl.2.2 _ _ hL) (k o ho H locs ls hl hP hD hS)

theorem zz_istore_n (F : zFr X cc nL own ret) {j : Fin 4} {i : Nat} {x : Int32} (hd : decode cc pc = .ok (.istore_n j, 1)) (hi : (j : Nat) = i) (hn : i < nL) (hsf : zsafe L i = true) (hL : L.set i (some (zi x)) = L') (k : zZ X Rg fr lo nL (pc + 1) L' st Ms φ) : zZ X Rg fr lo nL pc L (zi x :: st) Ms φ := by
  obtain ⟨p, l, e, s, m, args, below, meth, c, D, cA, ad, A⟩ := X
  obtain ⟨hx, hb, hml, hown, hts, hlk, hK, hA, hE, htr, hex, hret⟩ := F
  subst hL
  exact fun o ho H locs ls hl hP hD hS => lv_istore_n hx hb hd hi (zlv_has hl) hn rfl fun ls' h' => k o ho H locs ls' (zlv_set (v := zi x) hsf rfl h') hP hD hS

theorem zz_istore (F : zFr X cc nL own ret) {i : Nat} {x : Int32} (hd : decode cc pc = .ok (.istore i, 2)) (hn : i < nL) (hsf : zsafe L i = true) (hL : L.set i (some (zi x)) = L') (k : zZ X Rg fr lo nL (pc + 2) L' st Ms φ) : zZ X Rg fr lo nL pc L (zi x :: st) Ms φ := by
  obtain ⟨p, l, e, s, m, args, below, meth, c, D, cA, ad, A⟩ := X
  obtain ⟨hx, hb, hml, hown, hts, hlk, hK, hA, hE, htr, hex, hret⟩ := F
  subst hL
  exact fun o ho H locs ls hl hP hD hS => lv_istore hx hb hd (zlv_has hl) hn rfl fun ls' h' => k o ho H locs ls' (zlv_set (v := zi x) hsf rfl h') hP hD hS

theorem zz_astore_n (F : zFr X cc nL own ret) {j : Fin 4} {i : Nat} {r q q2 : Nat} (hd : decode cc pc = .ok (.astore_n j, 1)) (hi : (j : Nat) = i) (hn : i < nL) (hsf : zsafe L i = true) (hL : L.set i (some (zr r q q2)) = L') (k : zZ X Rg fr lo nL (pc + 1) L' st Ms φ) : zZ X Rg fr lo nL pc L (zr r q q2 :: st) Ms φ := by
  obtain ⟨p, l, e, s, m, args, below, meth, c, D, cA, ad, A⟩ := X
  obtain ⟨hx, hb, hml, hown, hts, hlk, hK, hA, hE, htr, hex, hret⟩ := F
  subst hL
  exact fun o ho H locs ls hl hP hD hS => lv_astore_n hx hb hd hi (zlv_has hl) hn rfl fun ls' h' => k o ho H locs ls' (zlv_set (v := zr r q q2) hsf rfl h') hP hD hS

theorem zz_astore (F : zFr X cc nL own ret) {i : Nat} {r q q2 : Nat} (hd : decode cc pc = .ok (.astore i, 2)) (hn : i < nL) (hsf : zsafe L i = true) (hL : L.set i (some (zr r q q2)) = L') (k : zZ X Rg fr lo nL (pc + 2) L' st Ms φ) : zZ X Rg fr lo nL pc L (zr r q q2 :: st) Ms φ := by
  obtain ⟨p, l, e, s, m, args, below, meth, c, D, cA, ad, A⟩ := X
  obtain ⟨hx, hb, hml, hown, hts, hlk, hK, hA, hE, htr, hex, hret⟩ := F
  subst hL
  exact fun o ho H locs ls hl hP hD hS => lv_astore hx hb hd (zlv_has hl) hn rfl fun ls' h' => k o ho H locs ls' (zlv_set (v := zr r q q2) hsf rfl h') hP hD hS

theorem zz_lstore_n (F : zFr X cc nL own ret) {j : Fin 4} {i : Nat} {x : Int64} (hd : decode cc pc = .ok (.lstore_n j, 1)) (hi : (j : Nat) = i) (hn : i + 1 < nL) (hsf : zsafe L i = true) (hL : (L.set i (some (zl x))).set (i + 1) none = L') (k : zZ X Rg fr lo nL (pc + 1) L' st Ms φ) : zZ X Rg fr lo nL pc L (zl x :: st) Ms φ := by
  obtain ⟨p, l, e, s, m, args, below, meth, c, D, cA, ad, A⟩ := X
  obtain ⟨hx, hb, hml, hown, hts, hlk, hK, hA, hE, htr, hex, hret⟩ := F
  subst hL
  exact fun o ho H locs ls hl hP hD hS => lv_lstore_n hx hb hd hi (zlv_has hl) hn rfl fun ls' h' => k o ho H locs ls' (zlv_setl hsf h') hP hD hS

theorem zz_lstore (F : zFr X cc nL own ret) {i : Nat} {x : Int64} (hd : decode cc pc = .ok (.lstore i, 2)) (hn : i + 1 < nL) (hsf : zsafe L i = true) (hL : (L.set i (some (zl x))).set (i + 1) none = L') (k : zZ X Rg fr lo nL (pc + 2) L' st Ms φ) : zZ X Rg fr lo nL pc L (zl x :: st) Ms φ := by
  obtain ⟨p, l, e, s, m, args, below, meth, c, D, cA, ad, A⟩ := X
  obtain ⟨hx, hb, hml, hown, hts, hlk, hK, hA, hE, htr, hex, hret⟩ := F
  subst hL
  exact fun o ho H locs ls hl hP hD hS => lv_lstore hx hb hd (zlv_has hl) hn rfl fun ls' h' => k o ho H locs ls' (zlv_setl hsf h') hP hD hS

theorem zz_iinc (F : zFr X cc nL own ret) {i : Nat} {n : Int} {x v : Int32} (hd : decode cc pc = .ok (.iinc i n, 3)) (hx0 : L[i]? = some (some (zi x))) (hv : x + Int32.ofInt n = v) (hn : i < nL) (hsf : zsafe L i = true) (hL : L.set i (some (zi v)) = L') (k : zZ X Rg fr lo nL (pc + 3) L' st Ms φ) : zZ X Rg fr lo nL pc L st Ms φ := by
  obtain ⟨p, l, e, s, m, args, below, meth, c, D, cA, ad, A⟩ := X
  obtain ⟨hx, hb, hml, hown, hts, hlk, hK, hA, hE, htr, hex, hret⟩ := F
  subst hL
  intro o ho H locs ls hl hP hD hS
  obtain ⟨j, hj⟩ := List.getElem?_of_mem (zll_mem (ad := ad) hx0)
  exact lv_iinc hx hb hd (zlv_has hl) hj hv hn rfl fun ls' h' => k o ho H locs ls' (zlv_set (v := zi v) hsf rfl h') hP hD hS

theorem zz_icmp_eq (F : zFr X cc nL own ret) {x y : Int32} {off : Int} {tgt : Nat} (hd : decode cc pc = .ok (.if_icmp .eq off, 3)) (ht : (pc : Int) + off = (tgt : Int)) (kt : x = y → zZ X Rg fr lo nL tgt L st Ms φ) (kf : ¬ (x = y) → zZ X Rg fr lo nL (pc + 3) L st Ms φ) : zZ X Rg fr lo nL pc L (zi y :: zi x :: st) Ms φ := by
  obtain ⟨p, l, e, s, m, args, below, meth, c, D, cA, ad, A⟩ := X
  obtain ⟨hx, hb, hml, hown, hts, hlk, hK, hA, hE, htr, hex, hret⟩ := F
  exact fun o ho H locs ls hl hP hD hS => lv_icmp_eq hx hb hd ht (fun h => kt h o ho H locs ls hl hP hD hS) (fun h => kf h o ho H locs ls hl hP hD hS)

theorem zz_if_eq (F : zFr X cc nL own ret) {x : Int32} {off : Int} {tgt : Nat} (hd : decode cc pc = .ok (.ifCond .eq off, 3)) (ht : (pc : Int) + off = (tgt : Int)) (kt : x = 0 → zZ X Rg fr lo nL tgt L st Ms φ) (kf : ¬ (x = 0) → zZ X Rg fr lo nL (pc + 3) L st Ms φ) : zZ X Rg fr lo nL pc L (zi x :: st) Ms φ := by
  obtain ⟨p, l, e, s, m, args, below, meth, c, D, cA, ad, A⟩ := X
  obtain ⟨hx, hb, hml, hown, hts, hlk, hK, hA, hE, htr, hex, hret⟩ := F
  exact fun o ho H locs ls hl hP hD hS => lv_if_eq hx hb hd ht (fun h => kt h o ho H locs ls hl hP hD hS) (fun h => kf h o ho H locs ls hl hP hD hS)

theorem zz_icmp_ne (F : zFr X cc nL own ret) {x y : Int32} {off : Int} {tgt : Nat} (hd : decode cc pc = .ok (.if_icmp .ne off, 3)) (ht : (pc : Int) + off = (tgt : Int)) (kt : ¬ x = y → zZ X Rg fr lo nL tgt L st Ms φ) (kf : x = y → zZ X Rg fr lo nL (pc + 3) L st Ms φ) : zZ X Rg fr lo nL pc L (zi y :: zi x :: st) Ms φ := by
  obtain ⟨p, l, e, s, m, args, below, meth, c, D, cA, ad, A⟩ := X
  obtain ⟨hx, hb, hml, hown, hts, hlk, hK, hA, hE, htr, hex, hret⟩ := F
  exact fun o ho H locs ls hl hP hD hS => lv_icmp_ne hx hb hd ht (fun h => kt h o ho H locs ls hl hP hD hS) (fun h => kf h o ho H locs ls hl hP hD hS)

theorem zz_if_ne (F : zFr X cc nL own ret) {x : Int32} {off : Int} {tgt : Nat} (hd : decode cc pc = .ok (.ifCond .ne off, 3)) (ht : (pc : Int) + off = (tgt : Int)) (kt : ¬ x = 0 → zZ X Rg fr lo nL tgt L st Ms φ) (kf : x = 0 → zZ X Rg fr lo nL (pc + 3) L st Ms φ) : zZ X Rg fr lo nL pc L (zi x :: st) Ms φ := by
  obtain ⟨p, l, e, s, m, args, below, meth, c, D, cA, ad, A⟩ := X
  obtain ⟨hx, hb, hml, hown, hts, hlk, hK, hA, hE, htr, hex, hret⟩ := F
  exact fun o ho H locs ls hl hP hD hS => lv_if_ne hx hb hd ht (fun h => kt h o ho H locs ls hl hP hD hS) (fun h => kf h o ho H locs ls hl hP hD hS)

theorem zz_icmp_lt (F : zFr X cc nL own ret) {x y : Int32} {off : Int} {tgt : Nat} (hd : decode cc pc = .ok (.if_icmp .lt off, 3)) (ht : (pc : Int) + off = (tgt : Int)) (kt : x < y → zZ X Rg fr lo nL tgt L st Ms φ) (kf : ¬ (x < y) → zZ X Rg fr lo nL (pc + 3) L st Ms φ) : zZ X Rg fr lo nL pc L (zi y :: zi x :: st) Ms φ := by
  obtain ⟨p, l, e, s, m, args, below, meth, c, D, cA, ad, A⟩ := X
  obtain ⟨hx, hb, hml, hown, hts, hlk, hK, hA, hE, htr, hex, hret⟩ := F
  exact fun o ho H locs ls hl hP hD hS => lv_icmp_lt hx hb hd ht (fun h => kt h o ho H locs ls hl hP hD hS) (fun h => kf h o ho H locs ls hl hP hD hS)

theorem zz_if_lt (F : zFr X cc nL own ret) {x : Int32} {off : Int} {tgt : Nat} (hd : decode cc pc = .ok (.ifCond .lt off, 3)) (ht : (pc : Int) + off = (tgt : Int)) (kt : x < 0 → zZ X Rg fr lo nL tgt L st Ms φ) (kf : ¬ (x < 0) → zZ X Rg fr lo nL (pc + 3) L st Ms φ) : zZ X Rg fr lo nL pc L (zi x :: st) Ms φ := by
  obtain ⟨p, l, e, s, m, args, below, meth, c, D, cA, ad, A⟩ := X
  obtain ⟨hx, hb, hml, hown, hts, hlk, hK, hA, hE, htr, hex, hret⟩ := F
  exact fun o ho H locs ls hl hP hD hS => lv_if_lt hx hb hd ht (fun h => kt h o ho H locs ls hl hP hD hS) (fun h => kf h o ho H locs ls hl hP hD hS)

theorem zz_icmp_ge (F : zFr X cc nL own ret) {x y : Int32} {off : Int} {tgt : Nat} (hd : decode cc pc = .ok (.if_icmp .ge off, 3)) (ht : (pc : Int) + off = (tgt : Int)) (kt : y ≤ x → zZ X Rg fr lo nL tgt L st Ms φ) (kf : ¬ (y ≤ x) → zZ X Rg fr lo nL (pc + 3) L st Ms φ) : zZ X Rg fr lo nL pc L (zi y :: zi x :: st) Ms φ := by
  obtain ⟨p, l, e, s, m, args, below, meth, c, D, cA, ad, A⟩ := X
  obtain ⟨hx, hb, hml, hown, hts, hlk, hK, hA, hE, htr, hex, hret⟩ := F
  exact fun o ho H locs ls hl hP hD hS => lv_icmp_ge hx hb hd ht (fun h => kt h o ho H locs ls hl hP hD hS) (fun h => kf h o ho H locs ls hl hP hD hS)

theorem zz_if_ge (F : zFr X cc nL own ret) {x : Int32} {off : Int} {tgt : Nat} (hd : decode cc pc = .ok (.ifCond .ge off, 3)) (ht : (pc : Int) + off = (tgt : Int)) (kt : 0 ≤ x → zZ X Rg fr lo nL tgt L st Ms φ) (kf : ¬ (0 ≤ x) → zZ X Rg fr lo nL (pc + 3) L st Ms φ) : zZ X Rg fr lo nL pc L (zi x :: st) Ms φ := by
  obtain ⟨p, l, e, s, m, args, below, meth, c, D, cA, ad, A⟩ := X
  obtain ⟨hx, hb, hml, hown, hts, hlk, hK, hA, hE, htr, hex, hret⟩ := F
  exact fun o ho H locs ls hl hP hD hS => lv_if_ge hx hb hd ht (fun h => kt h o ho H locs ls hl hP hD hS) (fun h => kf h o ho H locs ls hl hP hD hS)

theorem zz_icmp_gt (F : zFr X cc nL own ret) {x y : Int32} {off : Int} {tgt : Nat} (hd : decode cc pc = .ok (.if_icmp .gt off, 3)) (ht : (pc : Int) + off = (tgt : Int)) (kt : y < x → zZ X Rg fr lo nL tgt L st Ms φ) (kf : ¬ (y < x) → zZ X Rg fr lo nL (pc + 3) L st Ms φ) : zZ X Rg fr lo nL pc L (zi y :: zi x :: st) Ms φ := by
  obtain ⟨p, l, e, s, m, args, below, meth, c, D, cA, ad, A⟩ := X
  obtain ⟨hx, hb, hml, hown, hts, hlk, hK, hA, hE, htr, hex, hret⟩ := F
  exact fun o ho H locs ls hl hP hD hS => lv_icmp_gt hx hb hd ht (fun h => kt h o ho H locs ls hl hP hD hS) (fun h => kf h o ho H locs ls hl hP hD hS)

theorem zz_if_gt (F : zFr X cc nL own ret) {x : Int32} {off : Int} {tgt : Nat} (hd : decode cc pc = .ok (.ifCond .gt off, 3)) (ht : (pc : Int) + off = (tgt : Int)) (kt : 0 < x → zZ X Rg fr lo nL tgt L st Ms φ) (kf : ¬ (0 < x) → zZ X Rg fr lo nL (pc + 3) L st Ms φ) : zZ X Rg fr lo nL pc L (zi x :: st) Ms φ := by
  obtain ⟨p, l, e, s, m, args, below, meth, c, D, cA, ad, A⟩ := X
  obtain ⟨hx, hb, hml, hown, hts, hlk, hK, hA, hE, htr, hex, hret⟩ := F
  exact fun o ho H locs ls hl hP hD hS => lv_if_gt hx hb hd ht (fun h => kt h o ho H locs ls hl hP hD hS) (fun h => kf h o ho H locs ls hl hP hD hS)

theorem zz_icmp_le (F : zFr X cc nL own ret) {x y : Int32} {off : Int} {tgt : Nat} (hd : decode cc pc = .ok (.if_icmp .le off, 3)) (ht : (pc : Int) + off = (tgt : Int)) (kt : x ≤ y → zZ X Rg fr lo nL tgt L st Ms φ) (kf : ¬ (x ≤ y) → zZ X Rg fr lo nL (pc + 3) L st Ms φ) : zZ X Rg fr lo nL pc L (zi y :: zi x :: st) Ms φ := by
  obtain ⟨p, l, e, s, m, args, below, meth, c, D, cA, ad, A⟩ := X
  obtain ⟨hx, hb, hml, hown, hts, hlk, hK, hA, hE, htr, hex, hret⟩ := F
  exact fun o ho H locs ls hl hP hD hS => lv_icmp_le hx hb hd ht (fun h => kt h o ho H locs ls hl hP hD hS) (fun h => kf h o ho H locs ls hl hP hD hS)

theorem zz_if_le (F : zFr X cc nL own ret) {x : Int32} {off : Int} {tgt : Nat} (hd : decode cc pc = .ok (.ifCond .le off, 3)) (ht : (pc : Int) + off = (tgt : Int)) (kt : x ≤ 0 → zZ X Rg fr lo nL tgt L st Ms φ) (kf : ¬ (x ≤ 0) → zZ X Rg fr lo nL (pc + 3) L st Ms φ) : zZ X Rg fr lo nL pc L (zi x :: st) Ms φ := by
  obtain ⟨p, l, e, s, m, args, below, meth, c, D, cA, ad, A⟩ := X
  obtain ⟨hx, hb, hml, hown, hts, hlk, hK, hA, hE, htr, hex, hret⟩ := F
  exact fun o ho H locs ls hl hP hD hS => lv_if_le hx hb hd ht (fun h => kt h o ho H locs ls hl hP hD hS) (fun h => kf h o ho H locs ls hl hP hD hS)

theorem zz_tableOut (F : zFr X cc nL own ret) {dflt lw hi : Int} {offs : Array Int} {len tgt : Nat} {x : Int32} (hd : decode cc pc = .ok (.tableswitch dflt lw hi offs, len)) (h : x.toInt < lw ∨ hi < x.toInt) (ht : (pc : Int) + dflt = (tgt : Int)) (k : zZ X Rg fr lo nL tgt L st Ms φ) : zZ X Rg fr lo nL pc L (zi x :: st) Ms φ := by
  obtain ⟨p, l, e, s, m, args, below, meth, c, D, cA, ad, A⟩ := X
  obtain ⟨hx, hb, hml, hown, hts, hlk, hK, hA, hE, htr, hex, hret⟩ := F
  exact fun o ho H locs ls hl hP hD hS => lv_tableOut hx hb hd h ht (k o ho H locs ls hl hP hD hS)
theorem zz_tableIn (F : zFr X cc nL own ret) {dflt lw hi off : Int} {offs : Array Int} {len tgt : Nat} {x : Int32} (hd : decode cc pc = .ok (.tableswitch dflt lw hi offs, len)) (h1 : ¬ x.toInt < lw) (h2 : ¬ hi < x.toInt) (ho : offs[(x.toInt - lw).toNat]? = some off) (ht : (pc : Int) + off = (tgt : Int)) (k : zZ X Rg fr lo nL tgt L st Ms φ) : zZ X Rg fr lo nL pc L (zi x :: st) Ms φ := by
  obtain ⟨p, l, e, s, m, args, below, meth, c, D, cA, ad, A⟩ := X
  obtain ⟨hx, hb, hml, hown, hts, hlk, hK, hA, hE, htr, hex, hret⟩ := F
  exact fun o ho' H locs ls hl hP hD hS => lv_tableIn hx hb hd h1 h2 ho ht (k o ho' H locs ls hl hP hD hS)

theorem zz_ireturn (F : zFr X cc nL own ret) {x : Int32} (hd : decode cc pc = .ok (.ireturn, 1)) (hr : ret = some .int) (hφ : φ = some (.inl (some (zi x)), Ms)) : zZ X Rg fr lo nL pc L [zi x] Ms φ := by
  obtain ⟨p, l, e, s, m, args, below, meth, c, D, cA, ad, A⟩ := X
  obtain ⟨hx, hb, hml, hown, hts, hlk, hK, hA, hE, htr, hex, hret⟩ := F
  intro o ho H locs ls hl hP hD hS
  rw [hφ] at ho
  cases ho
  exact W.iret hx hb (hret.trans hr) (fun t ht hW => ⟨rfl, by rw [ht]; exact hP, hS.F ht⟩) hS.2.2 hd hlk
theorem zz_zreturn (F : zFr X cc nL own ret) {x : Int32} (hd : decode cc pc = .ok (.ireturn, 1)) (hr : ret = some .boolean) (hn : narrow .boolean (.int x) = .int x) (hφ : φ = some (.inl (some (zi x)), Ms)) : zZ X Rg fr lo nL pc L [zi x] Ms φ := by
  obtain ⟨p, l, e, s, m, args, below, meth, c, D, cA, ad, A⟩ := X
  obtain ⟨hx, hb, hml, hown, hts, hlk, hK, hA, hE, htr, hex, hret⟩ := F
  intro o ho H locs ls hl hP hD hS
  rw [hφ] at ho
  cases ho
  exact W.zret hx hb (hret.trans hr) hn (fun t ht hW => ⟨rfl, by rw [ht]; exact hP, hS.F ht⟩) hS.2.2 hd hlk
theorem zz_lreturn (F : zFr X cc nL own ret) {x : Int64} (hd : decode cc pc = .ok (.lreturn, 1)) (hr : ret = some .long) (hφ : φ = some (.inl (some (zl x)), Ms)) : zZ X Rg fr lo nL pc L [zl x] Ms φ := by
  obtain ⟨p, l, e, s, m, args, below, meth, c, D, cA, ad, A⟩ := X
  obtain ⟨hx, hb, hml, hown, hts, hlk, hK, hA, hE, htr, hex, hret⟩ := F
  intro o ho H locs ls hl hP hD hS
  rw [hφ] at ho
  cases ho
  exact W.lret hx hb (hret.trans hr) (fun t ht hW => ⟨rfl, by rw [ht]; exact hP, hS.F ht⟩) hS.2.2 hd hlk
theorem zz_return (F : zFr X cc nL own ret) (hd : decode cc pc = .ok (.return_, 1)) (hr : ret = none) (hφ : φ = some (.inl none, Ms)) : zZ X Rg fr lo nL pc L [] Ms φ := by
  obtain ⟨p, l, e, s, m, args, below, meth, c, D, cA, ad, A⟩ := X
  obtain ⟨hx, hb, hml, hown, hts, hlk, hK, hA, hE, htr, hex, hret⟩ := F
  intro o ho H locs ls hl hP hD hS
  rw [hφ] at ho
  cases ho
  exact W.vret hx hb (hret.trans hr) (fun t ht hW => ⟨rfl, by rw [ht]; exact hP, hS.F ht⟩) hS.2.2 hd hlk

end ZZ
