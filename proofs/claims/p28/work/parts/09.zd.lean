/-! ===== calls as the program writes them ===== -/
section ZZD
variable {X : zX} {cc : ByteArray} {nL : Nat} {own : String} {ret : Option FieldType} {Rg Rg' : List zD} {fr lo pc : Nat} {L : List (Option zV)} {st S as : List zV} {Ms Ms' : List zM} {α β : Type} {x : Option α} {κ : α → Option zO}
variable {y : MethodName} {cb : ByteArray} {nB fb lb idx n : Nat} {rb : Option FieldType} {C : String} {ρ : List Nat}
variable {vo : α → Option zV} {mo : α → List zM} {so : α → List zV} {Mo : α → List zM}
theorem zz_callVr (F : zFr X cc nL own ret) {r0 k0 i0 ci nf N : Nat} {T : u_T} (hC : ∀ a, x = some a → zMet y cb nB rb fb lb Rg' (zr r0 k0 i0 :: as) Ms' (.inl (vo a), mo a)) (hd : decode cc pc = .ok (.invokevirtual idx, 3))
    (hw : Cond.methodLink own idx y ∈ zTg ∧ Cond.instanceMethod y ∈ zTg ∧ Cond.selects C y y ∈ zTg ∧ Cond.initialized C ∈ zTg ∧ Cond.code y cb nB rb ∈ zTg) (hy : y.cls = C ∧ y.cls ≠ "java/lang/invoke/MethodHandle" ∧ y.cls ≠ "java/lang/invoke/VarHandle" ∧ (parseMethodDescriptor y.desc).map (fun d => d.parameters.length) = some n) (hn : as.length = n)
    (hcall : zCall fr lo fb lb nB st ρ Rg Rg' Ms Ms') (hin0 : zin Rg' (r0, k0, i0)) (hsh : (zsh (zty' Rg' r0) k0).2 = .inl (ci, nf)) (hci : zcl[ci]? = some (C, T, N)) (hS0 : S = (as.map (zmv ρ)).reverse ++ zmv ρ (zr r0 k0 i0) :: st)
    (hso : ∀ a, ((vo a).map (zmv ρ)).toList ++ st = so a) (hMo : ∀ a, zput ρ Ms (mo a) = Mo a) (kk : ∀ a, zZ X Rg fr lo nL (pc + 3) L (so a) (Mo a) (κ a)) : zZ X Rg fr lo nL pc L S Ms (Option.bind x κ) :=
  zz_callV (toO := fun a => (.inl (vo a), mo a)) F hC hd hw hy hn hcall hin0 hsh hci hS0 fun a _ => by
    show zZ X Rg fr lo nL (pc + 3) L (((vo a).map (zmv ρ)).toList ++ st) (zput ρ Ms (mo a)) (κ a)
    rw [hso, hMo]
    exact kk a
theorem zz_callSr (F : zFr X cc nL own ret) (hC : ∀ a, x = some a → zMet y cb nB rb fb lb Rg' as Ms' (.inl (vo a), mo a)) (hd : decode cc pc = .ok (.invokestatic idx, 3))
    (hw : Cond.methodLink own idx y ∈ zTg ∧ Cond.static y ∈ zTg ∧ Cond.initialized y.cls ∈ zTg ∧ Cond.code y cb nB rb ∈ zTg) (hy : y.cls ≠ "java/lang/invoke/MethodHandle" ∧ y.cls ≠ "java/lang/invoke/VarHandle" ∧ (parseMethodDescriptor y.desc).map (fun d => d.parameters.length) = some n) (hn : as.length = n)
    (hcall : zCall fr lo fb lb nB st ρ Rg Rg' Ms Ms') (hS0 : S = (as.map (zmv ρ)).reverse ++ st)
    (hso : ∀ a, ((vo a).map (zmv ρ)).toList ++ st = so a) (hMo : ∀ a, zput ρ Ms (mo a) = Mo a) (kk : ∀ a, zZ X Rg fr lo nL (pc + 3) L (so a) (Mo a) (κ a)) : zZ X Rg fr lo nL pc L S Ms (Option.bind x κ) :=
  zz_callS (toO := fun a => (.inl (vo a), mo a)) F hC hd hw hy hn hcall hS0 fun a _ => by
    show zZ X Rg fr lo nL (pc + 3) L (((vo a).map (zmv ρ)).toList ++ st) (zput ρ Ms (mo a)) (κ a)
    rw [hso, hMo]
    exact kk a
theorem zz_callSNr (F : zFr X cc nL own ret) {host : String} (hC : ∀ a, x = some a → zMet y cb nB rb fb lb Rg' as Ms' (.inl (vo a), mo a)) (hd : decode cc pc = .ok (.invokestatic idx, 3))
    (hw : Cond.methodLinkNest own idx y host ∈ zNws ∧ Cond.static y ∈ zTg ∧ Cond.initialized y.cls ∈ zTg ∧ Cond.code y cb nB rb ∈ zTg) (hy : y.cls ≠ "java/lang/invoke/MethodHandle" ∧ y.cls ≠ "java/lang/invoke/VarHandle" ∧ (parseMethodDescriptor y.desc).map (fun d => d.parameters.length) = some n) (hn : as.length = n)
    (hcall : zCall fr lo fb lb nB st ρ Rg Rg' Ms Ms') (hS0 : S = (as.map (zmv ρ)).reverse ++ st)
    (hso : ∀ a, ((vo a).map (zmv ρ)).toList ++ st = so a) (hMo : ∀ a, zput ρ Ms (mo a) = Mo a) (kk : ∀ a, zZ X Rg fr lo nL (pc + 3) L (so a) (Mo a) (κ a)) : zZ X Rg fr lo nL pc L S Ms (Option.bind x κ) :=
  zz_callSN (toO := fun a => (.inl (vo a), mo a)) F hC hd hw hy hn hcall hS0 fun a _ => ⟨vo a, rfl, by
    show zZ X Rg fr lo nL (pc + 3) L (((vo a).map (zmv ρ)).toList ++ st) (zput ρ Ms (mo a)) (κ a)
    rw [hso, hMo]
    exact kk a⟩
/-! callees that may throw -/
def zts (vo : α → Option zV) (mo : α → List zM) (eo : β → String) (xo : β → List zM) : α ⊕ β → zO
  | .inl a => (.inl (vo a), mo a)
  | .inr b => (.inr (eo b), xo b)
variable {z : Option (α ⊕ β)} {κz : α ⊕ β → Option zO} {eo : β → String} {xo Xo : β → List zM}
theorem zz_callVx (F : zFr X cc nL own ret) {r0 k0 i0 ci nf N : Nat} {T : u_T} (hC : ∀ a, z = some a → zMet y cb nB rb fb lb Rg' (zr r0 k0 i0 :: as) Ms' (zts vo mo eo xo a)) (hd : decode cc pc = .ok (.invokevirtual idx, 3))
    (hw : Cond.methodLink own idx y ∈ zTg ∧ Cond.instanceMethod y ∈ zTg ∧ Cond.selects C y y ∈ zTg ∧ Cond.initialized C ∈ zTg ∧ Cond.code y cb nB rb ∈ zTg) (hy : y.cls = C ∧ y.cls ≠ "java/lang/invoke/MethodHandle" ∧ y.cls ≠ "java/lang/invoke/VarHandle" ∧ (parseMethodDescriptor y.desc).map (fun d => d.parameters.length) = some n) (hn : as.length = n)
    (hcall : zCall fr lo fb lb nB st ρ Rg Rg' Ms Ms') (hin0 : zin Rg' (r0, k0, i0)) (hsh : (zsh (zty' Rg' r0) k0).2 = .inl (ci, nf)) (hci : zcl[ci]? = some (C, T, N)) (hS0 : S = (as.map (zmv ρ)).reverse ++ zmv ρ (zr r0 k0 i0) :: st)
    (hso : ∀ a, ((vo a).map (zmv ρ)).toList ++ st = so a) (hMo : ∀ a, zput ρ Ms (mo a) = Mo a) (hXo : ∀ b, zput ρ Ms (xo b) = Xo b) (kx : ∀ b, κz (.inr b) = some (.inr (eo b), Xo b)) (kk : ∀ a, zZ X Rg fr lo nL (pc + 3) L (so a) (Mo a) (κz (.inl a))) : zZ X Rg fr lo nL pc L S Ms (Option.bind z κz) :=
  zz_callV (toO := zts vo mo eo xo) F hC hd hw hy hn hcall hin0 hsh hci hS0 fun a _ => by
    rcases a with a | b
    · show zZ X Rg fr lo nL (pc + 3) L (((vo a).map (zmv ρ)).toList ++ st) (zput ρ Ms (mo a)) (κz (.inl a))
      rw [hso, hMo]
      exact kk a
    · show κz (.inr b) = some (.inr (eo b), zput ρ Ms (xo b))
      rw [hXo]
      exact kx b
theorem zz_callSx (F : zFr X cc nL own ret) (hC : ∀ a, z = some a → zMet y cb nB rb fb lb Rg' as Ms' (zts vo mo eo xo a)) (hd : decode cc pc = .ok (.invokestatic idx, 3))
    (hw : Cond.methodLink own idx y ∈ zTg ∧ Cond.static y ∈ zTg ∧ Cond.initialized y.cls ∈ zTg ∧ Cond.code y cb nB rb ∈ zTg) (hy : y.cls ≠ "java/lang/invoke/MethodHandle" ∧ y.cls ≠ "java/lang/invoke/VarHandle" ∧ (parseMethodDescriptor y.desc).map (fun d => d.parameters.length) = some n) (hn : as.length = n)
    (hcall : zCall fr lo fb lb nB st ρ Rg Rg' Ms Ms') (hS0 : S = (as.map (zmv ρ)).reverse ++ st)
    (hso : ∀ a, ((vo a).map (zmv ρ)).toList ++ st = so a) (hMo : ∀ a, zput ρ Ms (mo a) = Mo a) (hXo : ∀ b, zput ρ Ms (xo b) = Xo b) (kx : ∀ b, κz (.inr b) = some (.inr (eo b), Xo b)) (kk : ∀ a, zZ X Rg fr lo nL (pc + 3) L (so a) (Mo a) (κz (.inl a))) : zZ X Rg fr lo nL pc L S Ms (Option.bind z κz) :=
  zz_callS (toO := zts vo mo eo xo) F hC hd hw hy hn hcall hS0 fun a _ => by
    rcases a with a | b
    · show zZ X Rg fr lo nL (pc + 3) L (((vo a).map (zmv ρ)).toList ++ st) (zput ρ Ms (mo a)) (κz (.inl a))
      rw [hso, hMo]
      exact kk a
    · show κz (.inr b) = some (.inr (eo b), zput ρ Ms (xo b))
      rw [hXo]
      exact kx b
end ZZD
section ZZJ
variable {X : zX} {cc : ByteArray} {nL : Nat} {own : String} {ret : Option FieldType} {Rg : List zD} {fr lo pc pj : Nat} {L : List (Option zV)} {st : List zV} {Ms : List zM} {φ : Option zO} {α β : Type}
/-- two ways that meet at pj -/
theorem zz_join {x : Option α} {f : α → Option β} {κ : β → Option zO} {Lj : α → List (Option zV)} {Sj : α → List zV} {Mj : α → List zM} (hj : ∀ a, zZ X Rg fr lo nL pj (Lj a) (Sj a) (Mj a) (Option.bind (f a) κ)) (k : ∀ κ' : α → Option zO, (∀ a, zZ X Rg fr lo nL pj (Lj a) (Sj a) (Mj a) (κ' a)) → zZ X Rg fr lo nL pc L st Ms (Option.bind x κ')) : zZ X Rg fr lo nL pc L st Ms (Option.bind (Option.bind x f) κ) :=
  zz_bind (k _ hj)
theorem zz_zret (F : zFr X cc nL own ret) {x : Int32} (hd : decode cc pc = .ok (.ireturn, 1)) (hr : ret = some .boolean) (hφ : φ = some (.inl (some (zi (x &&& 1))), Ms)) : zZ X Rg fr lo nL pc L [zi x] Ms φ := by
  obtain ⟨p, l, e, s, m, args, below, meth, c, D, cA, ad, A⟩ := X
  obtain ⟨hx, hb, hml, hown, hts, hlk, hK, hA, hE, htr, hex, hret⟩ := F
  intro o ho H locs ls hl hP hD hS
  rw [hφ] at ho
  cases ho
  intro T hT X
  have hr0 : meth.sig.returnType = some .boolean := hret.trans hr
  obtain ⟨fs, hret9, hrun, hended, hW, hframe⟩ := X.leave (v := some (.int (x &&& 1))) (fun h => by rw [hr0] at h; cases h) (hlocks := hlk)
  have hmeth' : T.vm.method? m = some meth := X.method'
  refine ⟨T.setFrames fs, ?_, .returned (some (.int (x &&& 1))), hrun, hended, ⟨rfl, by rw [show (T.setFrames fs).heap = H from hT]; exact hP, hS.F hT⟩, locs, ⟨⟨_, rfl⟩, hW, hframe⟩, hS.2.2⟩
  jvm_step X.here [X.here.top, hx, hb, hd, hmeth', hr0, narrow]
  refine ⟨x, [], ⟨rfl, rfl⟩, ?_⟩
  first | (intro acts; rw [hret9 _ acts rfl rfl rfl]) | rw [hret9 _ _ rfl rfl rfl]
  exact Steps.refl _
end ZZJ
theorem zl0 {L0 : List (Option zV)} {as : List zV} (n : Nat) (h : L0 = zlf as ++ List.replicate n none) : ∀ (k : Nat) (v : zV), L0[k]? = some (some v) → (zlf as)[k]? = some (some v) := by
  intro k v hk
  subst h
  rcases Nat.lt_or_ge k (zlf as).length with q | q
  · rw [List.getElem?_append_left q] at hk
    exact hk
  · rw [List.getElem?_append_right q] at hk
    have := List.mem_of_getElem? hk
    rw [List.mem_replicate] at this
    cases this.2
section ZZK
variable {X : zX} {nL : Nat} {Rg : List zD} {fr lo pc pj : Nat} {L : List (Option zV)} {st : List zV} {Ms : List zM} {α β ρ : Type}
/-- two ways that meet at pj, or end ahead of it -/
theorem zz_joinE {x : Option (α ⊕ ρ)} {f : α → Option β} {g : ρ → Option β} {κ : β → Option zO} {Lj : α → List (Option zV)} {Sj : α → List zV} {Mj : α → List zM} (hj : ∀ a, zZ X Rg fr lo nL pj (Lj a) (Sj a) (Mj a) (Option.bind (f a) κ)) (k : ∀ κ' : α ⊕ ρ → Option zO, (∀ a, zZ X Rg fr lo nL pj (Lj a) (Sj a) (Mj a) (κ' (.inl a))) → (∀ r, κ' (.inr r) = Option.bind (g r) κ) → zZ X Rg fr lo nL pc L st Ms (Option.bind x κ')) : zZ X Rg fr lo nL pc L st Ms (Option.bind (Option.bind x (Sum.elim f g)) κ) :=
  zz_bind (k (fun a => Option.bind (Sum.elim f g a) κ) hj fun _ => rfl)
end ZZK
