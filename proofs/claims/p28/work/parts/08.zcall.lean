/-! ===== calls: the rows ===== -/
section ZCR
variable {p : Program} {l : Launch} {e : Env} {R : Room} {s : State} {m : MethodId} {args : Array Value} {below : List Frame} {meth : Method} {c : Code} {H : Heap} {locs : List Loc} {Q : State → Prop}
variable {D : va_G} {cA : Nat → ClassId} {ad' : zR → Nat} {A0 A1 : Nat → Prop} {Rg' : List zD} {Ms'' : List zM} {H0 : Heap} {pc : Nat} {ls : Array Slot} {st0 rest : List Value} {free : Addr → Prop} {a : Array Value}
theorem zx_ret {v : Option zV} (hr : va_Run p l e R s m args below meth c H locs 0 0 0 0 (F0 m pc ls st0) rest (zQc D cA ad' A1 Rg' v Ms'' a) free) (hS : va_S A0 H0 H locs) (hA : ∀ q, q < H.size → A1 q → A0 q) (hf : ∀ q, free q → A0 q)
    (kk : ∀ (H1 : Heap) (locs1 : List Loc), va_P D zcl (zwl cA ad' Rg' Ms'') H1 → (∀ q : Nat, q < H.size → ¬ A1 q → H1[q]? = H[q]?) → va_S A0 H0 H1 locs1 → W p l e R s m args below meth c H1 locs1 0 0 Q (F0 m (pc + 3) ls ((v.map (zt ad')).toList ++ rest))) : W p l e R s m args below meth c H locs 0 0 Q (F0 m pc ls st0) := by
  intro T hT X
  obtain ⟨w, st₀, t, T', L, h0, X', hL, e1, e2, ⟨hv, hP1, hF⟩, st⟩ := hr T hT X
  cases hv
  obtain ⟨k1, k2, k3⟩ := vx_keep h0 e1 hS hA hf hL hF
  obtain ⟨t2, a1, b1⟩ := kk T'.heap (locs ++ L) (by rw [e1]; exact hP1) k2 k3 T' rfl X'
  exact ⟨t2, st t2 a1, b1⟩
theorem zx_thr {E : String} (hr : vx_Run p l e R s m args below meth c H locs 0 0 1 6 (F0 m pc ls st0) rest (zNo a) (zXc D cA ad' A1 Rg' E Ms'') free) (hS : va_S A0 H0 H locs) (hA : ∀ q, q < H.size → A1 q → A0 q) (hf : ∀ q, free q → A0 q)
    (kk : ∀ (ce : Cell) (q9 : Addr) (H1 : Heap) (locs1 : List Loc), va_P D zcl (zwl cA ad' Rg' Ms'') H1 → (∀ q : Nat, q < H.size → ¬ A1 q → H1[q]? = H[q]?) → va_S A0 H0 H1 locs1 → H1[q9]? = some ce → ce.vm = .none → s.vm.findClass E = some ce.cls → vx_W p l e R s m args below meth c H1 locs1 1 6 Q (F0 m pc ls rest) q9) : W p l e R s m args below meth c H locs 0 0 Q (F0 m pc ls st0) := by
  intro T hT X
  rcases hr T hT X with ⟨w, st₀, t, T', L, h0, X', hL, e1, e2, hno, st⟩ | ⟨q, st₀, t, T', L, E', ce, h0, X', hL, e1, e2, ⟨rfl, hP1, hF⟩, hce, hcv, hcl, st⟩
  · exact hno.elim
  · obtain ⟨k1, k2, k3⟩ := vx_keep h0 e1 hS hA hf hL hF
    obtain ⟨t2, a1, b1⟩ := kk ce q T'.heap (locs ++ L) (by rw [e1]; exact hP1) k2 k3 (by rw [e1]; exact hce) hcv hcl T' rfl X'
    exact ⟨t2, st.trans a1, b1⟩
end ZCR
theorem zgood {ws : List Cond} (h : ∀ w ∈ ws, w ∈ zTg) : GoodIn zTg ws := fun w hw => ⟨h w hw, good_of_word (List.mem_filter.mp (h w hw)).2⟩
theorem zrm_c0 {fr lo : Nat} {o : zO} {v : Option zV} (h : o.1 = .inl v) : (zrm fr lo o).cells = 0 ∧ (zrm fr lo o).slots = 0 := by unfold zrm; rw [h]; exact ⟨rfl, rfl⟩
theorem zrm_c1 {fr lo : Nat} {o : zO} {E : String} (h : o.1 = .inr E) : (zrm fr lo o).cells = 1 ∧ (zrm fr lo o).slots = 6 := by unfold zrm; rw [h]; exact ⟨rfl, rfl⟩
theorem zgetD_map {ρ : List Nat} {Ms : List zM} {r n : Nat} (hn : ρ.length = n) (h : r < n) : (ρ.map fun r => Ms.getD r zm0).getD r zm0 = Ms.getD (ρ.getD r 0) zm0 := by
  subst hn
  rw [List.getD_eq_getElem?_getD, List.getElem?_map, List.getElem?_eq_getElem h, List.getD_eq_getElem?_getD (l := ρ), List.getElem?_eq_getElem h]
  rfl
/-- what is asked of every call -/
def zCall (fr lo fb lb nB : Nat) (st : List zV) (ρ : List Nat) (Rg Rg' : List zD) (Ms Ms' : List zM) : Prop :=
  zRel ρ Rg Rg' ∧ Ms.length = Rg.length ∧ Ms' = ρ.map (fun r => Ms.getD r zm0) ∧ zcs st ≤ 8 ∧ fb + 1 ≤ fr ∧ 8 + (nB + 11) + lb ≤ lo
section ZZC
variable {X : zX} {cc : ByteArray} {nL : Nat} {own : String} {ret : Option FieldType} {Rg Rg' : List zD} {fr lo pc : Nat} {L : List (Option zV)} {st S as : List zV} {Ms Ms' : List zM} {α : Type} {x : Option α} {κ : α → Option zO} {toO : α → zO}
variable {y : MethodName} {cb : ByteArray} {nB fb lb idx n : Nat} {rb : Option FieldType} {C : String} {ρ : List Nat}
theorem zz_callV (F : zFr X cc nL own ret) {r0 k0 i0 ci nf N : Nat} {T : u_T} (hC : ∀ a, x = some a → zMet y cb nB rb fb lb Rg' (zr r0 k0 i0 :: as) Ms' (toO a)) (hd : decode cc pc = .ok (.invokevirtual idx, 3))
    (hw : Cond.methodLink own idx y ∈ zTg ∧ Cond.instanceMethod y ∈ zTg ∧ Cond.selects C y y ∈ zTg ∧ Cond.initialized C ∈ zTg ∧ Cond.code y cb nB rb ∈ zTg) (hy : y.cls = C ∧ y.cls ≠ "java/lang/invoke/MethodHandle" ∧ y.cls ≠ "java/lang/invoke/VarHandle" ∧ (parseMethodDescriptor y.desc).map (fun d => d.parameters.length) = some n) (hn : as.length = n)
    (hcall : zCall fr lo fb lb nB st ρ Rg Rg' Ms Ms') (hin0 : zin Rg' (r0, k0, i0)) (hsh : (zsh (zty' Rg' r0) k0).2 = .inl (ci, nf)) (hci : zcl[ci]? = some (C, T, N)) (hS0 : S = (as.map (zmv ρ)).reverse ++ zmv ρ (zr r0 k0 i0) :: st)
    (kk : ∀ a, x = some a → match (toO a).1 with
      | .inl v => zZ X Rg fr lo nL (pc + 3) L ((v.map (zmv ρ)).toList ++ st) (zput ρ Ms (toO a).2) (κ a)
      | .inr E => κ a = some (.inr E, zput ρ Ms (toO a).2)) : zZ X Rg fr lo nL pc L S Ms (Option.bind x κ) := by
  obtain ⟨p, l, e, s, m, args, below, meth, c, D, cA, ad, A⟩ := X
  obtain ⟨hx, hb, hml, hown, hts, hlk, hK, hA, hE, htr, hex, hret⟩ := F
  obtain ⟨hrel, hlen, hMs, hcs, hfr, hlo⟩ := hcall
  intro o ho H locs ls hl hP hD hS
  cases hxa : x with
  | none => rw [hxa] at ho; cases ho
  | some a =>
    rw [hxa] at ho
    have ho : κ a = some o := ho
    have hk := kk a hxa
    have hM := hC a hxa l htr D cA (fun q => ad (zmq ρ q)) H.size
    have hM1 : ∀ r, r < Rg'.length → Ms'.getD r zm0 = Ms.getD (ρ.getD r 0) zm0 := fun r hr => by rw [hMs]; exact zgetD_map hrel.2.1 hr
    have hP' := zc_P (D := D) (cA := cA) (ad := ad) hrel hM1 hP
    have hD' := zc_D (cA := cA) (ad := ad) Ms' hrel hD
    have hAA := zc_A (Ms' := Ms') (ad := ad) hrel hD hS hA
    have hW8 : 2 * 0 + ((st.map (zt ad)).map fun v => v.category).sum ≤ 8 := by rw [zcs_t]; omega
    have hstk : S.map (zt ad) = (as.map (zt fun q => ad (zmq ρ q))).reverse ++ .ref (ad (zmq ρ (r0, k0, i0))) :: st.map (zt ad) := by
      rw [hS0, List.map_append, List.map_cons, zt_mvs, List.map_reverse]
      rfl
    have hG : GoodIn zTg (wsV own idx C y (.code y cb nB rb :: zTg)) := zgood fun w hw' => by
      obtain ⟨w1, w2, w3, w4, w5⟩ := hw
      unfold wsV at hw'
      rcases List.mem_append.mp hw' with h | h
      · simp only [List.mem_cons, List.not_mem_nil, or_false] at h
        rcases h with rfl | rfl | rfl | rfl <;> assumption
      · rcases List.mem_cons.mp h with rfl | h
        · exact w5
        · exact h
    obtain ⟨j0, hj0⟩ := zw_get (cA := cA) (ad := fun q => ad (zmq ρ q)) (Ms := Ms') hin0
    unfold zcq zce at hj0
    dsimp only at hj0
    rw [hsh] at hj0
    have hpre : ∀ U : State, U.heap = H → s.WarmedH U.vm → zPc D cA (fun q => ad (zmq ρ q)) Rg' (zr r0 k0 i0 :: as) Ms' H.size (Value.ref (ad (zmq ρ (r0, k0, i0))) :: as.map (zt fun q => ad (zmq ρ q))).toArray U := fun U hU hW =>
      ⟨rfl, by rw [hU], by rw [hU]; exact hP', va_K.moved hW.alike hK, hD'.weaken fun _ _ _ _ => trivial, by
        rw [hU]
        exact zEv.warm hW ((hE.kept hS.2.1).narrow hAA fun j => by unfold zmq; dsimp only; rw [if_neg (by omega)])⟩
    cases h1 : (toO a).1 with
    | inl v =>
      rw [h1] at hk hM
      dsimp only at hk hM
      rw [hstk]
      refine zx_ret (va_runV (As := as.map (zt fun q => ad (zmq ρ q))) (rest := st.map (zt ad)) ⟨hx, hb, hml, hown, hts⟩ hM (cwV n hts hG rfl (zrm_c0 h1).1 (zrm_c0 h1).2 hy (by rw [zrm_f, zrm_f, zrm_l, zrm_l]; exact ⟨hfr, hlo⟩)) ⟨zPc_blind, va_recv hK hP' hci hj0, hpre⟩ rfl (by rw [List.length_map]; exact hn) hl.1 rfl hW8 hd ⟨Nat.zero_le _, Nat.zero_le _⟩) hS (fun q _ h => hAA q h) hAA fun H1 locs1 hP1 hk1 hS1 => ?_
      have h2 := hk o ho H1 locs1 ls hl (zc_back hrel hlen hP hD hk1 hP1) (zw_D _ hD) hS1
      rw [show (v.map (zt fun q => ad (zmq ρ q))).toList ++ st.map (zt ad) = ((v.map (zmv ρ)).toList ++ st).map (zt ad) by
        cases v with
        | none => rfl
        | some v => exact congrArg (· :: st.map (zt ad)) (zt_mv ad ρ v)]
      exact h2
    | inr E =>
      rw [h1] at hk hM
      dsimp only at hk hM
      rw [hstk]
      rw [hk] at ho
      cases ho
      refine zx_thr (vx_runV (As := as.map (zt fun q => ad (zmq ρ q))) (rest := st.map (zt ad)) ⟨hx, hb, hml, hown, hts⟩ hM (cwV n hts hG rfl (zrm_c1 h1).1 (zrm_c1 h1).2 hy (by rw [zrm_f, zrm_f, zrm_l, zrm_l]; exact ⟨hfr, hlo⟩)) ⟨zPc_blind, va_recv hK hP' hci hj0, hpre⟩ rfl (by rw [List.length_map]; exact hn) hl.1 rfl hW8 hd ⟨Nat.le_refl 1, Nat.le_refl 6⟩) hS (fun q _ h => hAA q h) hAA fun ce q9 H1 locs1 hP1 hk1 hS1 hce hcv hcl => ?_
      exact vx_out (fun x hx => (hex x hx).elim) hlk hce hcv hcl (fun t ht _ => ⟨rfl, by rw [ht]; exact zc_back hrel hlen hP hD hk1 hP1, hS1.F ht⟩) hS1.2.2 (Nat.le_refl _) (Nat.le_refl _)
theorem zz_callS (F : zFr X cc nL own ret) (hC : ∀ a, x = some a → zMet y cb nB rb fb lb Rg' as Ms' (toO a)) (hd : decode cc pc = .ok (.invokestatic idx, 3))
    (hw : Cond.methodLink own idx y ∈ zTg ∧ Cond.static y ∈ zTg ∧ Cond.initialized y.cls ∈ zTg ∧ Cond.code y cb nB rb ∈ zTg) (hy : y.cls ≠ "java/lang/invoke/MethodHandle" ∧ y.cls ≠ "java/lang/invoke/VarHandle" ∧ (parseMethodDescriptor y.desc).map (fun d => d.parameters.length) = some n) (hn : as.length = n)
    (hcall : zCall fr lo fb lb nB st ρ Rg Rg' Ms Ms') (hS0 : S = (as.map (zmv ρ)).reverse ++ st)
    (kk : ∀ a, x = some a → match (toO a).1 with
      | .inl v => zZ X Rg fr lo nL (pc + 3) L ((v.map (zmv ρ)).toList ++ st) (zput ρ Ms (toO a).2) (κ a)
      | .inr E => κ a = some (.inr E, zput ρ Ms (toO a).2)) : zZ X Rg fr lo nL pc L S Ms (Option.bind x κ) := by
  obtain ⟨p, l, e, s, m, args, below, meth, c, D, cA, ad, A⟩ := X
  obtain ⟨hx, hb, hml, hown, hts, hlk, hK, hA, hE, htr, hex, hret⟩ := F
  obtain ⟨hrel, hlen, hMs, hcs, hfr, hlo⟩ := hcall
  intro o ho H locs ls hl hP hD hS
  cases hxa : x with
  | none => rw [hxa] at ho; cases ho
  | some a =>
    rw [hxa] at ho
    have ho : κ a = some o := ho
    have hk := kk a hxa
    have hM := hC a hxa l htr D cA (fun q => ad (zmq ρ q)) H.size
    have hM1 : ∀ r, r < Rg'.length → Ms'.getD r zm0 = Ms.getD (ρ.getD r 0) zm0 := fun r hr => by rw [hMs]; exact zgetD_map hrel.2.1 hr
    have hP' := zc_P (D := D) (cA := cA) (ad := ad) hrel hM1 hP
    have hD' := zc_D (cA := cA) (ad := ad) Ms' hrel hD
    have hAA := zc_A (Ms' := Ms') (ad := ad) hrel hD hS hA
    have hW8 : 2 * 0 + ((st.map (zt ad)).map fun v => v.category).sum ≤ 8 := by rw [zcs_t]; omega
    have hstk : S.map (zt ad) = (as.map (zt fun q => ad (zmq ρ q))).reverse ++ st.map (zt ad) := by
      rw [hS0, List.map_append, zt_mvs, List.map_reverse]
    have hG : GoodIn zTg (va_wsS own idx y (.code y cb nB rb :: zTg)) := zgood fun w hw' => by
      obtain ⟨w1, w2, w3, w5⟩ := hw
      unfold va_wsS at hw'
      rcases List.mem_append.mp hw' with h | h
      · simp only [List.mem_cons, List.not_mem_nil, or_false] at h
        rcases h with rfl | rfl | rfl <;> assumption
      · rcases List.mem_cons.mp h with rfl | h
        · exact w5
        · exact h
    have hpre : ∀ U : State, U.heap = H → s.WarmedH U.vm → zPc D cA (fun q => ad (zmq ρ q)) Rg' as Ms' H.size (as.map (zt fun q => ad (zmq ρ q))).toArray U := fun U hU hW =>
      ⟨rfl, by rw [hU], by rw [hU]; exact hP', va_K.moved hW.alike hK, hD'.weaken fun _ _ _ _ => trivial, by
        rw [hU]
        exact zEv.warm hW ((hE.kept hS.2.1).narrow hAA fun j => by unfold zmq; dsimp only; rw [if_neg (by omega)])⟩
    cases h1 : (toO a).1 with
    | inl v =>
      rw [h1] at hk hM
      dsimp only at hk hM
      rw [hstk]
      refine zx_ret (va_runS (As := as.map (zt fun q => ad (zmq ρ q))) (rest := st.map (zt ad)) ⟨hx, hb, hml, hown, hts⟩ hM (va_cwS n hts hG rfl (zrm_c0 h1).1 (zrm_c0 h1).2 hy (by rw [zrm_f, zrm_f, zrm_l, zrm_l]; exact ⟨hfr, hlo⟩)) ⟨zPc_blind, hpre⟩ rfl (by rw [List.length_map]; exact hn) hl.1 rfl hW8 hd ⟨Nat.zero_le _, Nat.zero_le _⟩) hS (fun q _ h => hAA q h) hAA fun H1 locs1 hP1 hk1 hS1 => ?_
      have h2 := hk o ho H1 locs1 ls hl (zc_back hrel hlen hP hD hk1 hP1) (zw_D _ hD) hS1
      rw [show (v.map (zt fun q => ad (zmq ρ q))).toList ++ st.map (zt ad) = ((v.map (zmv ρ)).toList ++ st).map (zt ad) by
        cases v with
        | none => rfl
        | some v => exact congrArg (· :: st.map (zt ad)) (zt_mv ad ρ v)]
      exact h2
    | inr E =>
      rw [h1] at hk hM
      dsimp only at hk hM
      rw [hstk]
      rw [hk] at ho
      cases ho
      refine zx_thr (vx_runS (As := as.map (zt fun q => ad (zmq ρ q))) (rest := st.map (zt ad)) ⟨hx, hb, hml, hown, hts⟩ hM (va_cwS n hts hG rfl (zrm_c1 h1).1 (zrm_c1 h1).2 hy (by rw [zrm_f, zrm_f, zrm_l, zrm_l]; exact ⟨hfr, hlo⟩)) ⟨zPc_blind, hpre⟩ rfl (by rw [List.length_map]; exact hn) hl.1 rfl hW8 hd ⟨Nat.le_refl 1, Nat.le_refl 6⟩) hS (fun q _ h => hAA q h) hAA fun ce q9 H1 locs1 hP1 hk1 hS1 hce hcv hcl => ?_
      exact vx_out (fun x hx => (hex x hx).elim) hlk hce hcv hcl (fun t ht _ => ⟨rfl, by rw [ht]; exact zc_back hrel hlen hP hD hk1 hP1, hS1.F ht⟩) hS1.2.2 (Nat.le_refl _) (Nat.le_refl _)
/-- a static method of a nest mate, that returns -/
theorem zz_callSN (F : zFr X cc nL own ret) {host : String} (hC : ∀ a, x = some a → zMet y cb nB rb fb lb Rg' as Ms' (toO a)) (hd : decode cc pc = .ok (.invokestatic idx, 3))
    (hw : Cond.methodLinkNest own idx y host ∈ zNws ∧ Cond.static y ∈ zTg ∧ Cond.initialized y.cls ∈ zTg ∧ Cond.code y cb nB rb ∈ zTg) (hy : y.cls ≠ "java/lang/invoke/MethodHandle" ∧ y.cls ≠ "java/lang/invoke/VarHandle" ∧ (parseMethodDescriptor y.desc).map (fun d => d.parameters.length) = some n) (hn : as.length = n)
    (hcall : zCall fr lo fb lb nB st ρ Rg Rg' Ms Ms') (hS0 : S = (as.map (zmv ρ)).reverse ++ st)
    (kk : ∀ a, x = some a → ∃ v, (toO a).1 = .inl v ∧ zZ X Rg fr lo nL (pc + 3) L ((v.map (zmv ρ)).toList ++ st) (zput ρ Ms (toO a).2) (κ a)) : zZ X Rg fr lo nL pc L S Ms (Option.bind x κ) := by
  obtain ⟨p, l, e, s, m, args, below, meth, c, D, cA, ad, A⟩ := X
  obtain ⟨hx, hb, hml, hown, hts, hlk, hK, hA, hE, htr, hex, hret⟩ := F
  obtain ⟨hrel, hlen, hMs, hcs, hfr, hlo⟩ := hcall
  intro o ho H locs ls hl hP hD hS
  cases hxa : x with
  | none => rw [hxa] at ho; cases ho
  | some a =>
    rw [hxa] at ho
    have ho : κ a = some o := ho
    obtain ⟨v, h1, hk⟩ := kk a hxa
    have hM := hC a hxa l htr D cA (fun q => ad (zmq ρ q)) H.size
    have hM1 : ∀ r, r < Rg'.length → Ms'.getD r zm0 = Ms.getD (ρ.getD r 0) zm0 := fun r hr => by rw [hMs]; exact zgetD_map hrel.2.1 hr
    have hP' := zc_P (D := D) (cA := cA) (ad := ad) hrel hM1 hP
    have hD' := zc_D (cA := cA) (ad := ad) Ms' hrel hD
    have hAA := zc_A (Ms' := Ms') (ad := ad) hrel hD hS hA
    have hW8 : 2 * 0 + ((st.map (zt ad)).map fun v => v.category).sum ≤ 8 := by rw [zcs_t]; omega
    have hstk : S.map (zt ad) = (as.map (zt fun q => ad (zmq ρ q))).reverse ++ st.map (zt ad) := by
      rw [hS0, List.map_append, zt_mvs, List.map_reverse]
    have hG : GoodIn zTg (.code y cb nB rb :: zTg) := zgood fun w hw' => by
      rcases List.mem_cons.mp hw' with rfl | h
      · exact hw.2.2.2
      · exact h
    have hpre : ∀ U : State, U.heap = H → s.WarmedH U.vm → zPc D cA (fun q => ad (zmq ρ q)) Rg' as Ms' H.size (as.map (zt fun q => ad (zmq ρ q))).toArray U := fun U hU hW =>
      ⟨rfl, by rw [hU], by rw [hU]; exact hP', va_K.moved hW.alike hK, hD'.weaken fun _ _ _ _ => trivial, by
        rw [hU]
        exact zEv.warm hW ((hE.kept hS.2.1).narrow hAA fun j => by unfold zmq; dsimp only; rw [if_neg (by omega)])⟩
    rw [h1] at hM
    dsimp only at hM
    rw [hstk]
    refine zx_ret (va_runSN (As := as.map (zt fun q => ad (zmq ρ q))) (rest := st.map (zt ad)) ⟨hx, hb, hml, hown, hts⟩ hM ⟨va_cnB n hts hG rfl (zrm_c0 h1).1 (zrm_c0 h1).2 (hE.2.2.1 _ hw.1) (hts _ hw.2.2.1) hy (by rw [zrm_f, zrm_f, zrm_l, zrm_l]; exact ⟨hfr, hlo⟩), hts _ hw.2.1, trivial⟩ ⟨zPc_blind, hpre⟩ rfl (by rw [List.length_map]; exact hn) hl.1 rfl hW8 hd ⟨Nat.zero_le _, Nat.zero_le _⟩) hS (fun q _ h => hAA q h) hAA fun H1 locs1 hP1 hk1 hS1 => ?_
    have h2 := hk o ho H1 locs1 ls hl (zc_back hrel hlen hP hD hk1 hP1) (zw_D _ hD) hS1
    rw [show (v.map (zt fun q => ad (zmq ρ q))).toList ++ st.map (zt ad) = ((v.map (zmv ρ)).toList ++ st).map (zt ad) by
      cases v with
      | none => rfl
      | some v => exact congrArg (· :: st.map (zt ad)) (zt_mv ad ρ v)]
    exact h2
end ZZC
/-! a method's contract out of its body -/
def zlf (as : List zV) : List (Option zV) := as.flatMap fun v => if zcat v = 2 then [some v, none] else [some v]
theorem zlf_at (ad : zR → Nat) : ∀ (as : List zV) (k : Nat) (v : zV), (zlf as)[k]? = some (some v) → (lg_sl (as.map (zt ad)))[k]? = some (.val (zt ad v))
  | [], k, v, h => by cases h
  | a :: as, k, v, h => by
    have ih := zlf_at ad as
    unfold zlf lg_sl at *
    rw [List.flatMap_cons] at h
    rw [List.map_cons, List.flatMap_cons, zcat_t]
    by_cases hc : zcat a = 2
    · rw [if_pos hc] at h ⊢
      match k, h with
      | 0, h => cases h; rfl
      | 1, h => cases h
      | k + 2, h => exact ih k v h
    · rw [if_neg hc] at h ⊢
      match k, h with
      | 0, h => cases h; rfl
      | k + 1, h => exact ih k v h
theorem zMet_of {y : MethodName} {cb : ByteArray} {nB fb lb : Nat} {rb : Option FieldType} {Rg : List zD} {as : List zV} {Ms : List zM} {o : zO} {φ : Option zO} {L0 : List (Option zV)} (hy : plainName y.cls = true) (hsz : ∀ ad : zR → Nat, (lg_sl (as.map (zt ad))).length ≤ nB) (hL0 : ∀ (k : Nat) (v : zV), L0[k]? = some (some v) → (zlf as)[k]? = some (some v))
    (body : ∀ X : zX, zFr X cb nB y.cls rb → zZ X Rg fb lb nB 0 L0 [] Ms φ) (ho : φ = some o) : zMet y cb nB rb fb lb Rg as Ms o := by
  intro l htr D cA ad sz
  have key : ∀ p e s m args below meth c s₁, BodyLoose p l y (headSpec (.code y cb nB rb :: zTg) (zrm fb lb o)) cb nB rb e s m args below meth c s₁ → c.maxLocals = nB → zPc D cA ad Rg as Ms sz args s →
      W p l e (zrm fb lb o) s m args below meth c s.heap [] 0 0 (zQ (p, l, e, s, m, args, below, meth, c, D, cA, ad, va_A (zwl cA ad Rg Ms) sz) Rg o) (entryFrame m args nB) := by
    intro p e s m args below meth c s₁ B hml hv
    obtain ⟨rfl, hsz0, hP, hK, hD, hE⟩ := hv
    have hts := atoms_spec (ws := .code y cb nB rb :: zTg) B.pre
    have hex : ∀ x ∈ c.exceptionTable.toList, False := by
      obtain ⟨meth9, c9, h1, h2, -, -, -, -, h7, -⟩ := Cond.code_spec B.named (hts _ List.mem_cons_self)
      cases Option.some.inj (h1.symm.trans B.method)
      cases Option.some.inj (h2.symm.trans (Stand.of_body B).code)
      intro x hx
      rw [Array.isEmpty_iff.mp h7] at hx
      cases hx
    have F : zFr (p, l, e, s, m, (as.map (zt ad)).toArray, below, meth, c, D, cA, ad, va_A (zwl cA ad Rg Ms) sz) cb nB y.cls rb :=
      ⟨B.exec, B.bytes, hml, findClass_of_methodNamed B.named, fun w hw => hts w (List.mem_cons_of_mem _ hw), B.notSynchronized, hK, fun q h => Or.inr (by rw [← hsz0]; exact h), hE, htr, hex, B.returns⟩
    have hl := lv_entry (as.map (zt ad)) (n := nB) (hsz ad)
    rw [lg_entry_eq]
    refine body _ F o ho s.heap [] _ ⟨hl.1, hl.2.1, fun k v hk => ?_⟩ hP hD.self va_S.rf
    have h3 := zlf_at ad as k v (hL0 k v hk)
    have h4 := (List.getElem?_eq_some_iff.mp h3).1
    rw [List.getElem?_toArray, List.getElem?_append_left h4]
    exact h3
  cases h1 : o.1 with
  | inl v =>
    refine Met.ofW (cc := cb) (maxL := nB) (ret := rb) hy rfl ?_
    intro p e s m args below meth c s₁ B hml hv
    have h := key p e s m args below meth c s₁ B hml hv
    unfold zQ at h
    rw [h1] at h
    exact h
  | inr E =>
    refine vx_ofW (cc := cb) (maxL := nB) (ret := rb) hy rfl ?_
    intro p e s m args below meth c s₁ B hml _ hv
    have h := key p e s m args below meth c s₁ B hml hv
    unfold zQ at h
    rw [h1] at h
    exact h
