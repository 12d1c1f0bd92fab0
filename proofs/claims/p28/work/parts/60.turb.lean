/-! ===== Told.turbine ===== -/
theorem zn_subA {X : zX} {nL : Nat} {mc ms fr lo pc ck sk : Nat} {B : State → Prop} {lv : List (Nat × Value)} {st : List Value} {ws ws' W : va_W} (is : List Nat) (hs : is.map (fun i => ws[i]?) = ws'.map some) (hn : va_nd is = true) (kk : zN X mc ms fr lo B nL pc lv st (ws' ++ W) ck sk) : zN X mc ms fr lo B nL pc lv st (ws ++ W) ck sk := by
  obtain ⟨p, l, e, s, m, args, below, meth, c, D, cA, ad, A⟩ := X
  have key : ∀ (k : Nat) (q : Nat × va_E), ws'[k]? = some q → ∃ i : Nat, ws[i]? = some q := by
    intro k q hk
    have h1 : (is.map (fun i => ws[i]?))[k]? = some (some q) := by rw [hs, List.getElem?_map, hk]; rfl
    rw [List.getElem?_map] at h1
    cases h2 : is[k]? with
    | none => rw [h2] at h1; cases h1
    | some i => rw [h2] at h1; exact ⟨i, Option.some.inj h1⟩
  refine fun H locs ls hl hP hD hS => kk H locs ls hl (va_P_perm hP fun x hx => ?_) ?_ hS
  · rcases List.mem_append.mp hx with h | h
    · obtain ⟨k, hk, e⟩ := List.mem_iff_getElem.mp h
      obtain ⟨i, hi⟩ := key k x (by rw [List.getElem?_eq_getElem hk, e])
      exact List.mem_append_left _ (List.mem_of_getElem? hi)
    · exact List.mem_append_right _ h
  · have at1 : ∀ (k : Nat) (x : Nat × va_E), ws[k]? = some x → (ws ++ W)[k]? = some x := fun k x h => (List.getElem?_append_left (List.getElem?_eq_some_iff.mp h).1).trans h
    have at2 : ∀ (k : Nat) (x : Nat × va_E), W[k]? = some x → (ws ++ W)[ws.length + k]? = some x := fun k x h => by rw [List.getElem?_append_right (Nat.le_add_right _ _), Nat.add_sub_cancel_left]; exact h
    have d1 : va_D A ws := ⟨fun i j p q hp hq h => hD.1 i j p q (at1 i p hp) (at1 j q hq) h, fun k q h => hD.2 k q (at1 k q h)⟩
    have d2 : va_D A W := ⟨fun i j p q hp hq h => by
      have := hD.1 _ _ p q (at2 i p hp) (at2 j q hq) h
      omega, fun k q h => hD.2 _ q (at2 k q h)⟩
    refine va_D.app (d1.sub is hn hs) d2 fun i j p q hp hq h => ?_
    obtain ⟨i0, hi0⟩ := key i p hp
    have h3 := hD.1 _ _ p q (at1 i0 p hi0) (at2 j q hq) h
    have h4 := (List.getElem?_eq_some_iff.mp hi0).1
    omega
def ztoF (cA : Nat → ClassId) (a : Nat → Nat) (x : Nat → Int32) (rf : Nat → Option Nat) (r : Nat → Nat) (g : Nat → Nat → Int32) (u : Nat → Nat) (v : Nat → Nat → Int32) : va_W := [(a 0, .inr (9, [.ref (a 1), .ref (a 2), .int (x 0), .ref (a 3), .ref (a 4), .ref (a 5), .ref (a 6), .int (x 1), .int (x 2), .int 0, .int (x 3), .int (x 4), .int 0, .int 20000, .int (-51), .int 0, .int 0, .int 0, .int 0, .int 0])), (a 3, .inl (cA 4, 8, .inr (.inr (.inr (.inr rf))))), (a 6, .inl (cA 4, 3, .inr (.inr (.inr (.inr fun i => some (u i)))))), (u 0, .inl (cA 0, 3, .inl (v 0))), (u 1, .inl (cA 0, 3, .inl (v 1))), (u 2, .inl (cA 0, 3, .inl (v 2))), (r 0, .inl (cA 0, 15, .inl (g 0))), (r 1, .inl (cA 0, 15, .inl (g 1))), (r 2, .inl (cA 0, 15, .inl (g 2))), (r 3, .inl (cA 0, 15, .inl (g 3))), (r 4, .inl (cA 0, 15, .inl (g 4))), (r 5, .inl (cA 0, 15, .inl (g 5))), (r 6, .inl (cA 0, 15, .inl (g 6))), (r 7, .inl (cA 0, 15, .inl (g 7)))]
/-- a row's place anew -/
def upn (r : Nat → Nat) (n q : Nat) : Nat → Nat := fun i => if i = n then q else r i
theorem zup_eq (r : Nat → Nat) (n q : Nat) : va_up (fun i => some (r i)) n (some q) = fun i => some (upn r n q i) := by
  funext i
  unfold va_up upn
  split <;> rfl
theorem zto_row (cA : Nat → ClassId) (a : Nat → Nat) (x : Nat → Int32) (r : Nat → Nat) (g : Nat → Nat → Int32) (u : Nat → Nat) (v : Nat → Nat → Int32) (W : va_W) {k : Nat} (hk : k < 8) : (zto cA a x r g u v ++ W)[6 + k]? = some (r k, .inl (cA 0, 15, .inl (g k))) := by
  rcases (show k = 0 ∨ k = 1 ∨ k = 2 ∨ k = 3 ∨ k = 4 ∨ k = 5 ∨ k = 6 ∨ k = 7 by omega) with rfl | rfl | rfl | rfl | rfl | rfl | rfl | rfl <;> rfl
theorem yfRX10_61 : zFl RX10 61 9 7 := ⟨_, rfl, by decide, zm_f 724 (by decide +kernel) rfl⟩
theorem yfRX10_18 : zFl RX10 18 9 3 := ⟨_, rfl, by decide, zm_f 719 (by decide +kernel) rfl⟩
theorem ypRX10_61 : zFw RX10 61 9 7 .int := ⟨_, rfl, by decide, zm_f 724 (by decide +kernel) rfl, rfl, by decide +kernel⟩
theorem ycRX10_64 : Cond.methodLink RX10 64 yX9_turbine ∈ zTg ∧ Cond.instanceMethod yX9_turbine ∈ zTg ∧ Cond.selects "WakeBanks" yX9_turbine yX9_turbine ∈ zTg ∧ Cond.initialized "WakeBanks" ∈ zTg ∧ Cond.code yX9_turbine cX9_turbine 4 (some .int) ∈ zTg := ⟨zm_f 822 (by decide +kernel) rfl, zm_f 823 (by decide +kernel) rfl, zm_f 824 (by decide +kernel) rfl, zm_f 21 (by decide +kernel) rfl, zm_f 825 (by decide +kernel) rfl⟩
theorem yyyX9_turbine : yX9_turbine.cls = "WakeBanks" ∧ yX9_turbine.cls ≠ "java/lang/invoke/MethodHandle" ∧ yX9_turbine.cls ≠ "java/lang/invoke/VarHandle" ∧ (parseMethodDescriptor yX9_turbine.desc).map (fun d => d.parameters.length) = some 3 := by decide +kernel
theorem wArrP : Cond.arrayClass .int ∈ zTg := zm_f 501 (by decide +kernel) rfl
set_option maxHeartbeats 4000000 in
set_option maxRecDepth 20000 in
theorem zt_tloop {X : zX} (F : zLr X cX10_turbine 5 RX10) {a : Nat → Nat} {x : Nat → Int32} {r : Nat → Nat} {g : Nat → Nat → Int32} {u : Nat → Nat} {v : Nat → Nat → Int32} {mc ms fr lo ck sk n : Nat} {B : State → Prop} {px py sg : Int32} {W : va_W} (hn : n ≤ 8) (h1 : x 1 = Int32.ofNat n) (kt : (∃ i, i < n ∧ g i 0 = px ∧ g i 1 = py) → zN X mc ms fr lo B 5 38 [(0, .ref (a 0)), (1, .int px), (2, .int py), (3, .int sg)] [] (zto (zcA X) a x r g u v ++ W) ck sk) (kf : (∀ i, i < n → ¬ (g i 0 = px ∧ g i 1 = py)) → zN X mc ms fr lo B 5 46 [(0, .ref (a 0)), (1, .int px), (2, .int py), (3, .int sg)] [] (zto (zcA X) a x r g u v ++ W) ck sk) : ∀ d k, k + d = n → (∀ i, i < k → ¬ (g i 0 = px ∧ g i 1 = py)) → zN X mc ms fr lo B 5 3 ((4, .int (Int32.ofNat k)) :: [(0, .ref (a 0)), (1, .int px), (2, .int py), (3, .int sg)]) [] (zto (zcA X) a x r g u v ++ W) ck sk := by
  intro d
  induction d with
  | zero =>
    intro k hk hf
    obtain rfl : k = n := by omega
    refine zn_iload F (i := 4) (k := 0) dX10_turbine_3 rfl ?_
    refine zn_aload_n F (i := 0) (k := 1) dX10_turbine_5 rfl rfl ?_
    refine zn_get F (j := 0) (v := .int (Int32.ofNat k)) dX10_turbine_6 yfRX10_61 zCl_9 rfl (by show some (Value.int (x 1)) = _; rw [h1]) ?_
    refine zn_icmp_ge F (tgt := 46) dX10_turbine_9 (by decide) (fun _ => ?_) (fun z => absurd ((znle (by omega) (by omega)).mpr (Nat.le_refl k)) z)
    exact zn_pick [1, 2, 3, 4] rfl (kf hf)
  | succ d ih =>
    intro k hk hf
    have hkn : k < n := by omega
    refine zn_iload F (i := 4) (k := 0) dX10_turbine_3 rfl ?_
    refine zn_aload_n F (i := 0) (k := 1) dX10_turbine_5 rfl rfl ?_
    refine zn_get F (j := 0) (v := .int ((Int32.ofNat n))) dX10_turbine_6 yfRX10_61 zCl_9 rfl (by show some (Value.int (x 1)) = _; rw [h1]) ?_
    refine zn_icmp_ge F (tgt := 46) dX10_turbine_9 (by decide) (fun z => absurd hkn (by rw [znle (by omega) (by omega)] at z; omega)) (fun _ => ?_)
    refine zn_aload_n F (i := 0) (k := 1) dX10_turbine_12 rfl rfl ?_
    refine zn_get F (j := 0) (v := .ref (a 3)) dX10_turbine_13 yfRX10_18 zCl_9 rfl rfl ?_
    refine zn_iload F (i := 4) (k := 0) dX10_turbine_16 rfl ?_
    refine zn_aald F (q0 := 1) (n := 8) (jn := k) (b := r k) dX10_turbine_18 rfl (zvin (by omega) (by decide)) (zclm k (by omega)) rfl ?_
    refine zn_iconst F (v := 0) dX10_turbine_19 (by decide) ?_
    refine zn_iald F (q0 := 6 + k) (n := 15) (f := g k) (jn := 0) (x := g k 0) dX10_turbine_20 (zto_row _ _ _ _ _ _ _ _ (by omega)) (vp_in_nI (n := 0) (by decide) (by decide)) (by decide) rfl ?_
    refine zn_iload_n F (i := 1) (k := 2) dX10_turbine_21 rfl rfl ?_
    refine zn_icmp_ne F (tgt := 40) dX10_turbine_22 (by decide) (fun h22 => ?_) (fun h22 => ?_)
    · refine zn_iinc F (i := 4) (k := 0) (v := Int32.ofNat (k + 1)) (lv' := [(4, .int (Int32.ofNat (k + 1))), (0, .ref ((a 0))), (1, .int px), (2, .int py), (3, .int sg)]) dX10_turbine_40 rfl (zn1 k) (by decide) rfl ?_
      refine zn_goto F (tgt := 3) dX10_turbine_43 (by decide) ?_
      exact ih (k + 1) (by omega) fun i hi => by
        by_cases e : i = k
        · subst e
          exact fun z => h22 z.1
        · exact hf i (by omega)
    · refine zn_aload_n F (i := 0) (k := 1) dX10_turbine_25 rfl rfl ?_
      refine zn_get F (j := 0) (v := .ref (a 3)) dX10_turbine_26 yfRX10_18 zCl_9 rfl rfl ?_
      refine zn_iload F (i := 4) (k := 0) dX10_turbine_29 rfl ?_
      refine zn_aald F (q0 := 1) (n := 8) (jn := k) (b := r k) dX10_turbine_31 rfl (zvin (by omega) (by decide)) (zclm k (by omega)) rfl ?_
      refine zn_iconst F (v := 1) dX10_turbine_32 (by decide) ?_
      refine zn_iald F (q0 := 6 + k) (n := 15) (f := g k) (jn := 1) (x := g k 1) dX10_turbine_33 (zto_row _ _ _ _ _ _ _ _ (by omega)) (vp_in_nI (n := 1) (by decide) (by decide)) (by decide) rfl ?_
      refine zn_iload_n F (i := 2) (k := 3) dX10_turbine_34 rfl rfl ?_
      refine zn_icmp_ne F (tgt := 40) dX10_turbine_35 (by decide) (fun h35 => ?_) (fun h35 => ?_)
      · refine zn_iinc F (i := 4) (k := 0) (v := Int32.ofNat (k + 1)) (lv' := [(4, .int (Int32.ofNat (k + 1))), (0, .ref ((a 0))), (1, .int px), (2, .int py), (3, .int sg)]) dX10_turbine_40 rfl (zn1 k) (by decide) rfl ?_
        refine zn_goto F (tgt := 3) dX10_turbine_43 (by decide) ?_
        exact ih (k + 1) (by omega) fun i hi => by
          by_cases e : i = k
          · subst e
            exact fun z => h35 z.2
          · exact hf i (by omega)
      · exact zn_pick [1, 2, 3, 4] rfl (kt ⟨k, hkn, h22, h35⟩)
set_option maxHeartbeats 4000000 in
set_option maxRecDepth 20000 in
theorem zt_tnew0 {X : zX} (F : zLr X cX10_turbine 5 RX10) (hr : zRt X (some .boolean)) {ad : zR → Nat} {a : Nat → Nat} {x : Nat → Int32} {r : Nat → Nat} {g : Nat → Nat → Int32} {u : Nat → Nat} {v : Nat → Nat → Int32} {mc ms fr lo : Nat} {px py sg : Int32} {s t p s' : zM} {Bo : Option Value → va_W → Prop} (hroom : 1 ≤ mc ∧ 15 ≤ ms ∧ 8 ≤ fr ∧ 134 ≤ lo) (h0 : a 1 = ad (0, 0, 0)) (h1 : x 1 = 0) (hs : fWB_turbine px py sg zm0 s t p = some (.inl (Int32.ofNat 0, s'))) (hBo : ∀ w ws, (w = some (.int 1) ∧ ∃ r' g', (∀ i, i < 0 → g' i = g i) ∧ g' 0 0 = px ∧ g' 0 1 = py ∧ ws = zto (zcA X) a (upd x 1 (0 + 1)) r' g' u v ++ zww (zcA X) ad s' t p) → Bo w ws) : zN X mc ms fr lo (zNQ X mc ms Bo) 5 46 [(0, .ref (a 0)), (1, .int px), (2, .int py), (3, .int sg)] [] (zto (zcA X) a x r g u v ++ zww (zcA X) ad s t p) 0 0 := by
  refine zn_bipush F (v := 15) dX10_turbine_46 (by decide) ?_
  refine zn_newa F (N := 15) dX10_turbine_48 wArrP (by decide) (by decide) (Nat.le_of_ble_eq_true rfl) (by omega) (by omega) fun q => ?_
  refine zn_perm List.perm_append_comm ?_
  refine zn_dup F dX10_turbine_50 rfl ?_
  refine zn_iconst F (v := 0) dX10_turbine_51 (by decide) ?_
  refine zn_iload_n F (i := 1) (k := 1) dX10_turbine_52 rfl rfl ?_
  refine zn_iast F (q0 := 0) (jn := 0) (ws' := [(q, .inl (zcA X 0, 15, .inl (upd (fun _ => 0) 0 px)))] ++ (zto (zcA X) a x r g u v ++ zww (zcA X) ad s t p)) dX10_turbine_53 rfl (vp_in_nI (n := 0) (by decide) (by decide)) (by decide) rfl ?_
  refine zn_dup F dX10_turbine_54 rfl ?_
  refine zn_iconst F (v := 1) dX10_turbine_55 (by decide) ?_
  refine zn_iload_n F (i := 2) (k := 2) dX10_turbine_56 rfl rfl ?_
  refine zn_iast F (q0 := 0) (jn := 1) (ws' := [(q, .inl (zcA X 0, 15, .inl (upd (upd (fun _ => 0) 0 px) 1 py)))] ++ (zto (zcA X) a x r g u v ++ zww (zcA X) ad s t p)) dX10_turbine_57 rfl (vp_in_nI (n := 1) (by decide) (by decide)) (by decide) rfl ?_
  refine zn_dup F dX10_turbine_58 rfl ?_
  refine zn_iconst F (v := 2) dX10_turbine_59 (by decide) ?_
  refine zn_iload_n F (i := 3) (k := 3) dX10_turbine_60 rfl rfl ?_
  refine zn_iast F (q0 := 0) (jn := 2) (ws' := [(q, .inl (zcA X 0, 15, .inl (upd (upd (upd (fun _ => 0) 0 px) 1 py) 2 sg)))] ++ (zto (zcA X) a x r g u v ++ zww (zcA X) ad s t p)) dX10_turbine_61 rfl (vp_in_nI (n := 2) (by decide) (by decide)) (by decide) rfl ?_
  refine zn_dup F dX10_turbine_62 rfl ?_
  refine zn_iconst F (v := 3) dX10_turbine_63 (by decide) ?_
  refine zn_iconst F (v := 2) dX10_turbine_64 (by decide) ?_
  refine zn_iast F (q0 := 0) (jn := 3) (ws' := [(q, .inl (zcA X 0, 15, .inl (upd (upd (upd (upd (fun _ => 0) 0 px) 1 py) 2 sg) 3 2)))] ++ (zto (zcA X) a x r g u v ++ zww (zcA X) ad s t p)) dX10_turbine_65 rfl (vp_in_nI (n := 3) (by decide) (by decide)) (by decide) rfl ?_
  refine zn_dup F dX10_turbine_66 rfl ?_
  refine zn_iconst F (v := 4) dX10_turbine_67 (by decide) ?_
  refine zn_iconst F (v := 0) dX10_turbine_68 (by decide) ?_
  refine zn_iast F (q0 := 0) (jn := 4) (ws' := [(q, .inl (zcA X 0, 15, .inl (upd (upd (upd (upd (upd (fun _ => 0) 0 px) 1 py) 2 sg) 3 2) 4 0)))] ++ (zto (zcA X) a x r g u v ++ zww (zcA X) ad s t p)) dX10_turbine_69 rfl (vp_in_nI (n := 4) (by decide) (by decide)) (by decide) rfl ?_
  refine zn_dup F dX10_turbine_70 rfl ?_
  refine zn_iconst F (v := 5) dX10_turbine_71 (by decide) ?_
  refine zn_iconst F (v := 0) dX10_turbine_72 (by decide) ?_
  refine zn_iast F (q0 := 0) (jn := 5) (ws' := [(q, .inl (zcA X 0, 15, .inl (upd (upd (upd (upd (upd (upd (fun _ => 0) 0 px) 1 py) 2 sg) 3 2) 4 0) 5 0)))] ++ (zto (zcA X) a x r g u v ++ zww (zcA X) ad s t p)) dX10_turbine_73 rfl (vp_in_nI (n := 5) (by decide) (by decide)) (by decide) rfl ?_
  refine zn_dup F dX10_turbine_74 rfl ?_
  refine zn_bipush F (v := 6) dX10_turbine_75 (by decide) ?_
  refine zn_iconst F (v := 0) dX10_turbine_77 (by decide) ?_
  refine zn_iast F (q0 := 0) (jn := 6) (ws' := [(q, .inl (zcA X 0, 15, .inl (upd (upd (upd (upd (upd (upd (upd (fun _ => 0) 0 px) 1 py) 2 sg) 3 2) 4 0) 5 0) 6 0)))] ++ (zto (zcA X) a x r g u v ++ zww (zcA X) ad s t p)) dX10_turbine_78 rfl (vp_in_nI (n := 6) (by decide) (by decide)) (by decide) rfl ?_
  refine zn_dup F dX10_turbine_79 rfl ?_
  refine zn_bipush F (v := 7) dX10_turbine_80 (by decide) ?_
  refine zn_iconst F (v := 0) dX10_turbine_82 (by decide) ?_
  refine zn_iast F (q0 := 0) (jn := 7) (ws' := [(q, .inl (zcA X 0, 15, .inl (upd (upd (upd (upd (upd (upd (upd (upd (fun _ => 0) 0 px) 1 py) 2 sg) 3 2) 4 0) 5 0) 6 0) 7 0)))] ++ (zto (zcA X) a x r g u v ++ zww (zcA X) ad s t p)) dX10_turbine_83 rfl (vp_in_nI (n := 7) (by decide) (by decide)) (by decide) rfl ?_
  refine zn_dup F dX10_turbine_84 rfl ?_
  refine zn_bipush F (v := 8) dX10_turbine_85 (by decide) ?_
  refine zn_iconst F (v := 0) dX10_turbine_87 (by decide) ?_
  refine zn_iast F (q0 := 0) (jn := 8) (ws' := [(q, .inl (zcA X 0, 15, .inl (upd (upd (upd (upd (upd (upd (upd (upd (upd (fun _ => 0) 0 px) 1 py) 2 sg) 3 2) 4 0) 5 0) 6 0) 7 0) 8 0)))] ++ (zto (zcA X) a x r g u v ++ zww (zcA X) ad s t p)) dX10_turbine_88 rfl (vp_in_nI (n := 8) (by decide) (by decide)) (by decide) rfl ?_
  refine zn_dup F dX10_turbine_89 rfl ?_
  refine zn_bipush F (v := 9) dX10_turbine_90 (by decide) ?_
  refine zn_iconst F (v := 0) dX10_turbine_92 (by decide) ?_
  refine zn_iast F (q0 := 0) (jn := 9) (ws' := [(q, .inl (zcA X 0, 15, .inl (upd (upd (upd (upd (upd (upd (upd (upd (upd (upd (fun _ => 0) 0 px) 1 py) 2 sg) 3 2) 4 0) 5 0) 6 0) 7 0) 8 0) 9 0)))] ++ (zto (zcA X) a x r g u v ++ zww (zcA X) ad s t p)) dX10_turbine_93 rfl (vp_in_nI (n := 9) (by decide) (by decide)) (by decide) rfl ?_
  refine zn_dup F dX10_turbine_94 rfl ?_
  refine zn_bipush F (v := 10) dX10_turbine_95 (by decide) ?_
  refine zn_iconst F (v := 0) dX10_turbine_97 (by decide) ?_
  refine zn_iast F (q0 := 0) (jn := 10) (ws' := [(q, .inl (zcA X 0, 15, .inl (upd (upd (upd (upd (upd (upd (upd (upd (upd (upd (upd (fun _ => 0) 0 px) 1 py) 2 sg) 3 2) 4 0) 5 0) 6 0) 7 0) 8 0) 9 0) 10 0)))] ++ (zto (zcA X) a x r g u v ++ zww (zcA X) ad s t p)) dX10_turbine_98 rfl (vp_in_nI (n := 10) (by decide) (by decide)) (by decide) rfl ?_
  refine zn_dup F dX10_turbine_99 rfl ?_
  refine zn_bipush F (v := 11) dX10_turbine_100 (by decide) ?_
  refine zn_iconst F (v := 0) dX10_turbine_102 (by decide) ?_
  refine zn_iast F (q0 := 0) (jn := 11) (ws' := [(q, .inl (zcA X 0, 15, .inl (upd (upd (upd (upd (upd (upd (upd (upd (upd (upd (upd (upd (fun _ => 0) 0 px) 1 py) 2 sg) 3 2) 4 0) 5 0) 6 0) 7 0) 8 0) 9 0) 10 0) 11 0)))] ++ (zto (zcA X) a x r g u v ++ zww (zcA X) ad s t p)) dX10_turbine_103 rfl (vp_in_nI (n := 11) (by decide) (by decide)) (by decide) rfl ?_
  refine zn_dup F dX10_turbine_104 rfl ?_
  refine zn_bipush F (v := 12) dX10_turbine_105 (by decide) ?_
  refine zn_iconst F (v := 0) dX10_turbine_107 (by decide) ?_
  refine zn_iast F (q0 := 0) (jn := 12) (ws' := [(q, .inl (zcA X 0, 15, .inl (upd (upd (upd (upd (upd (upd (upd (upd (upd (upd (upd (upd (upd (fun _ => 0) 0 px) 1 py) 2 sg) 3 2) 4 0) 5 0) 6 0) 7 0) 8 0) 9 0) 10 0) 11 0) 12 0)))] ++ (zto (zcA X) a x r g u v ++ zww (zcA X) ad s t p)) dX10_turbine_108 rfl (vp_in_nI (n := 12) (by decide) (by decide)) (by decide) rfl ?_
  refine zn_dup F dX10_turbine_109 rfl ?_
  refine zn_bipush F (v := 13) dX10_turbine_110 (by decide) ?_
  refine zn_iconst F (v := (-1)) dX10_turbine_112 (by decide) ?_
  refine zn_iast F (q0 := 0) (jn := 13) (ws' := [(q, .inl (zcA X 0, 15, .inl (upd (upd (upd (upd (upd (upd (upd (upd (upd (upd (upd (upd (upd (upd (fun _ => 0) 0 px) 1 py) 2 sg) 3 2) 4 0) 5 0) 6 0) 7 0) 8 0) 9 0) 10 0) 11 0) 12 0) 13 (-1))))] ++ (zto (zcA X) a x r g u v ++ zww (zcA X) ad s t p)) dX10_turbine_113 rfl (vp_in_nI (n := 13) (by decide) (by decide)) (by decide) rfl ?_
  refine zn_dup F dX10_turbine_114 rfl ?_
  refine zn_bipush F (v := 14) dX10_turbine_115 (by decide) ?_
  refine zn_iconst F (v := (-1)) dX10_turbine_117 (by decide) ?_
  refine zn_iast F (q0 := 0) (jn := 14) (ws' := [(q, .inl (zcA X 0, 15, .inl (upd (upd (upd (upd (upd (upd (upd (upd (upd (upd (upd (upd (upd (upd (upd (fun _ => 0) 0 px) 1 py) 2 sg) 3 2) 4 0) 5 0) 6 0) 7 0) 8 0) 9 0) 10 0) 11 0) 12 0) 13 (-1)) 14 (-1))))] ++ (zto (zcA X) a x r g u v ++ zww (zcA X) ad s t p)) dX10_turbine_118 rfl (vp_in_nI (n := 14) (by decide) (by decide)) (by decide) rfl ?_
  refine zn_astore F (i := 4) (lv' := [(4, .ref q), (0, .ref ((a 0))), (1, .int px), (2, .int py), (3, .int sg)]) dX10_turbine_119 (by decide) rfl ?_
  refine zn_aload_n F (i := 0) (k := 1) dX10_turbine_121 rfl rfl ?_
  refine zn_get F (j := 1) (v := .ref ((a 3))) dX10_turbine_122 yfRX10_18 zCl_9 rfl rfl ?_
  refine zn_aload_n F (i := 0) (k := 1) dX10_turbine_125 rfl rfl ?_
  refine zn_dup F dX10_turbine_126 rfl ?_
  refine zn_get F (j := 1) (v := .int 0) dX10_turbine_127 yfRX10_61 zCl_9 rfl (by show some (Value.int (x 1)) = _; rw [h1]) ?_
  refine zn_dup_x1 F dX10_turbine_130 rfl rfl ?_
  refine zn_iconst F (v := 1) dX10_turbine_131 (by decide) ?_
  refine zn_iadd F dX10_turbine_132 ?_
  refine zn_put F (j := 1) (ws' := [(q, .inl (zcA X 0, 15, .inl (upd (upd (upd (upd (upd (upd (upd (upd (upd (upd (upd (upd (upd (upd (upd (fun _ => 0) 0 px) 1 py) 2 sg) 3 2) 4 0) 5 0) 6 0) 7 0) 8 0) 9 0) 10 0) 11 0) 12 0) 13 (-1)) 14 (-1))))] ++ (zto (zcA X) a (upd x 1 (0 + 1)) r g u v ++ zww (zcA X) ad s t p)) dX10_turbine_133 ypRX10_61 zCl_9 rfl (zlb rfl) rfl ?_
  refine zn_aload F (i := 4) (k := 0) dX10_turbine_136 rfl ?_
  refine zn_aastI F (q0 := 2) (qk := 0) (n := 8) (k := 15) (jn := 0) (ws' := [(q, .inl (zcA X 0, 15, .inl (upd (upd (upd (upd (upd (upd (upd (upd (upd (upd (upd (upd (upd (upd (upd (fun _ => 0) 0 px) 1 py) 2 sg) 3 2) 4 0) 5 0) 6 0) 7 0) 8 0) 9 0) 10 0) 11 0) 12 0) 13 (-1)) 14 (-1))))] ++ (ztoF (zcA X) a (upd x 1 (0 + 1)) (fun i => some (upn r 0 q i)) r g u v ++ zww (zcA X) ad s t p)) dX10_turbine_138 rfl rfl (vp_in_nI (n := 0) (by decide) (by decide)) (by decide) (by rw [zup_eq]; rfl) ?_
  refine zn_aload_n F (i := 0) (k := 1) dX10_turbine_139 rfl rfl ?_
  refine zn_get F (j := 1) (v := .ref ((ad (0, 0, 0)))) dX10_turbine_140 yfRX10_10 zCl_9 rfl (by show some (Value.ref (a 1)) = _; rw [h0]) ?_
  refine zn_iload_n F (i := 1) (k := 2) dX10_turbine_143 rfl rfl ?_
  refine zn_iload_n F (i := 2) (k := 3) dX10_turbine_144 rfl rfl ?_
  refine zn_iload_n F (i := 3) (k := 4) dX10_turbine_145 rfl rfl ?_
  refine zn_ws (ws' := ([(q, .inl (zcA X 0, 15, .inl (upd (upd (upd (upd (upd (upd (upd (upd (upd (upd (upd (upd (upd (upd (upd (fun _ => 0) 0 px) 1 py) 2 sg) 3 2) 4 0) 5 0) 6 0) 7 0) 8 0) 9 0) 10 0) 11 0) 12 0) 13 (-1)) 14 (-1))))] ++ ztoF (zcA X) a (upd x 1 (0 + 1)) (fun i => some (upn r 0 q i)) r g u v) ++ zww (zcA X) ad s t p) (List.append_assoc _ _ _).symm ?_
  refine zn_perm List.perm_append_comm ?_
  refine zn_callV F (h0 := ad (0, 0, 0)) (as := [.int px, .int py, .int sg]) (st := []) (j0 := 0) (zx_turbine ad hs) dX10_turbine_146 ycRX10_64 yyyX9_turbine rfl (wsB := [(q, .inl (zcA X 0, 15, .inl (upd (upd (upd (upd (upd (upd (upd (upd (upd (upd (upd (upd (upd (upd (upd (fun _ => 0) 0 px) 1 py) 2 sg) 3 2) 4 0) 5 0) 6 0) 7 0) 8 0) 9 0) 10 0) 11 0) 12 0) 13 (-1)) 14 (-1))))] ++ ztoF (zcA X) a (upd x 1 (0 + 1)) (fun i => some (upn r 0 q i)) r g u v) rfl (ci := 8) rfl rfl rfl (Nat.le_of_ble_eq_true rfl) (by omega) (by omega) (by omega) (by omega) fun w1 w2 hB => ?_
  obtain ⟨rfl, rfl⟩ := hB
  refine zn_perm List.perm_append_comm ?_
  refine zn_subA [1, 2, 3, 4, 5, 6, 0, 8, 9, 10, 11, 12, 13, 14] (ws' := zto (zcA X) a (upd x 1 (0 + 1)) (upn r 0 q) (upv g 0 (upd (upd (upd (upd (upd (upd (upd (upd (upd (upd (upd (upd (upd (upd (upd (fun _ => 0) 0 px) 1 py) 2 sg) 3 2) 4 0) 5 0) 6 0) 7 0) 8 0) 9 0) 10 0) 11 0) 12 0) 13 (-1)) 14 (-1))) u v) rfl rfl ?_
  refine zn_aload_n F (i := 0) (k := 1) dX10_turbine_149 rfl rfl ?_
  refine zn_get F (j := 0) (v := .int ((0 + 1))) dX10_turbine_150 yfRX10_61 zCl_9 rfl rfl ?_
  refine zn_iconst F (v := 1) dX10_turbine_153 (by decide) ?_
  refine zn_isub F dX10_turbine_154 ?_
  refine zn_icmp_ne F (tgt := 162) dX10_turbine_155 (by decide) (fun z => absurd (by decide) z) (fun _ => ?_)
  refine zn_iconst F (v := 1) dX10_turbine_158 (by decide) ?_
  refine zn_goto F (tgt := 163) dX10_turbine_159 (by decide) ?_
  exact zn_zreturn F hr dX10_turbine_163 rfl (hBo _ _ ⟨rfl, _, _, fun i hi => if_neg (by omega), rfl, rfl, rfl⟩) (by omega) (by omega)
set_option maxHeartbeats 4000000 in
set_option maxRecDepth 20000 in
theorem zt_tnew1 {X : zX} (F : zLr X cX10_turbine 5 RX10) (hr : zRt X (some .boolean)) {ad : zR → Nat} {a : Nat → Nat} {x : Nat → Int32} {r : Nat → Nat} {g : Nat → Nat → Int32} {u : Nat → Nat} {v : Nat → Nat → Int32} {mc ms fr lo : Nat} {px py sg : Int32} {s t p s' : zM} {Bo : Option Value → va_W → Prop} (hroom : 1 ≤ mc ∧ 15 ≤ ms ∧ 8 ≤ fr ∧ 134 ≤ lo) (h0 : a 1 = ad (0, 0, 0)) (h1 : x 1 = 1) (hs : fWB_turbine px py sg zm0 s t p = some (.inl (Int32.ofNat 1, s'))) (hBo : ∀ w ws, (w = some (.int 1) ∧ ∃ r' g', (∀ i, i < 1 → g' i = g i) ∧ g' 1 0 = px ∧ g' 1 1 = py ∧ ws = zto (zcA X) a (upd x 1 (1 + 1)) r' g' u v ++ zww (zcA X) ad s' t p) → Bo w ws) : zN X mc ms fr lo (zNQ X mc ms Bo) 5 46 [(0, .ref (a 0)), (1, .int px), (2, .int py), (3, .int sg)] [] (zto (zcA X) a x r g u v ++ zww (zcA X) ad s t p) 0 0 := by
  refine zn_bipush F (v := 15) dX10_turbine_46 (by decide) ?_
  refine zn_newa F (N := 15) dX10_turbine_48 wArrP (by decide) (by decide) (Nat.le_of_ble_eq_true rfl) (by omega) (by omega) fun q => ?_
  refine zn_perm List.perm_append_comm ?_
  refine zn_dup F dX10_turbine_50 rfl ?_
  refine zn_iconst F (v := 0) dX10_turbine_51 (by decide) ?_
  refine zn_iload_n F (i := 1) (k := 1) dX10_turbine_52 rfl rfl ?_
  refine zn_iast F (q0 := 0) (jn := 0) (ws' := [(q, .inl (zcA X 0, 15, .inl (upd (fun _ => 0) 0 px)))] ++ (zto (zcA X) a x r g u v ++ zww (zcA X) ad s t p)) dX10_turbine_53 rfl (vp_in_nI (n := 0) (by decide) (by decide)) (by decide) rfl ?_
  refine zn_dup F dX10_turbine_54 rfl ?_
  refine zn_iconst F (v := 1) dX10_turbine_55 (by decide) ?_
  refine zn_iload_n F (i := 2) (k := 2) dX10_turbine_56 rfl rfl ?_
  refine zn_iast F (q0 := 0) (jn := 1) (ws' := [(q, .inl (zcA X 0, 15, .inl (upd (upd (fun _ => 0) 0 px) 1 py)))] ++ (zto (zcA X) a x r g u v ++ zww (zcA X) ad s t p)) dX10_turbine_57 rfl (vp_in_nI (n := 1) (by decide) (by decide)) (by decide) rfl ?_
  refine zn_dup F dX10_turbine_58 rfl ?_
  refine zn_iconst F (v := 2) dX10_turbine_59 (by decide) ?_
  refine zn_iload_n F (i := 3) (k := 3) dX10_turbine_60 rfl rfl ?_
  refine zn_iast F (q0 := 0) (jn := 2) (ws' := [(q, .inl (zcA X 0, 15, .inl (upd (upd (upd (fun _ => 0) 0 px) 1 py) 2 sg)))] ++ (zto (zcA X) a x r g u v ++ zww (zcA X) ad s t p)) dX10_turbine_61 rfl (vp_in_nI (n := 2) (by decide) (by decide)) (by decide) rfl ?_
  refine zn_dup F dX10_turbine_62 rfl ?_
  refine zn_iconst F (v := 3) dX10_turbine_63 (by decide) ?_
  refine zn_iconst F (v := 2) dX10_turbine_64 (by decide) ?_
  refine zn_iast F (q0 := 0) (jn := 3) (ws' := [(q, .inl (zcA X 0, 15, .inl (upd (upd (upd (upd (fun _ => 0) 0 px) 1 py) 2 sg) 3 2)))] ++ (zto (zcA X) a x r g u v ++ zww (zcA X) ad s t p)) dX10_turbine_65 rfl (vp_in_nI (n := 3) (by decide) (by decide)) (by decide) rfl ?_
  refine zn_dup F dX10_turbine_66 rfl ?_
  refine zn_iconst F (v := 4) dX10_turbine_67 (by decide) ?_
  refine zn_iconst F (v := 0) dX10_turbine_68 (by decide) ?_
  refine zn_iast F (q0 := 0) (jn := 4) (ws' := [(q, .inl (zcA X 0, 15, .inl (upd (upd (upd (upd (upd (fun _ => 0) 0 px) 1 py) 2 sg) 3 2) 4 0)))] ++ (zto (zcA X) a x r g u v ++ zww (zcA X) ad s t p)) dX10_turbine_69 rfl (vp_in_nI (n := 4) (by decide) (by decide)) (by decide) rfl ?_
  refine zn_dup F dX10_turbine_70 rfl ?_
  refine zn_iconst F (v := 5) dX10_turbine_71 (by decide) ?_
  refine zn_iconst F (v := 0) dX10_turbine_72 (by decide) ?_
  refine zn_iast F (q0 := 0) (jn := 5) (ws' := [(q, .inl (zcA X 0, 15, .inl (upd (upd (upd (upd (upd (upd (fun _ => 0) 0 px) 1 py) 2 sg) 3 2) 4 0) 5 0)))] ++ (zto (zcA X) a x r g u v ++ zww (zcA X) ad s t p)) dX10_turbine_73 rfl (vp_in_nI (n := 5) (by decide) (by decide)) (by decide) rfl ?_
  refine zn_dup F dX10_turbine_74 rfl ?_
  refine zn_bipush F (v := 6) dX10_turbine_75 (by decide) ?_
  refine zn_iconst F (v := 0) dX10_turbine_77 (by decide) ?_
  refine zn_iast F (q0 := 0) (jn := 6) (ws' := [(q, .inl (zcA X 0, 15, .inl (upd (upd (upd (upd (upd (upd (upd (fun _ => 0) 0 px) 1 py) 2 sg) 3 2) 4 0) 5 0) 6 0)))] ++ (zto (zcA X) a x r g u v ++ zww (zcA X) ad s t p)) dX10_turbine_78 rfl (vp_in_nI (n := 6) (by decide) (by decide)) (by decide) rfl ?_
  refine zn_dup F dX10_turbine_79 rfl ?_
  refine zn_bipush F (v := 7) dX10_turbine_80 (by decide) ?_
  refine zn_iconst F (v := 0) dX10_turbine_82 (by decide) ?_
  refine zn_iast F (q0 := 0) (jn := 7) (ws' := [(q, .inl (zcA X 0, 15, .inl (upd (upd (upd (upd (upd (upd (upd (upd (fun _ => 0) 0 px) 1 py) 2 sg) 3 2) 4 0) 5 0) 6 0) 7 0)))] ++ (zto (zcA X) a x r g u v ++ zww (zcA X) ad s t p)) dX10_turbine_83 rfl (vp_in_nI (n := 7) (by decide) (by decide)) (by decide) rfl ?_
  refine zn_dup F dX10_turbine_84 rfl ?_
  refine zn_bipush F (v := 8) dX10_turbine_85 (by decide) ?_
  refine zn_iconst F (v := 0) dX10_turbine_87 (by decide) ?_
  refine zn_iast F (q0 := 0) (jn := 8) (ws' := [(q, .inl (zcA X 0, 15, .inl (upd (upd (upd (upd (upd (upd (upd (upd (upd (fun _ => 0) 0 px) 1 py) 2 sg) 3 2) 4 0) 5 0) 6 0) 7 0) 8 0)))] ++ (zto (zcA X) a x r g u v ++ zww (zcA X) ad s t p)) dX10_turbine_88 rfl (vp_in_nI (n := 8) (by decide) (by decide)) (by decide) rfl ?_
  refine zn_dup F dX10_turbine_89 rfl ?_
  refine zn_bipush F (v := 9) dX10_turbine_90 (by decide) ?_
  refine zn_iconst F (v := 0) dX10_turbine_92 (by decide) ?_
  refine zn_iast F (q0 := 0) (jn := 9) (ws' := [(q, .inl (zcA X 0, 15, .inl (upd (upd (upd (upd (upd (upd (upd (upd (upd (upd (fun _ => 0) 0 px) 1 py) 2 sg) 3 2) 4 0) 5 0) 6 0) 7 0) 8 0) 9 0)))] ++ (zto (zcA X) a x r g u v ++ zww (zcA X) ad s t p)) dX10_turbine_93 rfl (vp_in_nI (n := 9) (by decide) (by decide)) (by decide) rfl ?_
  refine zn_dup F dX10_turbine_94 rfl ?_
  refine zn_bipush F (v := 10) dX10_turbine_95 (by decide) ?_
  refine zn_iconst F (v := 0) dX10_turbine_97 (by decide) ?_
  refine zn_iast F (q0 := 0) (jn := 10) (ws' := [(q, .inl (zcA X 0, 15, .inl (upd (upd (upd (upd (upd (upd (upd (upd (upd (upd (upd (fun _ => 0) 0 px) 1 py) 2 sg) 3 2) 4 0) 5 0) 6 0) 7 0) 8 0) 9 0) 10 0)))] ++ (zto (zcA X) a x r g u v ++ zww (zcA X) ad s t p)) dX10_turbine_98 rfl (vp_in_nI (n := 10) (by decide) (by decide)) (by decide) rfl ?_
  refine zn_dup F dX10_turbine_99 rfl ?_
  refine zn_bipush F (v := 11) dX10_turbine_100 (by decide) ?_
  refine zn_iconst F (v := 0) dX10_turbine_102 (by decide) ?_
  refine zn_iast F (q0 := 0) (jn := 11) (ws' := [(q, .inl (zcA X 0, 15, .inl (upd (upd (upd (upd (upd (upd (upd (upd (upd (upd (upd (upd (fun _ => 0) 0 px) 1 py) 2 sg) 3 2) 4 0) 5 0) 6 0) 7 0) 8 0) 9 0) 10 0) 11 0)))] ++ (zto (zcA X) a x r g u v ++ zww (zcA X) ad s t p)) dX10_turbine_103 rfl (vp_in_nI (n := 11) (by decide) (by decide)) (by decide) rfl ?_
  refine zn_dup F dX10_turbine_104 rfl ?_
  refine zn_bipush F (v := 12) dX10_turbine_105 (by decide) ?_
  refine zn_iconst F (v := 0) dX10_turbine_107 (by decide) ?_
  refine zn_iast F (q0 := 0) (jn := 12) (ws' := [(q, .inl (zcA X 0, 15, .inl (upd (upd (upd (upd (upd (upd (upd (upd (upd (upd (upd (upd (upd (fun _ => 0) 0 px) 1 py) 2 sg) 3 2) 4 0) 5 0) 6 0) 7 0) 8 0) 9 0) 10 0) 11 0) 12 0)))] ++ (zto (zcA X) a x r g u v ++ zww (zcA X) ad s t p)) dX10_turbine_108 rfl (vp_in_nI (n := 12) (by decide) (by decide)) (by decide) rfl ?_
  refine zn_dup F dX10_turbine_109 rfl ?_
  refine zn_bipush F (v := 13) dX10_turbine_110 (by decide) ?_
  refine zn_iconst F (v := (-1)) dX10_turbine_112 (by decide) ?_
  refine zn_iast F (q0 := 0) (jn := 13) (ws' := [(q, .inl (zcA X 0, 15, .inl (upd (upd (upd (upd (upd (upd (upd (upd (upd (upd (upd (upd (upd (upd (fun _ => 0) 0 px) 1 py) 2 sg) 3 2) 4 0) 5 0) 6 0) 7 0) 8 0) 9 0) 10 0) 11 0) 12 0) 13 (-1))))] ++ (zto (zcA X) a x r g u v ++ zww (zcA X) ad s t p)) dX10_turbine_113 rfl (vp_in_nI (n := 13) (by decide) (by decide)) (by decide) rfl ?_
  refine zn_dup F dX10_turbine_114 rfl ?_
  refine zn_bipush F (v := 14) dX10_turbine_115 (by decide) ?_
  refine zn_iconst F (v := (-1)) dX10_turbine_117 (by decide) ?_
  refine zn_iast F (q0 := 0) (jn := 14) (ws' := [(q, .inl (zcA X 0, 15, .inl (upd (upd (upd (upd (upd (upd (upd (upd (upd (upd (upd (upd (upd (upd (upd (fun _ => 0) 0 px) 1 py) 2 sg) 3 2) 4 0) 5 0) 6 0) 7 0) 8 0) 9 0) 10 0) 11 0) 12 0) 13 (-1)) 14 (-1))))] ++ (zto (zcA X) a x r g u v ++ zww (zcA X) ad s t p)) dX10_turbine_118 rfl (vp_in_nI (n := 14) (by decide) (by decide)) (by decide) rfl ?_
  refine zn_astore F (i := 4) (lv' := [(4, .ref q), (0, .ref ((a 0))), (1, .int px), (2, .int py), (3, .int sg)]) dX10_turbine_119 (by decide) rfl ?_
  refine zn_aload_n F (i := 0) (k := 1) dX10_turbine_121 rfl rfl ?_
  refine zn_get F (j := 1) (v := .ref ((a 3))) dX10_turbine_122 yfRX10_18 zCl_9 rfl rfl ?_
  refine zn_aload_n F (i := 0) (k := 1) dX10_turbine_125 rfl rfl ?_
  refine zn_dup F dX10_turbine_126 rfl ?_
  refine zn_get F (j := 1) (v := .int 1) dX10_turbine_127 yfRX10_61 zCl_9 rfl (by show some (Value.int (x 1)) = _; rw [h1]) ?_
  refine zn_dup_x1 F dX10_turbine_130 rfl rfl ?_
  refine zn_iconst F (v := 1) dX10_turbine_131 (by decide) ?_
  refine zn_iadd F dX10_turbine_132 ?_
  refine zn_put F (j := 1) (ws' := [(q, .inl (zcA X 0, 15, .inl (upd (upd (upd (upd (upd (upd (upd (upd (upd (upd (upd (upd (upd (upd (upd (fun _ => 0) 0 px) 1 py) 2 sg) 3 2) 4 0) 5 0) 6 0) 7 0) 8 0) 9 0) 10 0) 11 0) 12 0) 13 (-1)) 14 (-1))))] ++ (zto (zcA X) a (upd x 1 (1 + 1)) r g u v ++ zww (zcA X) ad s t p)) dX10_turbine_133 ypRX10_61 zCl_9 rfl (zlb rfl) rfl ?_
  refine zn_aload F (i := 4) (k := 0) dX10_turbine_136 rfl ?_
  refine zn_aastI F (q0 := 2) (qk := 0) (n := 8) (k := 15) (jn := 1) (ws' := [(q, .inl (zcA X 0, 15, .inl (upd (upd (upd (upd (upd (upd (upd (upd (upd (upd (upd (upd (upd (upd (upd (fun _ => 0) 0 px) 1 py) 2 sg) 3 2) 4 0) 5 0) 6 0) 7 0) 8 0) 9 0) 10 0) 11 0) 12 0) 13 (-1)) 14 (-1))))] ++ (ztoF (zcA X) a (upd x 1 (1 + 1)) (fun i => some (upn r 1 q i)) r g u v ++ zww (zcA X) ad s t p)) dX10_turbine_138 rfl rfl (vp_in_nI (n := 1) (by decide) (by decide)) (by decide) (by rw [zup_eq]; rfl) ?_
  refine zn_aload_n F (i := 0) (k := 1) dX10_turbine_139 rfl rfl ?_
  refine zn_get F (j := 1) (v := .ref ((ad (0, 0, 0)))) dX10_turbine_140 yfRX10_10 zCl_9 rfl (by show some (Value.ref (a 1)) = _; rw [h0]) ?_
  refine zn_iload_n F (i := 1) (k := 2) dX10_turbine_143 rfl rfl ?_
  refine zn_iload_n F (i := 2) (k := 3) dX10_turbine_144 rfl rfl ?_
  refine zn_iload_n F (i := 3) (k := 4) dX10_turbine_145 rfl rfl ?_
  refine zn_ws (ws' := ([(q, .inl (zcA X 0, 15, .inl (upd (upd (upd (upd (upd (upd (upd (upd (upd (upd (upd (upd (upd (upd (upd (fun _ => 0) 0 px) 1 py) 2 sg) 3 2) 4 0) 5 0) 6 0) 7 0) 8 0) 9 0) 10 0) 11 0) 12 0) 13 (-1)) 14 (-1))))] ++ ztoF (zcA X) a (upd x 1 (1 + 1)) (fun i => some (upn r 1 q i)) r g u v) ++ zww (zcA X) ad s t p) (List.append_assoc _ _ _).symm ?_
  refine zn_perm List.perm_append_comm ?_
  refine zn_callV F (h0 := ad (0, 0, 0)) (as := [.int px, .int py, .int sg]) (st := []) (j0 := 0) (zx_turbine ad hs) dX10_turbine_146 ycRX10_64 yyyX9_turbine rfl (wsB := [(q, .inl (zcA X 0, 15, .inl (upd (upd (upd (upd (upd (upd (upd (upd (upd (upd (upd (upd (upd (upd (upd (fun _ => 0) 0 px) 1 py) 2 sg) 3 2) 4 0) 5 0) 6 0) 7 0) 8 0) 9 0) 10 0) 11 0) 12 0) 13 (-1)) 14 (-1))))] ++ ztoF (zcA X) a (upd x 1 (1 + 1)) (fun i => some (upn r 1 q i)) r g u v) rfl (ci := 8) rfl rfl rfl (Nat.le_of_ble_eq_true rfl) (by omega) (by omega) (by omega) (by omega) fun w1 w2 hB => ?_
  obtain ⟨rfl, rfl⟩ := hB
  refine zn_perm List.perm_append_comm ?_
  refine zn_subA [1, 2, 3, 4, 5, 6, 7, 0, 9, 10, 11, 12, 13, 14] (ws' := zto (zcA X) a (upd x 1 (1 + 1)) (upn r 1 q) (upv g 1 (upd (upd (upd (upd (upd (upd (upd (upd (upd (upd (upd (upd (upd (upd (upd (fun _ => 0) 0 px) 1 py) 2 sg) 3 2) 4 0) 5 0) 6 0) 7 0) 8 0) 9 0) 10 0) 11 0) 12 0) 13 (-1)) 14 (-1))) u v) rfl rfl ?_
  refine zn_aload_n F (i := 0) (k := 1) dX10_turbine_149 rfl rfl ?_
  refine zn_get F (j := 0) (v := .int ((1 + 1))) dX10_turbine_150 yfRX10_61 zCl_9 rfl rfl ?_
  refine zn_iconst F (v := 1) dX10_turbine_153 (by decide) ?_
  refine zn_isub F dX10_turbine_154 ?_
  refine zn_icmp_ne F (tgt := 162) dX10_turbine_155 (by decide) (fun z => absurd (by decide) z) (fun _ => ?_)
  refine zn_iconst F (v := 1) dX10_turbine_158 (by decide) ?_
  refine zn_goto F (tgt := 163) dX10_turbine_159 (by decide) ?_
  exact zn_zreturn F hr dX10_turbine_163 rfl (hBo _ _ ⟨rfl, _, _, fun i hi => if_neg (by omega), rfl, rfl, rfl⟩) (by omega) (by omega)
set_option maxHeartbeats 4000000 in
set_option maxRecDepth 20000 in
theorem zt_tnew2 {X : zX} (F : zLr X cX10_turbine 5 RX10) (hr : zRt X (some .boolean)) {ad : zR → Nat} {a : Nat → Nat} {x : Nat → Int32} {r : Nat → Nat} {g : Nat → Nat → Int32} {u : Nat → Nat} {v : Nat → Nat → Int32} {mc ms fr lo : Nat} {px py sg : Int32} {s t p s' : zM} {Bo : Option Value → va_W → Prop} (hroom : 1 ≤ mc ∧ 15 ≤ ms ∧ 8 ≤ fr ∧ 134 ≤ lo) (h0 : a 1 = ad (0, 0, 0)) (h1 : x 1 = 2) (hs : fWB_turbine px py sg zm0 s t p = some (.inl (Int32.ofNat 2, s'))) (hBo : ∀ w ws, (w = some (.int 1) ∧ ∃ r' g', (∀ i, i < 2 → g' i = g i) ∧ g' 2 0 = px ∧ g' 2 1 = py ∧ ws = zto (zcA X) a (upd x 1 (2 + 1)) r' g' u v ++ zww (zcA X) ad s' t p) → Bo w ws) : zN X mc ms fr lo (zNQ X mc ms Bo) 5 46 [(0, .ref (a 0)), (1, .int px), (2, .int py), (3, .int sg)] [] (zto (zcA X) a x r g u v ++ zww (zcA X) ad s t p) 0 0 := by
  refine zn_bipush F (v := 15) dX10_turbine_46 (by decide) ?_
  refine zn_newa F (N := 15) dX10_turbine_48 wArrP (by decide) (by decide) (Nat.le_of_ble_eq_true rfl) (by omega) (by omega) fun q => ?_
  refine zn_perm List.perm_append_comm ?_
  refine zn_dup F dX10_turbine_50 rfl ?_
  refine zn_iconst F (v := 0) dX10_turbine_51 (by decide) ?_
  refine zn_iload_n F (i := 1) (k := 1) dX10_turbine_52 rfl rfl ?_
  refine zn_iast F (q0 := 0) (jn := 0) (ws' := [(q, .inl (zcA X 0, 15, .inl (upd (fun _ => 0) 0 px)))] ++ (zto (zcA X) a x r g u v ++ zww (zcA X) ad s t p)) dX10_turbine_53 rfl (vp_in_nI (n := 0) (by decide) (by decide)) (by decide) rfl ?_
  refine zn_dup F dX10_turbine_54 rfl ?_
  refine zn_iconst F (v := 1) dX10_turbine_55 (by decide) ?_
  refine zn_iload_n F (i := 2) (k := 2) dX10_turbine_56 rfl rfl ?_
  refine zn_iast F (q0 := 0) (jn := 1) (ws' := [(q, .inl (zcA X 0, 15, .inl (upd (upd (fun _ => 0) 0 px) 1 py)))] ++ (zto (zcA X) a x r g u v ++ zww (zcA X) ad s t p)) dX10_turbine_57 rfl (vp_in_nI (n := 1) (by decide) (by decide)) (by decide) rfl ?_
  refine zn_dup F dX10_turbine_58 rfl ?_
  refine zn_iconst F (v := 2) dX10_turbine_59 (by decide) ?_
  refine zn_iload_n F (i := 3) (k := 3) dX10_turbine_60 rfl rfl ?_
  refine zn_iast F (q0 := 0) (jn := 2) (ws' := [(q, .inl (zcA X 0, 15, .inl (upd (upd (upd (fun _ => 0) 0 px) 1 py) 2 sg)))] ++ (zto (zcA X) a x r g u v ++ zww (zcA X) ad s t p)) dX10_turbine_61 rfl (vp_in_nI (n := 2) (by decide) (by decide)) (by decide) rfl ?_
  refine zn_dup F dX10_turbine_62 rfl ?_
  refine zn_iconst F (v := 3) dX10_turbine_63 (by decide) ?_
  refine zn_iconst F (v := 2) dX10_turbine_64 (by decide) ?_
  refine zn_iast F (q0 := 0) (jn := 3) (ws' := [(q, .inl (zcA X 0, 15, .inl (upd (upd (upd (upd (fun _ => 0) 0 px) 1 py) 2 sg) 3 2)))] ++ (zto (zcA X) a x r g u v ++ zww (zcA X) ad s t p)) dX10_turbine_65 rfl (vp_in_nI (n := 3) (by decide) (by decide)) (by decide) rfl ?_
  refine zn_dup F dX10_turbine_66 rfl ?_
  refine zn_iconst F (v := 4) dX10_turbine_67 (by decide) ?_
  refine zn_iconst F (v := 0) dX10_turbine_68 (by decide) ?_
  refine zn_iast F (q0 := 0) (jn := 4) (ws' := [(q, .inl (zcA X 0, 15, .inl (upd (upd (upd (upd (upd (fun _ => 0) 0 px) 1 py) 2 sg) 3 2) 4 0)))] ++ (zto (zcA X) a x r g u v ++ zww (zcA X) ad s t p)) dX10_turbine_69 rfl (vp_in_nI (n := 4) (by decide) (by decide)) (by decide) rfl ?_
  refine zn_dup F dX10_turbine_70 rfl ?_
  refine zn_iconst F (v := 5) dX10_turbine_71 (by decide) ?_
  refine zn_iconst F (v := 0) dX10_turbine_72 (by decide) ?_
  refine zn_iast F (q0 := 0) (jn := 5) (ws' := [(q, .inl (zcA X 0, 15, .inl (upd (upd (upd (upd (upd (upd (fun _ => 0) 0 px) 1 py) 2 sg) 3 2) 4 0) 5 0)))] ++ (zto (zcA X) a x r g u v ++ zww (zcA X) ad s t p)) dX10_turbine_73 rfl (vp_in_nI (n := 5) (by decide) (by decide)) (by decide) rfl ?_
  refine zn_dup F dX10_turbine_74 rfl ?_
  refine zn_bipush F (v := 6) dX10_turbine_75 (by decide) ?_
  refine zn_iconst F (v := 0) dX10_turbine_77 (by decide) ?_
  refine zn_iast F (q0 := 0) (jn := 6) (ws' := [(q, .inl (zcA X 0, 15, .inl (upd (upd (upd (upd (upd (upd (upd (fun _ => 0) 0 px) 1 py) 2 sg) 3 2) 4 0) 5 0) 6 0)))] ++ (zto (zcA X) a x r g u v ++ zww (zcA X) ad s t p)) dX10_turbine_78 rfl (vp_in_nI (n := 6) (by decide) (by decide)) (by decide) rfl ?_
  refine zn_dup F dX10_turbine_79 rfl ?_
  refine zn_bipush F (v := 7) dX10_turbine_80 (by decide) ?_
  refine zn_iconst F (v := 0) dX10_turbine_82 (by decide) ?_
  refine zn_iast F (q0 := 0) (jn := 7) (ws' := [(q, .inl (zcA X 0, 15, .inl (upd (upd (upd (upd (upd (upd (upd (upd (fun _ => 0) 0 px) 1 py) 2 sg) 3 2) 4 0) 5 0) 6 0) 7 0)))] ++ (zto (zcA X) a x r g u v ++ zww (zcA X) ad s t p)) dX10_turbine_83 rfl (vp_in_nI (n := 7) (by decide) (by decide)) (by decide) rfl ?_
  refine zn_dup F dX10_turbine_84 rfl ?_
  refine zn_bipush F (v := 8) dX10_turbine_85 (by decide) ?_
  refine zn_iconst F (v := 0) dX10_turbine_87 (by decide) ?_
  refine zn_iast F (q0 := 0) (jn := 8) (ws' := [(q, .inl (zcA X 0, 15, .inl (upd (upd (upd (upd (upd (upd (upd (upd (upd (fun _ => 0) 0 px) 1 py) 2 sg) 3 2) 4 0) 5 0) 6 0) 7 0) 8 0)))] ++ (zto (zcA X) a x r g u v ++ zww (zcA X) ad s t p)) dX10_turbine_88 rfl (vp_in_nI (n := 8) (by decide) (by decide)) (by decide) rfl ?_
  refine zn_dup F dX10_turbine_89 rfl ?_
  refine zn_bipush F (v := 9) dX10_turbine_90 (by decide) ?_
  refine zn_iconst F (v := 0) dX10_turbine_92 (by decide) ?_
  refine zn_iast F (q0 := 0) (jn := 9) (ws' := [(q, .inl (zcA X 0, 15, .inl (upd (upd (upd (upd (upd (upd (upd (upd (upd (upd (fun _ => 0) 0 px) 1 py) 2 sg) 3 2) 4 0) 5 0) 6 0) 7 0) 8 0) 9 0)))] ++ (zto (zcA X) a x r g u v ++ zww (zcA X) ad s t p)) dX10_turbine_93 rfl (vp_in_nI (n := 9) (by decide) (by decide)) (by decide) rfl ?_
  refine zn_dup F dX10_turbine_94 rfl ?_
  refine zn_bipush F (v := 10) dX10_turbine_95 (by decide) ?_
  refine zn_iconst F (v := 0) dX10_turbine_97 (by decide) ?_
  refine zn_iast F (q0 := 0) (jn := 10) (ws' := [(q, .inl (zcA X 0, 15, .inl (upd (upd (upd (upd (upd (upd (upd (upd (upd (upd (upd (fun _ => 0) 0 px) 1 py) 2 sg) 3 2) 4 0) 5 0) 6 0) 7 0) 8 0) 9 0) 10 0)))] ++ (zto (zcA X) a x r g u v ++ zww (zcA X) ad s t p)) dX10_turbine_98 rfl (vp_in_nI (n := 10) (by decide) (by decide)) (by decide) rfl ?_
  refine zn_dup F dX10_turbine_99 rfl ?_
  refine zn_bipush F (v := 11) dX10_turbine_100 (by decide) ?_
  refine zn_iconst F (v := 0) dX10_turbine_102 (by decide) ?_
  refine zn_iast F (q0 := 0) (jn := 11) (ws' := [(q, .inl (zcA X 0, 15, .inl (upd (upd (upd (upd (upd (upd (upd (upd (upd (upd (upd (upd (fun _ => 0) 0 px) 1 py) 2 sg) 3 2) 4 0) 5 0) 6 0) 7 0) 8 0) 9 0) 10 0) 11 0)))] ++ (zto (zcA X) a x r g u v ++ zww (zcA X) ad s t p)) dX10_turbine_103 rfl (vp_in_nI (n := 11) (by decide) (by decide)) (by decide) rfl ?_
  refine zn_dup F dX10_turbine_104 rfl ?_
  refine zn_bipush F (v := 12) dX10_turbine_105 (by decide) ?_
  refine zn_iconst F (v := 0) dX10_turbine_107 (by decide) ?_
  refine zn_iast F (q0 := 0) (jn := 12) (ws' := [(q, .inl (zcA X 0, 15, .inl (upd (upd (upd (upd (upd (upd (upd (upd (upd (upd (upd (upd (upd (fun _ => 0) 0 px) 1 py) 2 sg) 3 2) 4 0) 5 0) 6 0) 7 0) 8 0) 9 0) 10 0) 11 0) 12 0)))] ++ (zto (zcA X) a x r g u v ++ zww (zcA X) ad s t p)) dX10_turbine_108 rfl (vp_in_nI (n := 12) (by decide) (by decide)) (by decide) rfl ?_
  refine zn_dup F dX10_turbine_109 rfl ?_
  refine zn_bipush F (v := 13) dX10_turbine_110 (by decide) ?_
  refine zn_iconst F (v := (-1)) dX10_turbine_112 (by decide) ?_
  refine zn_iast F (q0 := 0) (jn := 13) (ws' := [(q, .inl (zcA X 0, 15, .inl (upd (upd (upd (upd (upd (upd (upd (upd (upd (upd (upd (upd (upd (upd (fun _ => 0) 0 px) 1 py) 2 sg) 3 2) 4 0) 5 0) 6 0) 7 0) 8 0) 9 0) 10 0) 11 0) 12 0) 13 (-1))))] ++ (zto (zcA X) a x r g u v ++ zww (zcA X) ad s t p)) dX10_turbine_113 rfl (vp_in_nI (n := 13) (by decide) (by decide)) (by decide) rfl ?_
  refine zn_dup F dX10_turbine_114 rfl ?_
  refine zn_bipush F (v := 14) dX10_turbine_115 (by decide) ?_
  refine zn_iconst F (v := (-1)) dX10_turbine_117 (by decide) ?_
  refine zn_iast F (q0 := 0) (jn := 14) (ws' := [(q, .inl (zcA X 0, 15, .inl (upd (upd (upd (upd (upd (upd (upd (upd (upd (upd (upd (upd (upd (upd (upd (fun _ => 0) 0 px) 1 py) 2 sg) 3 2) 4 0) 5 0) 6 0) 7 0) 8 0) 9 0) 10 0) 11 0) 12 0) 13 (-1)) 14 (-1))))] ++ (zto (zcA X) a x r g u v ++ zww (zcA X) ad s t p)) dX10_turbine_118 rfl (vp_in_nI (n := 14) (by decide) (by decide)) (by decide) rfl ?_
  refine zn_astore F (i := 4) (lv' := [(4, .ref q), (0, .ref ((a 0))), (1, .int px), (2, .int py), (3, .int sg)]) dX10_turbine_119 (by decide) rfl ?_
  refine zn_aload_n F (i := 0) (k := 1) dX10_turbine_121 rfl rfl ?_
  refine zn_get F (j := 1) (v := .ref ((a 3))) dX10_turbine_122 yfRX10_18 zCl_9 rfl rfl ?_
  refine zn_aload_n F (i := 0) (k := 1) dX10_turbine_125 rfl rfl ?_
  refine zn_dup F dX10_turbine_126 rfl ?_
  refine zn_get F (j := 1) (v := .int 2) dX10_turbine_127 yfRX10_61 zCl_9 rfl (by show some (Value.int (x 1)) = _; rw [h1]) ?_
  refine zn_dup_x1 F dX10_turbine_130 rfl rfl ?_
  refine zn_iconst F (v := 1) dX10_turbine_131 (by decide) ?_
  refine zn_iadd F dX10_turbine_132 ?_
  refine zn_put F (j := 1) (ws' := [(q, .inl (zcA X 0, 15, .inl (upd (upd (upd (upd (upd (upd (upd (upd (upd (upd (upd (upd (upd (upd (upd (fun _ => 0) 0 px) 1 py) 2 sg) 3 2) 4 0) 5 0) 6 0) 7 0) 8 0) 9 0) 10 0) 11 0) 12 0) 13 (-1)) 14 (-1))))] ++ (zto (zcA X) a (upd x 1 (2 + 1)) r g u v ++ zww (zcA X) ad s t p)) dX10_turbine_133 ypRX10_61 zCl_9 rfl (zlb rfl) rfl ?_
  refine zn_aload F (i := 4) (k := 0) dX10_turbine_136 rfl ?_
  refine zn_aastI F (q0 := 2) (qk := 0) (n := 8) (k := 15) (jn := 2) (ws' := [(q, .inl (zcA X 0, 15, .inl (upd (upd (upd (upd (upd (upd (upd (upd (upd (upd (upd (upd (upd (upd (upd (fun _ => 0) 0 px) 1 py) 2 sg) 3 2) 4 0) 5 0) 6 0) 7 0) 8 0) 9 0) 10 0) 11 0) 12 0) 13 (-1)) 14 (-1))))] ++ (ztoF (zcA X) a (upd x 1 (2 + 1)) (fun i => some (upn r 2 q i)) r g u v ++ zww (zcA X) ad s t p)) dX10_turbine_138 rfl rfl (vp_in_nI (n := 2) (by decide) (by decide)) (by decide) (by rw [zup_eq]; rfl) ?_
  refine zn_aload_n F (i := 0) (k := 1) dX10_turbine_139 rfl rfl ?_
  refine zn_get F (j := 1) (v := .ref ((ad (0, 0, 0)))) dX10_turbine_140 yfRX10_10 zCl_9 rfl (by show some (Value.ref (a 1)) = _; rw [h0]) ?_
  refine zn_iload_n F (i := 1) (k := 2) dX10_turbine_143 rfl rfl ?_
  refine zn_iload_n F (i := 2) (k := 3) dX10_turbine_144 rfl rfl ?_
  refine zn_iload_n F (i := 3) (k := 4) dX10_turbine_145 rfl rfl ?_
  refine zn_ws (ws' := ([(q, .inl (zcA X 0, 15, .inl (upd (upd (upd (upd (upd (upd (upd (upd (upd (upd (upd (upd (upd (upd (upd (fun _ => 0) 0 px) 1 py) 2 sg) 3 2) 4 0) 5 0) 6 0) 7 0) 8 0) 9 0) 10 0) 11 0) 12 0) 13 (-1)) 14 (-1))))] ++ ztoF (zcA X) a (upd x 1 (2 + 1)) (fun i => some (upn r 2 q i)) r g u v) ++ zww (zcA X) ad s t p) (List.append_assoc _ _ _).symm ?_
  refine zn_perm List.perm_append_comm ?_
  refine zn_callV F (h0 := ad (0, 0, 0)) (as := [.int px, .int py, .int sg]) (st := []) (j0 := 0) (zx_turbine ad hs) dX10_turbine_146 ycRX10_64 yyyX9_turbine rfl (wsB := [(q, .inl (zcA X 0, 15, .inl (upd (upd (upd (upd (upd (upd (upd (upd (upd (upd (upd (upd (upd (upd (upd (fun _ => 0) 0 px) 1 py) 2 sg) 3 2) 4 0) 5 0) 6 0) 7 0) 8 0) 9 0) 10 0) 11 0) 12 0) 13 (-1)) 14 (-1))))] ++ ztoF (zcA X) a (upd x 1 (2 + 1)) (fun i => some (upn r 2 q i)) r g u v) rfl (ci := 8) rfl rfl rfl (Nat.le_of_ble_eq_true rfl) (by omega) (by omega) (by omega) (by omega) fun w1 w2 hB => ?_
  obtain ⟨rfl, rfl⟩ := hB
  refine zn_perm List.perm_append_comm ?_
  refine zn_subA [1, 2, 3, 4, 5, 6, 7, 8, 0, 10, 11, 12, 13, 14] (ws' := zto (zcA X) a (upd x 1 (2 + 1)) (upn r 2 q) (upv g 2 (upd (upd (upd (upd (upd (upd (upd (upd (upd (upd (upd (upd (upd (upd (upd (fun _ => 0) 0 px) 1 py) 2 sg) 3 2) 4 0) 5 0) 6 0) 7 0) 8 0) 9 0) 10 0) 11 0) 12 0) 13 (-1)) 14 (-1))) u v) rfl rfl ?_
  refine zn_aload_n F (i := 0) (k := 1) dX10_turbine_149 rfl rfl ?_
  refine zn_get F (j := 0) (v := .int ((2 + 1))) dX10_turbine_150 yfRX10_61 zCl_9 rfl rfl ?_
  refine zn_iconst F (v := 1) dX10_turbine_153 (by decide) ?_
  refine zn_isub F dX10_turbine_154 ?_
  refine zn_icmp_ne F (tgt := 162) dX10_turbine_155 (by decide) (fun z => absurd (by decide) z) (fun _ => ?_)
  refine zn_iconst F (v := 1) dX10_turbine_158 (by decide) ?_
  refine zn_goto F (tgt := 163) dX10_turbine_159 (by decide) ?_
  exact zn_zreturn F hr dX10_turbine_163 rfl (hBo _ _ ⟨rfl, _, _, fun i hi => if_neg (by omega), rfl, rfl, rfl⟩) (by omega) (by omega)
set_option maxHeartbeats 4000000 in
set_option maxRecDepth 20000 in
theorem zt_tnew3 {X : zX} (F : zLr X cX10_turbine 5 RX10) (hr : zRt X (some .boolean)) {ad : zR → Nat} {a : Nat → Nat} {x : Nat → Int32} {r : Nat → Nat} {g : Nat → Nat → Int32} {u : Nat → Nat} {v : Nat → Nat → Int32} {mc ms fr lo : Nat} {px py sg : Int32} {s t p s' : zM} {Bo : Option Value → va_W → Prop} (hroom : 1 ≤ mc ∧ 15 ≤ ms ∧ 8 ≤ fr ∧ 134 ≤ lo) (h0 : a 1 = ad (0, 0, 0)) (h1 : x 1 = 3) (hs : fWB_turbine px py sg zm0 s t p = some (.inl (Int32.ofNat 3, s'))) (hBo : ∀ w ws, (w = some (.int 1) ∧ ∃ r' g', (∀ i, i < 3 → g' i = g i) ∧ g' 3 0 = px ∧ g' 3 1 = py ∧ ws = zto (zcA X) a (upd x 1 (3 + 1)) r' g' u v ++ zww (zcA X) ad s' t p) → Bo w ws) : zN X mc ms fr lo (zNQ X mc ms Bo) 5 46 [(0, .ref (a 0)), (1, .int px), (2, .int py), (3, .int sg)] [] (zto (zcA X) a x r g u v ++ zww (zcA X) ad s t p) 0 0 := by
  refine zn_bipush F (v := 15) dX10_turbine_46 (by decide) ?_
  refine zn_newa F (N := 15) dX10_turbine_48 wArrP (by decide) (by decide) (Nat.le_of_ble_eq_true rfl) (by omega) (by omega) fun q => ?_
  refine zn_perm List.perm_append_comm ?_
  refine zn_dup F dX10_turbine_50 rfl ?_
  refine zn_iconst F (v := 0) dX10_turbine_51 (by decide) ?_
  refine zn_iload_n F (i := 1) (k := 1) dX10_turbine_52 rfl rfl ?_
  refine zn_iast F (q0 := 0) (jn := 0) (ws' := [(q, .inl (zcA X 0, 15, .inl (upd (fun _ => 0) 0 px)))] ++ (zto (zcA X) a x r g u v ++ zww (zcA X) ad s t p)) dX10_turbine_53 rfl (vp_in_nI (n := 0) (by decide) (by decide)) (by decide) rfl ?_
  refine zn_dup F dX10_turbine_54 rfl ?_
  refine zn_iconst F (v := 1) dX10_turbine_55 (by decide) ?_
  refine zn_iload_n F (i := 2) (k := 2) dX10_turbine_56 rfl rfl ?_
  refine zn_iast F (q0 := 0) (jn := 1) (ws' := [(q, .inl (zcA X 0, 15, .inl (upd (upd (fun _ => 0) 0 px) 1 py)))] ++ (zto (zcA X) a x r g u v ++ zww (zcA X) ad s t p)) dX10_turbine_57 rfl (vp_in_nI (n := 1) (by decide) (by decide)) (by decide) rfl ?_
  refine zn_dup F dX10_turbine_58 rfl ?_
  refine zn_iconst F (v := 2) dX10_turbine_59 (by decide) ?_
  refine zn_iload_n F (i := 3) (k := 3) dX10_turbine_60 rfl rfl ?_
  refine zn_iast F (q0 := 0) (jn := 2) (ws' := [(q, .inl (zcA X 0, 15, .inl (upd (upd (upd (fun _ => 0) 0 px) 1 py) 2 sg)))] ++ (zto (zcA X) a x r g u v ++ zww (zcA X) ad s t p)) dX10_turbine_61 rfl (vp_in_nI (n := 2) (by decide) (by decide)) (by decide) rfl ?_
  refine zn_dup F dX10_turbine_62 rfl ?_
  refine zn_iconst F (v := 3) dX10_turbine_63 (by decide) ?_
  refine zn_iconst F (v := 2) dX10_turbine_64 (by decide) ?_
  refine zn_iast F (q0 := 0) (jn := 3) (ws' := [(q, .inl (zcA X 0, 15, .inl (upd (upd (upd (upd (fun _ => 0) 0 px) 1 py) 2 sg) 3 2)))] ++ (zto (zcA X) a x r g u v ++ zww (zcA X) ad s t p)) dX10_turbine_65 rfl (vp_in_nI (n := 3) (by decide) (by decide)) (by decide) rfl ?_
  refine zn_dup F dX10_turbine_66 rfl ?_
  refine zn_iconst F (v := 4) dX10_turbine_67 (by decide) ?_
  refine zn_iconst F (v := 0) dX10_turbine_68 (by decide) ?_
  refine zn_iast F (q0 := 0) (jn := 4) (ws' := [(q, .inl (zcA X 0, 15, .inl (upd (upd (upd (upd (upd (fun _ => 0) 0 px) 1 py) 2 sg) 3 2) 4 0)))] ++ (zto (zcA X) a x r g u v ++ zww (zcA X) ad s t p)) dX10_turbine_69 rfl (vp_in_nI (n := 4) (by decide) (by decide)) (by decide) rfl ?_
  refine zn_dup F dX10_turbine_70 rfl ?_
  refine zn_iconst F (v := 5) dX10_turbine_71 (by decide) ?_
  refine zn_iconst F (v := 0) dX10_turbine_72 (by decide) ?_
  refine zn_iast F (q0 := 0) (jn := 5) (ws' := [(q, .inl (zcA X 0, 15, .inl (upd (upd (upd (upd (upd (upd (fun _ => 0) 0 px) 1 py) 2 sg) 3 2) 4 0) 5 0)))] ++ (zto (zcA X) a x r g u v ++ zww (zcA X) ad s t p)) dX10_turbine_73 rfl (vp_in_nI (n := 5) (by decide) (by decide)) (by decide) rfl ?_
  refine zn_dup F dX10_turbine_74 rfl ?_
  refine zn_bipush F (v := 6) dX10_turbine_75 (by decide) ?_
  refine zn_iconst F (v := 0) dX10_turbine_77 (by decide) ?_
  refine zn_iast F (q0 := 0) (jn := 6) (ws' := [(q, .inl (zcA X 0, 15, .inl (upd (upd (upd (upd (upd (upd (upd (fun _ => 0) 0 px) 1 py) 2 sg) 3 2) 4 0) 5 0) 6 0)))] ++ (zto (zcA X) a x r g u v ++ zww (zcA X) ad s t p)) dX10_turbine_78 rfl (vp_in_nI (n := 6) (by decide) (by decide)) (by decide) rfl ?_
  refine zn_dup F dX10_turbine_79 rfl ?_
  refine zn_bipush F (v := 7) dX10_turbine_80 (by decide) ?_
  refine zn_iconst F (v := 0) dX10_turbine_82 (by decide) ?_
  refine zn_iast F (q0 := 0) (jn := 7) (ws' := [(q, .inl (zcA X 0, 15, .inl (upd (upd (upd (upd (upd (upd (upd (upd (fun _ => 0) 0 px) 1 py) 2 sg) 3 2) 4 0) 5 0) 6 0) 7 0)))] ++ (zto (zcA X) a x r g u v ++ zww (zcA X) ad s t p)) dX10_turbine_83 rfl (vp_in_nI (n := 7) (by decide) (by decide)) (by decide) rfl ?_
  refine zn_dup F dX10_turbine_84 rfl ?_
  refine zn_bipush F (v := 8) dX10_turbine_85 (by decide) ?_
  refine zn_iconst F (v := 0) dX10_turbine_87 (by decide) ?_
  refine zn_iast F (q0 := 0) (jn := 8) (ws' := [(q, .inl (zcA X 0, 15, .inl (upd (upd (upd (upd (upd (upd (upd (upd (upd (fun _ => 0) 0 px) 1 py) 2 sg) 3 2) 4 0) 5 0) 6 0) 7 0) 8 0)))] ++ (zto (zcA X) a x r g u v ++ zww (zcA X) ad s t p)) dX10_turbine_88 rfl (vp_in_nI (n := 8) (by decide) (by decide)) (by decide) rfl ?_
  refine zn_dup F dX10_turbine_89 rfl ?_
  refine zn_bipush F (v := 9) dX10_turbine_90 (by decide) ?_
  refine zn_iconst F (v := 0) dX10_turbine_92 (by decide) ?_
  refine zn_iast F (q0 := 0) (jn := 9) (ws' := [(q, .inl (zcA X 0, 15, .inl (upd (upd (upd (upd (upd (upd (upd (upd (upd (upd (fun _ => 0) 0 px) 1 py) 2 sg) 3 2) 4 0) 5 0) 6 0) 7 0) 8 0) 9 0)))] ++ (zto (zcA X) a x r g u v ++ zww (zcA X) ad s t p)) dX10_turbine_93 rfl (vp_in_nI (n := 9) (by decide) (by decide)) (by decide) rfl ?_
  refine zn_dup F dX10_turbine_94 rfl ?_
  refine zn_bipush F (v := 10) dX10_turbine_95 (by decide) ?_
  refine zn_iconst F (v := 0) dX10_turbine_97 (by decide) ?_
  refine zn_iast F (q0 := 0) (jn := 10) (ws' := [(q, .inl (zcA X 0, 15, .inl (upd (upd (upd (upd (upd (upd (upd (upd (upd (upd (upd (fun _ => 0) 0 px) 1 py) 2 sg) 3 2) 4 0) 5 0) 6 0) 7 0) 8 0) 9 0) 10 0)))] ++ (zto (zcA X) a x r g u v ++ zww (zcA X) ad s t p)) dX10_turbine_98 rfl (vp_in_nI (n := 10) (by decide) (by decide)) (by decide) rfl ?_
  refine zn_dup F dX10_turbine_99 rfl ?_
  refine zn_bipush F (v := 11) dX10_turbine_100 (by decide) ?_
  refine zn_iconst F (v := 0) dX10_turbine_102 (by decide) ?_
  refine zn_iast F (q0 := 0) (jn := 11) (ws' := [(q, .inl (zcA X 0, 15, .inl (upd (upd (upd (upd (upd (upd (upd (upd (upd (upd (upd (upd (fun _ => 0) 0 px) 1 py) 2 sg) 3 2) 4 0) 5 0) 6 0) 7 0) 8 0) 9 0) 10 0) 11 0)))] ++ (zto (zcA X) a x r g u v ++ zww (zcA X) ad s t p)) dX10_turbine_103 rfl (vp_in_nI (n := 11) (by decide) (by decide)) (by decide) rfl ?_
  refine zn_dup F dX10_turbine_104 rfl ?_
  refine zn_bipush F (v := 12) dX10_turbine_105 (by decide) ?_
  refine zn_iconst F (v := 0) dX10_turbine_107 (by decide) ?_
  refine zn_iast F (q0 := 0) (jn := 12) (ws' := [(q, .inl (zcA X 0, 15, .inl (upd (upd (upd (upd (upd (upd (upd (upd (upd (upd (upd (upd (upd (fun _ => 0) 0 px) 1 py) 2 sg) 3 2) 4 0) 5 0) 6 0) 7 0) 8 0) 9 0) 10 0) 11 0) 12 0)))] ++ (zto (zcA X) a x r g u v ++ zww (zcA X) ad s t p)) dX10_turbine_108 rfl (vp_in_nI (n := 12) (by decide) (by decide)) (by decide) rfl ?_
  refine zn_dup F dX10_turbine_109 rfl ?_
  refine zn_bipush F (v := 13) dX10_turbine_110 (by decide) ?_
  refine zn_iconst F (v := (-1)) dX10_turbine_112 (by decide) ?_
  refine zn_iast F (q0 := 0) (jn := 13) (ws' := [(q, .inl (zcA X 0, 15, .inl (upd (upd (upd (upd (upd (upd (upd (upd (upd (upd (upd (upd (upd (upd (fun _ => 0) 0 px) 1 py) 2 sg) 3 2) 4 0) 5 0) 6 0) 7 0) 8 0) 9 0) 10 0) 11 0) 12 0) 13 (-1))))] ++ (zto (zcA X) a x r g u v ++ zww (zcA X) ad s t p)) dX10_turbine_113 rfl (vp_in_nI (n := 13) (by decide) (by decide)) (by decide) rfl ?_
  refine zn_dup F dX10_turbine_114 rfl ?_
  refine zn_bipush F (v := 14) dX10_turbine_115 (by decide) ?_
  refine zn_iconst F (v := (-1)) dX10_turbine_117 (by decide) ?_
  refine zn_iast F (q0 := 0) (jn := 14) (ws' := [(q, .inl (zcA X 0, 15, .inl (upd (upd (upd (upd (upd (upd (upd (upd (upd (upd (upd (upd (upd (upd (upd (fun _ => 0) 0 px) 1 py) 2 sg) 3 2) 4 0) 5 0) 6 0) 7 0) 8 0) 9 0) 10 0) 11 0) 12 0) 13 (-1)) 14 (-1))))] ++ (zto (zcA X) a x r g u v ++ zww (zcA X) ad s t p)) dX10_turbine_118 rfl (vp_in_nI (n := 14) (by decide) (by decide)) (by decide) rfl ?_
  refine zn_astore F (i := 4) (lv' := [(4, .ref q), (0, .ref ((a 0))), (1, .int px), (2, .int py), (3, .int sg)]) dX10_turbine_119 (by decide) rfl ?_
  refine zn_aload_n F (i := 0) (k := 1) dX10_turbine_121 rfl rfl ?_
  refine zn_get F (j := 1) (v := .ref ((a 3))) dX10_turbine_122 yfRX10_18 zCl_9 rfl rfl ?_
  refine zn_aload_n F (i := 0) (k := 1) dX10_turbine_125 rfl rfl ?_
  refine zn_dup F dX10_turbine_126 rfl ?_
  refine zn_get F (j := 1) (v := .int 3) dX10_turbine_127 yfRX10_61 zCl_9 rfl (by show some (Value.int (x 1)) = _; rw [h1]) ?_
  refine zn_dup_x1 F dX10_turbine_130 rfl rfl ?_
  refine zn_iconst F (v := 1) dX10_turbine_131 (by decide) ?_
  refine zn_iadd F dX10_turbine_132 ?_
  refine zn_put F (j := 1) (ws' := [(q, .inl (zcA X 0, 15, .inl (upd (upd (upd (upd (upd (upd (upd (upd (upd (upd (upd (upd (upd (upd (upd (fun _ => 0) 0 px) 1 py) 2 sg) 3 2) 4 0) 5 0) 6 0) 7 0) 8 0) 9 0) 10 0) 11 0) 12 0) 13 (-1)) 14 (-1))))] ++ (zto (zcA X) a (upd x 1 (3 + 1)) r g u v ++ zww (zcA X) ad s t p)) dX10_turbine_133 ypRX10_61 zCl_9 rfl (zlb rfl) rfl ?_
  refine zn_aload F (i := 4) (k := 0) dX10_turbine_136 rfl ?_
  refine zn_aastI F (q0 := 2) (qk := 0) (n := 8) (k := 15) (jn := 3) (ws' := [(q, .inl (zcA X 0, 15, .inl (upd (upd (upd (upd (upd (upd (upd (upd (upd (upd (upd (upd (upd (upd (upd (fun _ => 0) 0 px) 1 py) 2 sg) 3 2) 4 0) 5 0) 6 0) 7 0) 8 0) 9 0) 10 0) 11 0) 12 0) 13 (-1)) 14 (-1))))] ++ (ztoF (zcA X) a (upd x 1 (3 + 1)) (fun i => some (upn r 3 q i)) r g u v ++ zww (zcA X) ad s t p)) dX10_turbine_138 rfl rfl (vp_in_nI (n := 3) (by decide) (by decide)) (by decide) (by rw [zup_eq]; rfl) ?_
  refine zn_aload_n F (i := 0) (k := 1) dX10_turbine_139 rfl rfl ?_
  refine zn_get F (j := 1) (v := .ref ((ad (0, 0, 0)))) dX10_turbine_140 yfRX10_10 zCl_9 rfl (by show some (Value.ref (a 1)) = _; rw [h0]) ?_
  refine zn_iload_n F (i := 1) (k := 2) dX10_turbine_143 rfl rfl ?_
  refine zn_iload_n F (i := 2) (k := 3) dX10_turbine_144 rfl rfl ?_
  refine zn_iload_n F (i := 3) (k := 4) dX10_turbine_145 rfl rfl ?_
  refine zn_ws (ws' := ([(q, .inl (zcA X 0, 15, .inl (upd (upd (upd (upd (upd (upd (upd (upd (upd (upd (upd (upd (upd (upd (upd (fun _ => 0) 0 px) 1 py) 2 sg) 3 2) 4 0) 5 0) 6 0) 7 0) 8 0) 9 0) 10 0) 11 0) 12 0) 13 (-1)) 14 (-1))))] ++ ztoF (zcA X) a (upd x 1 (3 + 1)) (fun i => some (upn r 3 q i)) r g u v) ++ zww (zcA X) ad s t p) (List.append_assoc _ _ _).symm ?_
  refine zn_perm List.perm_append_comm ?_
  refine zn_callV F (h0 := ad (0, 0, 0)) (as := [.int px, .int py, .int sg]) (st := []) (j0 := 0) (zx_turbine ad hs) dX10_turbine_146 ycRX10_64 yyyX9_turbine rfl (wsB := [(q, .inl (zcA X 0, 15, .inl (upd (upd (upd (upd (upd (upd (upd (upd (upd (upd (upd (upd (upd (upd (upd (fun _ => 0) 0 px) 1 py) 2 sg) 3 2) 4 0) 5 0) 6 0) 7 0) 8 0) 9 0) 10 0) 11 0) 12 0) 13 (-1)) 14 (-1))))] ++ ztoF (zcA X) a (upd x 1 (3 + 1)) (fun i => some (upn r 3 q i)) r g u v) rfl (ci := 8) rfl rfl rfl (Nat.le_of_ble_eq_true rfl) (by omega) (by omega) (by omega) (by omega) fun w1 w2 hB => ?_
  obtain ⟨rfl, rfl⟩ := hB
  refine zn_perm List.perm_append_comm ?_
  refine zn_subA [1, 2, 3, 4, 5, 6, 7, 8, 9, 0, 11, 12, 13, 14] (ws' := zto (zcA X) a (upd x 1 (3 + 1)) (upn r 3 q) (upv g 3 (upd (upd (upd (upd (upd (upd (upd (upd (upd (upd (upd (upd (upd (upd (upd (fun _ => 0) 0 px) 1 py) 2 sg) 3 2) 4 0) 5 0) 6 0) 7 0) 8 0) 9 0) 10 0) 11 0) 12 0) 13 (-1)) 14 (-1))) u v) rfl rfl ?_
  refine zn_aload_n F (i := 0) (k := 1) dX10_turbine_149 rfl rfl ?_
  refine zn_get F (j := 0) (v := .int ((3 + 1))) dX10_turbine_150 yfRX10_61 zCl_9 rfl rfl ?_
  refine zn_iconst F (v := 1) dX10_turbine_153 (by decide) ?_
  refine zn_isub F dX10_turbine_154 ?_
  refine zn_icmp_ne F (tgt := 162) dX10_turbine_155 (by decide) (fun z => absurd (by decide) z) (fun _ => ?_)
  refine zn_iconst F (v := 1) dX10_turbine_158 (by decide) ?_
  refine zn_goto F (tgt := 163) dX10_turbine_159 (by decide) ?_
  exact zn_zreturn F hr dX10_turbine_163 rfl (hBo _ _ ⟨rfl, _, _, fun i hi => if_neg (by omega), rfl, rfl, rfl⟩) (by omega) (by omega)
