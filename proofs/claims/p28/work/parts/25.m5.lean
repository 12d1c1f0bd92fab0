theorem dX9_wear_0 : decode cX9_wear 0 = .ok (.aload_n 0, 1) := by decide +kernel
theorem dX9_wear_1 : decode cX9_wear 1 = .ok (.iload_n 1, 1) := by decide +kernel
theorem dX9_wear_2 : decode cX9_wear 2 = .ok (.invokevirtual 113, 3) := by decide +kernel
theorem dX9_wear_5 : decode cX9_wear 5 = .ok (.iload_n 2, 1) := by decide +kernel
theorem dX9_wear_6 : decode cX9_wear 6 = .ok (.invokestatic 185, 3) := by decide +kernel
theorem dX9_wear_9 : decode cX9_wear 9 = .ok (.aload_n 0, 1) := by decide +kernel
theorem dX9_wear_10 : decode cX9_wear 10 = .ok (.getfield 10, 3) := by decide +kernel
theorem dX9_wear_13 : decode cX9_wear 13 = .ok (.getfield 118, 3) := by decide +kernel
theorem dX9_wear_16 : decode cX9_wear 16 = .ok (.iload_n 1, 1) := by decide +kernel
theorem dX9_wear_17 : decode cX9_wear 17 = .ok (.aaload, 1) := by decide +kernel
theorem dX9_wear_18 : decode cX9_wear 18 = .ok (.getfield 234, 3) := by decide +kernel
theorem dX9_wear_21 : decode cX9_wear 21 = .ok (.iload_n 2, 1) := by decide +kernel
theorem dX9_wear_22 : decode cX9_wear 22 = .ok (.iaload, 1) := by decide +kernel
theorem dX9_wear_23 : decode cX9_wear 23 = .ok (.ireturn, 1) := by decide +kernel
theorem wcRX9_185 : Cond.methodLink RX9 185 yX9_checkPart ∈ zTg ∧ Cond.static yX9_checkPart ∈ zTg ∧ Cond.initialized yX9_checkPart.cls ∈ zTg ∧ Cond.code yX9_checkPart cX9_checkPart 1 none ∈ zTg := ⟨zm_f 383 (by decide +kernel) rfl, zm_f 384 (by decide +kernel) rfl, zm_f 21 (by decide +kernel) rfl, zm_f 385 (by decide +kernel) rfl⟩
theorem wy_yX9_checkPart : yX9_checkPart.cls ≠ "java/lang/invoke/MethodHandle" ∧ yX9_checkPart.cls ≠ "java/lang/invoke/VarHandle" ∧ (parseMethodDescriptor yX9_checkPart.desc).map (fun d => d.parameters.length) = some 1 := by decide +kernel
theorem wfRX9_234 : zFl RX9 234 5 11 := ⟨_, rfl, by decide, zm_f 555 (by decide +kernel) rfl⟩
def fWB_wear (a1 : Int32) (a2 : Int32) (s0 : zM) (s1 : zM) (s2 : zM) (s3 : zM) : Option ((Int32) ⊕ (String)) :=
  Option.bind (fWB_checkTurbine a1 s0 s1 s2 s3) (Sum.elim (fun (_ : Unit) =>
  Option.bind (fWB_checkPart a2) (Sum.elim (fun (_ : Unit) =>
  zix a1 8 fun j3 =>
  zix a2 3 fun j4 =>
  some (.inl (s1 8 j3 j4))) (fun b => some (.inr b)))) (fun b => some (.inr b)))
set_option maxHeartbeats 4000000 in
set_option maxRecDepth 20000 in
theorem bfWB_wear {X : zX} (F : zFr X cX9_wear 3 RX9 (some .int)) (a1 : Int32) (a2 : Int32)  (s0 : zM) (s1 : zM) (s2 : zM) (s3 : zM) {κ : (Int32) ⊕ (String) → Option zO} (hκ : ∀ a, κ a = some ((zts (fun q => some (zi q)) (fun _ => [s0, s1, s2, s3]) (fun b => b) (fun _ => [s0, s1, s2, s3])) a)) : zZ X [(2, [1, 2, 3]), (0, []), (0, []), (1, [])] 7 111 3 0 [some (zr 0 0 0), some (zi a1), some (zi a2)] [] [s0, s1, s2, s3] (Option.bind (fWB_wear a1 a2 s0 s1 s2 s3) κ) := by
  unfold fWB_wear
  refine zz_aload_n F (i := 0) dX9_wear_0 rfl rfl ?_
  refine zz_iload_n F (i := 1) dX9_wear_1 rfl rfl ?_
  refine zz_bind ?_
  refine zz_callVx F (ρ := [0, 1, 2, 3]) (so := fun _ => []) (Mo := fun _ => [s0, s1, s2, s3]) (Xo := fun _ => [s0, s1, s2, s3]) (zfWB_checkTurbine a1 s0 s1 s2 s3) dX9_wear_2 wcRX9_113 wy_yX9_checkTurbine rfl ⟨rel2, rfl, rfl, Nat.le_of_ble_eq_true rfl, Nat.le_of_ble_eq_true rfl, Nat.le_of_ble_eq_true rfl⟩ (⟨zlb rfl, zlb rfl, zlb rfl⟩) rfl rfl rfl (fun _ => rfl) (fun _ => rfl) (fun _ => rfl) (fun _ => (hκ _)) fun _ => ?_
  dsimp only [Sum.elim_inl]
  refine zz_iload_n F (i := 2) dX9_wear_5 rfl rfl ?_
  refine zz_bind ?_
  refine zz_callSx F (ρ := []) (so := fun _ => []) (Mo := fun _ => [s0, s1, s2, s3]) (Xo := fun _ => [s0, s1, s2, s3]) (zfWB_checkPart a2) dX9_wear_6 wcRX9_185 wy_yX9_checkPart rfl ⟨rel0, rfl, rfl, Nat.le_of_ble_eq_true rfl, Nat.le_of_ble_eq_true rfl, Nat.le_of_ble_eq_true rfl⟩ rfl (fun _ => rfl) (fun _ => rfl) (fun _ => rfl) (fun _ => (hκ _)) fun _ => ?_
  dsimp only [Sum.elim_inl]
  refine zz_aload_n F (i := 0) dX9_wear_9 rfl rfl ?_
  refine zz_getr F dX9_wear_10 wfRX9_10 zCl_8 rfl (⟨zlb rfl, zlb rfl, zlb rfl⟩) rfl (by decide) rfl (r' := 1) (by decide) ?_
  refine zz_getr F dX9_wear_13 wfRX9_118 zCl_3 rfl (⟨zlb rfl, zlb rfl, zlb rfl⟩) rfl (by decide) rfl (r' := 1) (by decide) ?_
  refine zz_iload_n F (i := 1) dX9_wear_16 rfl rfl ?_
  refine zz_ix fun j3 hj3 hinj3 hej3 => zz_aal F dX9_wear_17 rfl (⟨zlb rfl, zlb rfl, zlb rfl⟩) rfl (by decide) rfl hinj3 hej3 rfl ?_
  refine zz_getr F dX9_wear_18 wfRX9_234 zCl_5 rfl (⟨zlb rfl, zlb rfl, hj3⟩) rfl (by decide) rfl (r' := 1) (by decide) ?_
  refine zz_iload_n F (i := 2) dX9_wear_21 rfl rfl ?_
  refine zz_ix fun j4 hj4 hinj4 hej4 => zz_ial F dX9_wear_22 rfl (⟨zlb rfl, zlb rfl, hj3⟩) rfl hinj4 hej4 ?_
  exact zz_ireturn F dX9_wear_23 rfl (hκ _)
theorem zfWB_wear (a1 : Int32) (a2 : Int32)  (s0 : zM) (s1 : zM) (s2 : zM) (s3 : zM) : ∀ a, fWB_wear a1 a2 s0 s1 s2 s3 = some a → zMet yX9_wear cX9_wear 3 (some .int) 7 111 [(2, [1, 2, 3]), (0, []), (0, []), (1, [])] [zr 0 0 0, zi a1, zi a2] [s0, s1, s2, s3] ((zts (fun q => some (zi q)) (fun _ => [s0, s1, s2, s3]) (fun b => b) (fun _ => [s0, s1, s2, s3])) a) := fun a ha => zMet_of (L0 := [some (zr 0 0 0), some (zi a1), some (zi a2)]) (φ := Option.bind (fWB_wear a1 a2 s0 s1 s2 s3) (fun a => some ((zts (fun q => some (zi q)) (fun _ => [s0, s1, s2, s3]) (fun b => b) (fun _ => [s0, s1, s2, s3])) a))) (by decide) (fun _ => Nat.le_of_ble_eq_true rfl) (zl0 0 rfl) (fun X F => bfWB_wear F a1 a2 s0 s1 s2 s3 (fun _ => rfl)) (by rw [ha]; rfl)

theorem dX9_lost_0 : decode cX9_lost 0 = .ok (.aload_n 0, 1) := by decide +kernel
theorem dX9_lost_1 : decode cX9_lost 1 = .ok (.iload_n 1, 1) := by decide +kernel
theorem dX9_lost_2 : decode cX9_lost 2 = .ok (.invokevirtual 113, 3) := by decide +kernel
theorem dX9_lost_5 : decode cX9_lost 5 = .ok (.iload_n 2, 1) := by decide +kernel
theorem dX9_lost_6 : decode cX9_lost 6 = .ok (.iconst 0, 1) := by decide +kernel
theorem dX9_lost_7 : decode cX9_lost 7 = .ok (.bipush 7, 2) := by decide +kernel
theorem dX9_lost_9 : decode cX9_lost 9 = .ok (.invokestatic 26, 3) := by decide +kernel
theorem dX9_lost_12 : decode cX9_lost 12 = .ok (.ifCond .eq 13, 3) := by decide +kernel
theorem dX9_lost_15 : decode cX9_lost 15 = .ok (.new 238, 3) := by decide +kernel
theorem dX9_lost_18 : decode cX9_lost 18 = .ok (.dup, 1) := by decide +kernel
theorem dX9_lost_19 : decode cX9_lost 19 = .ok (.ldc 240, 2) := by decide +kernel
theorem dX9_lost_21 : decode cX9_lost 21 = .ok (.invokespecial 242, 3) := by decide +kernel
theorem dX9_lost_24 : decode cX9_lost 24 = .ok (.athrow, 1) := by decide +kernel
theorem dX9_lost_25 : decode cX9_lost 25 = .ok (.aload_n 0, 1) := by decide +kernel
theorem dX9_lost_26 : decode cX9_lost 26 = .ok (.getfield 10, 3) := by decide +kernel
theorem dX9_lost_29 : decode cX9_lost 29 = .ok (.getfield 118, 3) := by decide +kernel
theorem dX9_lost_32 : decode cX9_lost 32 = .ok (.iload_n 1, 1) := by decide +kernel
theorem dX9_lost_33 : decode cX9_lost 33 = .ok (.aaload, 1) := by decide +kernel
theorem dX9_lost_34 : decode cX9_lost 34 = .ok (.getfield 243, 3) := by decide +kernel
theorem dX9_lost_37 : decode cX9_lost 37 = .ok (.iload_n 2, 1) := by decide +kernel
theorem dX9_lost_38 : decode cX9_lost 38 = .ok (.iaload, 1) := by decide +kernel
theorem dX9_lost_39 : decode cX9_lost 39 = .ok (.ireturn, 1) := by decide +kernel
theorem wfRX9_243 : zFl RX9 243 5 12 := ⟨_, rfl, by decide, zm_f 558 (by decide +kernel) rfl⟩
theorem wsRX9_240 : (RX9, 240, "no such CAUSE") ∈ zstr := by decide +kernel
def fWB_lost (a1 : Int32) (a2 : Int32) (s0 : zM) (s1 : zM) (s2 : zM) (s3 : zM) : Option ((Int32) ⊕ (String)) :=
  Option.bind (fWB_checkTurbine a1 s0 s1 s2 s3) (Sum.elim (fun (_ : Unit) =>
  Option.bind (fWB_outside a2 (0 : Int32) (7 : Int32)) fun q2 =>
  if q2 = 0 then
  zix a1 8 fun j3 =>
    zix a2 8 fun j4 =>
    some (.inl (s1 9 j3 j4))
else
  some (.inr "java/lang/IndexOutOfBoundsException")) (fun b => some (.inr b)))
set_option maxHeartbeats 4000000 in
set_option maxRecDepth 20000 in
theorem bfWB_lost {X : zX} (F : zFr X cX9_lost 3 RX9 (some .int)) (a1 : Int32) (a2 : Int32)  (s0 : zM) (s1 : zM) (s2 : zM) (s3 : zM) {κ : (Int32) ⊕ (String) → Option zO} (hκ : ∀ a, κ a = some ((zts (fun q => some (zi q)) (fun _ => [s0, s1, s2, s3]) (fun b => b) (fun _ => [s0, s1, s2, s3])) a)) : zZ X [(2, [1, 2, 3]), (0, []), (0, []), (1, [])] 7 111 3 0 [some (zr 0 0 0), some (zi a1), some (zi a2)] [] [s0, s1, s2, s3] (Option.bind (fWB_lost a1 a2 s0 s1 s2 s3) κ) := by
  unfold fWB_lost
  refine zz_aload_n F (i := 0) dX9_lost_0 rfl rfl ?_
  refine zz_iload_n F (i := 1) dX9_lost_1 rfl rfl ?_
  refine zz_bind ?_
  refine zz_callVx F (ρ := [0, 1, 2, 3]) (so := fun _ => []) (Mo := fun _ => [s0, s1, s2, s3]) (Xo := fun _ => [s0, s1, s2, s3]) (zfWB_checkTurbine a1 s0 s1 s2 s3) dX9_lost_2 wcRX9_113 wy_yX9_checkTurbine rfl ⟨rel2, rfl, rfl, Nat.le_of_ble_eq_true rfl, Nat.le_of_ble_eq_true rfl, Nat.le_of_ble_eq_true rfl⟩ (⟨zlb rfl, zlb rfl, zlb rfl⟩) rfl rfl rfl (fun _ => rfl) (fun _ => rfl) (fun _ => rfl) (fun _ => (hκ _)) fun _ => ?_
  dsimp only [Sum.elim_inl]
  refine zz_iload_n F (i := 2) dX9_lost_5 rfl rfl ?_
  refine zz_iconst F (v := (0 : Int32)) dX9_lost_6 (by decide) ?_
  refine zz_bipush F (v := (7 : Int32)) dX9_lost_7 (by decide) ?_
  refine zz_bind ?_
  refine zz_callSr F (ρ := []) (so := fun q2 => [zi q2]) (Mo := fun q2 => [s0, s1, s2, s3]) (zfWB_outside a2 (0 : Int32) (7 : Int32)) dX9_lost_9 wcRX9_26 wy_yX9_outside rfl ⟨rel0, rfl, rfl, Nat.le_of_ble_eq_true rfl, Nat.le_of_ble_eq_true rfl, Nat.le_of_ble_eq_true rfl⟩ rfl (fun _ => rfl) (fun _ => rfl) fun q2 => ?_
  refine zz_if_eq F (tgt := 25) dX9_lost_12 (by decide) (fun h => zz_t h ?_) (fun h => zz_f h ?_)
  · refine zz_aload_n F (i := 0) dX9_lost_25 rfl rfl ?_
    refine zz_getr F dX9_lost_26 wfRX9_10 zCl_8 rfl (⟨zlb rfl, zlb rfl, zlb rfl⟩) rfl (by decide) rfl (r' := 1) (by decide) ?_
    refine zz_getr F dX9_lost_29 wfRX9_118 zCl_3 rfl (⟨zlb rfl, zlb rfl, zlb rfl⟩) rfl (by decide) rfl (r' := 1) (by decide) ?_
    refine zz_iload_n F (i := 1) dX9_lost_32 rfl rfl ?_
    refine zz_ix fun j3 hj3 hinj3 hej3 => zz_aal F dX9_lost_33 rfl (⟨zlb rfl, zlb rfl, zlb rfl⟩) rfl (by decide) rfl hinj3 hej3 rfl ?_
    refine zz_getr F dX9_lost_34 wfRX9_243 zCl_5 rfl (⟨zlb rfl, zlb rfl, hj3⟩) rfl (by decide) rfl (r' := 1) (by decide) ?_
    refine zz_iload_n F (i := 2) dX9_lost_37 rfl rfl ?_
    refine zz_ix fun j4 hj4 hinj4 hej4 => zz_ial F dX9_lost_38 rfl (⟨zlb rfl, zlb rfl, hj3⟩) rfl hinj4 hej4 ?_
    exact zz_ireturn F dX9_lost_39 rfl (hκ _)
  · exact zz_throw F (cls := "java/lang/IndexOutOfBoundsException") dX9_lost_15 dX9_lost_18 dX9_lost_19 dX9_lost_21 dX9_lost_24 (by decide) wtRX9_238_242k wsRX9_240 wtRX9_238_242g wtRX9_238_242n wtRX9_238_242o (Nat.le_of_ble_eq_true rfl) (Nat.le_of_ble_eq_true rfl) (hκ _)
theorem zfWB_lost (a1 : Int32) (a2 : Int32)  (s0 : zM) (s1 : zM) (s2 : zM) (s3 : zM) : ∀ a, fWB_lost a1 a2 s0 s1 s2 s3 = some a → zMet yX9_lost cX9_lost 3 (some .int) 7 111 [(2, [1, 2, 3]), (0, []), (0, []), (1, [])] [zr 0 0 0, zi a1, zi a2] [s0, s1, s2, s3] ((zts (fun q => some (zi q)) (fun _ => [s0, s1, s2, s3]) (fun b => b) (fun _ => [s0, s1, s2, s3])) a) := fun a ha => zMet_of (L0 := [some (zr 0 0 0), some (zi a1), some (zi a2)]) (φ := Option.bind (fWB_lost a1 a2 s0 s1 s2 s3) (fun a => some ((zts (fun q => some (zi q)) (fun _ => [s0, s1, s2, s3]) (fun b => b) (fun _ => [s0, s1, s2, s3])) a))) (by decide) (fun _ => Nat.le_of_ble_eq_true rfl) (zl0 0 rfl) (fun X F => bfWB_lost F a1 a2 s0 s1 s2 s3 (fun _ => rfl)) (by rw [ha]; rfl)

theorem dX9_wake_0 : decode cX9_wake 0 = .ok (.aload_n 0, 1) := by decide +kernel
theorem dX9_wake_1 : decode cX9_wake 1 = .ok (.iload_n 1, 1) := by decide +kernel
theorem dX9_wake_2 : decode cX9_wake 2 = .ok (.invokevirtual 113, 3) := by decide +kernel
theorem dX9_wake_5 : decode cX9_wake 5 = .ok (.aload_n 0, 1) := by decide +kernel
theorem dX9_wake_6 : decode cX9_wake 6 = .ok (.iload_n 2, 1) := by decide +kernel
theorem dX9_wake_7 : decode cX9_wake 7 = .ok (.invokevirtual 113, 3) := by decide +kernel
theorem dX9_wake_10 : decode cX9_wake 10 = .ok (.aload_n 0, 1) := by decide +kernel
theorem dX9_wake_11 : decode cX9_wake 11 = .ok (.getfield 10, 3) := by decide +kernel
theorem dX9_wake_14 : decode cX9_wake 14 = .ok (.iload_n 2, 1) := by decide +kernel
theorem dX9_wake_15 : decode cX9_wake 15 = .ok (.iload_n 1, 1) := by decide +kernel
theorem dX9_wake_16 : decode cX9_wake 16 = .ok (.invokevirtual 246, 3) := by decide +kernel
theorem dX9_wake_19 : decode cX9_wake 19 = .ok (.ireturn, 1) := by decide +kernel
theorem wcRX9_246 : Cond.methodLink RX9 246 yX3_deficitBy ∈ zTg ∧ Cond.instanceMethod yX3_deficitBy ∈ zTg ∧ Cond.selects RX3 yX3_deficitBy yX3_deficitBy ∈ zTg ∧ Cond.initialized RX3 ∈ zTg ∧ Cond.code yX3_deficitBy cX3_deficitBy 5 (some .int) ∈ zTg := ⟨zm_f 401 (by decide +kernel) rfl, zm_f 166 (by decide +kernel) rfl, zm_f 167 (by decide +kernel) rfl, zm_f 22 (by decide +kernel) rfl, zm_f 168 (by decide +kernel) rfl⟩
def fWB_wake (a1 : Int32) (a2 : Int32) (s0 : zM) (s1 : zM) (s2 : zM) (s3 : zM) : Option ((Int32) ⊕ (String)) :=
  Option.bind (fWB_checkTurbine a1 s0 s1 s2 s3) (Sum.elim (fun (_ : Unit) =>
  Option.bind (fWB_checkTurbine a2 s0 s1 s2 s3) (Sum.elim (fun (_ : Unit) =>
  Option.bind (fSe_deficitBy a2 a1 s1) fun q3 =>
  some (.inl q3)) (fun b => some (.inr b)))) (fun b => some (.inr b)))
set_option maxHeartbeats 4000000 in
set_option maxRecDepth 20000 in
theorem bfWB_wake {X : zX} (F : zFr X cX9_wake 3 RX9 (some .int)) (a1 : Int32) (a2 : Int32)  (s0 : zM) (s1 : zM) (s2 : zM) (s3 : zM) {κ : (Int32) ⊕ (String) → Option zO} (hκ : ∀ a, κ a = some ((zts (fun q => some (zi q)) (fun _ => [s0, s1, s2, s3]) (fun b => b) (fun _ => [s0, s1, s2, s3])) a)) : zZ X [(2, [1, 2, 3]), (0, []), (0, []), (1, [])] 7 111 3 0 [some (zr 0 0 0), some (zi a1), some (zi a2)] [] [s0, s1, s2, s3] (Option.bind (fWB_wake a1 a2 s0 s1 s2 s3) κ) := by
  unfold fWB_wake
  refine zz_aload_n F (i := 0) dX9_wake_0 rfl rfl ?_
  refine zz_iload_n F (i := 1) dX9_wake_1 rfl rfl ?_
  refine zz_bind ?_
  refine zz_callVx F (ρ := [0, 1, 2, 3]) (so := fun _ => []) (Mo := fun _ => [s0, s1, s2, s3]) (Xo := fun _ => [s0, s1, s2, s3]) (zfWB_checkTurbine a1 s0 s1 s2 s3) dX9_wake_2 wcRX9_113 wy_yX9_checkTurbine rfl ⟨rel2, rfl, rfl, Nat.le_of_ble_eq_true rfl, Nat.le_of_ble_eq_true rfl, Nat.le_of_ble_eq_true rfl⟩ (⟨zlb rfl, zlb rfl, zlb rfl⟩) rfl rfl rfl (fun _ => rfl) (fun _ => rfl) (fun _ => rfl) (fun _ => (hκ _)) fun _ => ?_
  dsimp only [Sum.elim_inl]
  refine zz_aload_n F (i := 0) dX9_wake_5 rfl rfl ?_
  refine zz_iload_n F (i := 2) dX9_wake_6 rfl rfl ?_
  refine zz_bind ?_
  refine zz_callVx F (ρ := [0, 1, 2, 3]) (so := fun _ => []) (Mo := fun _ => [s0, s1, s2, s3]) (Xo := fun _ => [s0, s1, s2, s3]) (zfWB_checkTurbine a2 s0 s1 s2 s3) dX9_wake_7 wcRX9_113 wy_yX9_checkTurbine rfl ⟨rel2, rfl, rfl, Nat.le_of_ble_eq_true rfl, Nat.le_of_ble_eq_true rfl, Nat.le_of_ble_eq_true rfl⟩ (⟨zlb rfl, zlb rfl, zlb rfl⟩) rfl rfl rfl (fun _ => rfl) (fun _ => rfl) (fun _ => rfl) (fun _ => (hκ _)) fun _ => ?_
  dsimp only [Sum.elim_inl]
  refine zz_aload_n F (i := 0) dX9_wake_10 rfl rfl ?_
  refine zz_getr F dX9_wake_11 wfRX9_10 zCl_8 rfl (⟨zlb rfl, zlb rfl, zlb rfl⟩) rfl (by decide) rfl (r' := 1) (by decide) ?_
  refine zz_iload_n F (i := 2) dX9_wake_14 rfl rfl ?_
  refine zz_iload_n F (i := 1) dX9_wake_15 rfl rfl ?_
  refine zz_bind ?_
  refine zz_callVr F (ρ := [1]) (so := fun q3 => [zi q3]) (Mo := fun q3 => [s0, s1, s2, s3]) (zfSe_deficitBy a2 a1 s1) dX9_wake_16 wcRX9_246 wy_yX3_deficitBy rfl ⟨rel1, rfl, rfl, Nat.le_of_ble_eq_true rfl, Nat.le_of_ble_eq_true rfl, Nat.le_of_ble_eq_true rfl⟩ (⟨zlb rfl, zlb rfl, zlb rfl⟩) rfl rfl rfl (fun _ => rfl) (fun _ => rfl) fun q3 => ?_
  exact zz_ireturn F dX9_wake_19 rfl (hκ _)
theorem zfWB_wake (a1 : Int32) (a2 : Int32)  (s0 : zM) (s1 : zM) (s2 : zM) (s3 : zM) : ∀ a, fWB_wake a1 a2 s0 s1 s2 s3 = some a → zMet yX9_wake cX9_wake 3 (some .int) 7 111 [(2, [1, 2, 3]), (0, []), (0, []), (1, [])] [zr 0 0 0, zi a1, zi a2] [s0, s1, s2, s3] ((zts (fun q => some (zi q)) (fun _ => [s0, s1, s2, s3]) (fun b => b) (fun _ => [s0, s1, s2, s3])) a) := fun a ha => zMet_of (L0 := [some (zr 0 0 0), some (zi a1), some (zi a2)]) (φ := Option.bind (fWB_wake a1 a2 s0 s1 s2 s3) (fun a => some ((zts (fun q => some (zi q)) (fun _ => [s0, s1, s2, s3]) (fun b => b) (fun _ => [s0, s1, s2, s3])) a))) (by decide) (fun _ => Nat.le_of_ble_eq_true rfl) (zl0 0 rfl) (fun X F => bfWB_wake F a1 a2 s0 s1 s2 s3 (fun _ => rfl)) (by rw [ha]; rfl)

theorem dX9_extreme_0 : decode cX9_extreme 0 = .ok (.aload_n 0, 1) := by decide +kernel
theorem dX9_extreme_1 : decode cX9_extreme 1 = .ok (.iload_n 1, 1) := by decide +kernel
theorem dX9_extreme_2 : decode cX9_extreme 2 = .ok (.invokevirtual 113, 3) := by decide +kernel
theorem dX9_extreme_5 : decode cX9_extreme 5 = .ok (.aload_n 0, 1) := by decide +kernel
theorem dX9_extreme_6 : decode cX9_extreme 6 = .ok (.getfield 10, 3) := by decide +kernel
theorem dX9_extreme_9 : decode cX9_extreme 9 = .ok (.getfield 118, 3) := by decide +kernel
theorem dX9_extreme_12 : decode cX9_extreme 12 = .ok (.iload_n 1, 1) := by decide +kernel
theorem dX9_extreme_13 : decode cX9_extreme 13 = .ok (.aaload, 1) := by decide +kernel
theorem dX9_extreme_14 : decode cX9_extreme 14 = .ok (.getfield 214, 3) := by decide +kernel
theorem dX9_extreme_17 : decode cX9_extreme 17 = .ok (.astore_n 3, 1) := by decide +kernel
theorem dX9_extreme_18 : decode cX9_extreme 18 = .ok (.iload_n 2, 1) := by decide +kernel
theorem dX9_extreme_19 : decode cX9_extreme 19 = .ok (.iconst 0, 1) := by decide +kernel
theorem dX9_extreme_20 : decode cX9_extreme 20 = .ok (.aload_n 3, 1) := by decide +kernel
theorem dX9_extreme_21 : decode cX9_extreme 21 = .ok (.getfield 223, 3) := by decide +kernel
theorem dX9_extreme_24 : decode cX9_extreme 24 = .ok (.iconst 1, 1) := by decide +kernel
theorem dX9_extreme_25 : decode cX9_extreme 25 = .ok (.isub, 1) := by decide +kernel
theorem dX9_extreme_26 : decode cX9_extreme 26 = .ok (.invokestatic 26, 3) := by decide +kernel
theorem dX9_extreme_29 : decode cX9_extreme 29 = .ok (.ifCond .eq 13, 3) := by decide +kernel
theorem dX9_extreme_32 : decode cX9_extreme 32 = .ok (.new 238, 3) := by decide +kernel
theorem dX9_extreme_35 : decode cX9_extreme 35 = .ok (.dup, 1) := by decide +kernel
theorem dX9_extreme_36 : decode cX9_extreme 36 = .ok (.ldc 250, 2) := by decide +kernel
theorem dX9_extreme_38 : decode cX9_extreme 38 = .ok (.invokespecial 242, 3) := by decide +kernel
theorem dX9_extreme_41 : decode cX9_extreme 41 = .ok (.athrow, 1) := by decide +kernel
theorem dX9_extreme_42 : decode cX9_extreme 42 = .ok (.aload_n 3, 1) := by decide +kernel
theorem dX9_extreme_43 : decode cX9_extreme 43 = .ok (.getfield 252, 3) := by decide +kernel
theorem dX9_extreme_46 : decode cX9_extreme 46 = .ok (.iload_n 2, 1) := by decide +kernel
theorem dX9_extreme_47 : decode cX9_extreme 47 = .ok (.iaload, 1) := by decide +kernel
theorem dX9_extreme_48 : decode cX9_extreme 48 = .ok (.ireturn, 1) := by decide +kernel
theorem wfRX9_252 : zFl RX9 252 1 0 := ⟨_, rfl, by decide, zm_f 512 (by decide +kernel) rfl⟩
theorem wsRX9_250 : (RX9, 250, "no such EXTREME") ∈ zstr := by decide +kernel
def fWB_extreme (a1 : Int32) (a2 : Int32) (s0 : zM) (s1 : zM) (s2 : zM) (s3 : zM) : Option ((Int32) ⊕ (String)) :=
  Option.bind (fWB_checkTurbine a1 s0 s1 s2 s3) (Sum.elim (fun (_ : Unit) =>
  zix a1 8 fun j2 =>
  Option.bind (fWB_outside a2 (0 : Int32) ((s1 10 j2 1) - (1 : Int32))) fun q3 =>
  if q3 = 0 then
  zix a2 30 fun j4 =>
    some (.inl (s1 11 j2 j4))
else
  some (.inr "java/lang/IndexOutOfBoundsException")) (fun b => some (.inr b)))
set_option maxHeartbeats 4000000 in
set_option maxRecDepth 20000 in
theorem bfWB_extreme {X : zX} (F : zFr X cX9_extreme 4 RX9 (some .int)) (a1 : Int32) (a2 : Int32)  (s0 : zM) (s1 : zM) (s2 : zM) (s3 : zM) {κ : (Int32) ⊕ (String) → Option zO} (hκ : ∀ a, κ a = some ((zts (fun q => some (zi q)) (fun _ => [s0, s1, s2, s3]) (fun b => b) (fun _ => [s0, s1, s2, s3])) a)) : zZ X [(2, [1, 2, 3]), (0, []), (0, []), (1, [])] 7 111 4 0 [some (zr 0 0 0), some (zi a1), some (zi a2), none] [] [s0, s1, s2, s3] (Option.bind (fWB_extreme a1 a2 s0 s1 s2 s3) κ) := by
  unfold fWB_extreme
  refine zz_aload_n F (i := 0) dX9_extreme_0 rfl rfl ?_
  refine zz_iload_n F (i := 1) dX9_extreme_1 rfl rfl ?_
  refine zz_bind ?_
  refine zz_callVx F (ρ := [0, 1, 2, 3]) (so := fun _ => []) (Mo := fun _ => [s0, s1, s2, s3]) (Xo := fun _ => [s0, s1, s2, s3]) (zfWB_checkTurbine a1 s0 s1 s2 s3) dX9_extreme_2 wcRX9_113 wy_yX9_checkTurbine rfl ⟨rel2, rfl, rfl, Nat.le_of_ble_eq_true rfl, Nat.le_of_ble_eq_true rfl, Nat.le_of_ble_eq_true rfl⟩ (⟨zlb rfl, zlb rfl, zlb rfl⟩) rfl rfl rfl (fun _ => rfl) (fun _ => rfl) (fun _ => rfl) (fun _ => (hκ _)) fun _ => ?_
  dsimp only [Sum.elim_inl]
  refine zz_aload_n F (i := 0) dX9_extreme_5 rfl rfl ?_
  refine zz_getr F dX9_extreme_6 wfRX9_10 zCl_8 rfl (⟨zlb rfl, zlb rfl, zlb rfl⟩) rfl (by decide) rfl (r' := 1) (by decide) ?_
  refine zz_getr F dX9_extreme_9 wfRX9_118 zCl_3 rfl (⟨zlb rfl, zlb rfl, zlb rfl⟩) rfl (by decide) rfl (r' := 1) (by decide) ?_
  refine zz_iload_n F (i := 1) dX9_extreme_12 rfl rfl ?_
  refine zz_ix fun j2 hj2 hinj2 hej2 => zz_aal F dX9_extreme_13 rfl (⟨zlb rfl, zlb rfl, zlb rfl⟩) rfl (by decide) rfl hinj2 hej2 rfl ?_
  refine zz_getr F dX9_extreme_14 wfRX9_214 zCl_5 rfl (⟨zlb rfl, zlb rfl, hj2⟩) rfl (by decide) rfl (r' := 1) (by decide) ?_
  refine zz_astore_n F (i := 3) (L' := [some (zr 0 0 0), some (zi a1), some (zi a2), some (zr 1 10 j2)]) dX9_extreme_17 rfl (by decide) rfl rfl ?_
  refine zz_iload_n F (i := 2) dX9_extreme_18 rfl rfl ?_
  refine zz_iconst F (v := (0 : Int32)) dX9_extreme_19 (by decide) ?_
  refine zz_aload_n F (i := 3) dX9_extreme_20 rfl rfl ?_
  refine zz_getf F dX9_extreme_21 wfRX9_223 zCl_1 rfl (⟨zlb rfl, zlb rfl, hj2⟩) rfl (by decide) rfl rfl ?_
  refine zz_iconst F (v := (1 : Int32)) dX9_extreme_24 (by decide) ?_
  refine zz_isub F dX9_extreme_25 ?_
  refine zz_bind ?_
  refine zz_callSr F (ρ := []) (so := fun q3 => [zi q3]) (Mo := fun q3 => [s0, s1, s2, s3]) (zfWB_outside a2 (0 : Int32) ((s1 10 j2 1) - (1 : Int32))) dX9_extreme_26 wcRX9_26 wy_yX9_outside rfl ⟨rel0, rfl, rfl, Nat.le_of_ble_eq_true rfl, Nat.le_of_ble_eq_true rfl, Nat.le_of_ble_eq_true rfl⟩ rfl (fun _ => rfl) (fun _ => rfl) fun q3 => ?_
  refine zz_if_eq F (tgt := 42) dX9_extreme_29 (by decide) (fun h => zz_t h ?_) (fun h => zz_f h ?_)
  · refine zz_aload_n F (i := 3) dX9_extreme_42 rfl rfl ?_
    refine zz_getr F dX9_extreme_43 wfRX9_252 zCl_1 rfl (⟨zlb rfl, zlb rfl, hj2⟩) rfl (by decide) rfl (r' := 1) (by decide) ?_
    refine zz_iload_n F (i := 2) dX9_extreme_46 rfl rfl ?_
    refine zz_ix fun j4 hj4 hinj4 hej4 => zz_ial F dX9_extreme_47 rfl (⟨zlb rfl, zlb rfl, hj2⟩) rfl hinj4 hej4 ?_
    exact zz_ireturn F dX9_extreme_48 rfl (hκ _)
  · exact zz_throw F (cls := "java/lang/IndexOutOfBoundsException") dX9_extreme_32 dX9_extreme_35 dX9_extreme_36 dX9_extreme_38 dX9_extreme_41 (by decide) wtRX9_238_242k wsRX9_250 wtRX9_238_242g wtRX9_238_242n wtRX9_238_242o (Nat.le_of_ble_eq_true rfl) (Nat.le_of_ble_eq_true rfl) (hκ _)
theorem zfWB_extreme (a1 : Int32) (a2 : Int32)  (s0 : zM) (s1 : zM) (s2 : zM) (s3 : zM) : ∀ a, fWB_extreme a1 a2 s0 s1 s2 s3 = some a → zMet yX9_extreme cX9_extreme 4 (some .int) 7 111 [(2, [1, 2, 3]), (0, []), (0, []), (1, [])] [zr 0 0 0, zi a1, zi a2] [s0, s1, s2, s3] ((zts (fun q => some (zi q)) (fun _ => [s0, s1, s2, s3]) (fun b => b) (fun _ => [s0, s1, s2, s3])) a) := fun a ha => zMet_of (L0 := [some (zr 0 0 0), some (zi a1), some (zi a2), none]) (φ := Option.bind (fWB_extreme a1 a2 s0 s1 s2 s3) (fun a => some ((zts (fun q => some (zi q)) (fun _ => [s0, s1, s2, s3]) (fun b => b) (fun _ => [s0, s1, s2, s3])) a))) (by decide) (fun _ => Nat.le_of_ble_eq_true rfl) (zl0 1 rfl) (fun X F => bfWB_extreme F a1 a2 s0 s1 s2 s3 (fun _ => rfl)) (by rw [ha]; rfl)

theorem dX9_ofString_0 : decode cX9_ofString 0 = .ok (.aload_n 0, 1) := by decide +kernel
theorem dX9_ofString_1 : decode cX9_ofString 1 = .ok (.iload_n 1, 1) := by decide +kernel
theorem dX9_ofString_2 : decode cX9_ofString 2 = .ok (.invokevirtual 50, 3) := by decide +kernel
theorem dX9_ofString_5 : decode cX9_ofString 5 = .ok (.aload_n 0, 1) := by decide +kernel
theorem dX9_ofString_6 : decode cX9_ofString 6 = .ok (.getfield 10, 3) := by decide +kernel
theorem dX9_ofString_9 : decode cX9_ofString 9 = .ok (.getfield 255, 3) := by decide +kernel
theorem dX9_ofString_12 : decode cX9_ofString 12 = .ok (.iload_n 1, 1) := by decide +kernel
theorem dX9_ofString_13 : decode cX9_ofString 13 = .ok (.aaload, 1) := by decide +kernel
theorem dX9_ofString_14 : decode cX9_ofString 14 = .ok (.astore_n 3, 1) := by decide +kernel
theorem dX9_ofString_15 : decode cX9_ofString 15 = .ok (.iload_n 2, 1) := by decide +kernel
theorem dX9_ofString_16 : decode cX9_ofString 16 = .ok (.tableswitch 52 0 3 #[32, 37, 42, 47], 32) := by decide +kernel
theorem dX9_ofString_48 : decode cX9_ofString 48 = .ok (.aload_n 3, 1) := by decide +kernel
theorem dX9_ofString_49 : decode cX9_ofString 49 = .ok (.getfield 259, 3) := by decide +kernel
theorem dX9_ofString_52 : decode cX9_ofString 52 = .ok (.ireturn, 1) := by decide +kernel
theorem dX9_ofString_53 : decode cX9_ofString 53 = .ok (.aload_n 3, 1) := by decide +kernel
theorem dX9_ofString_54 : decode cX9_ofString 54 = .ok (.getfield 264, 3) := by decide +kernel
theorem dX9_ofString_57 : decode cX9_ofString 57 = .ok (.ireturn, 1) := by decide +kernel
theorem dX9_ofString_58 : decode cX9_ofString 58 = .ok (.aload_n 3, 1) := by decide +kernel
theorem dX9_ofString_59 : decode cX9_ofString 59 = .ok (.invokevirtual 267, 3) := by decide +kernel
theorem dX9_ofString_62 : decode cX9_ofString 62 = .ok (.ireturn, 1) := by decide +kernel
theorem dX9_ofString_63 : decode cX9_ofString 63 = .ok (.aload_n 3, 1) := by decide +kernel
theorem dX9_ofString_64 : decode cX9_ofString 64 = .ok (.getfield 269, 3) := by decide +kernel
theorem dX9_ofString_67 : decode cX9_ofString 67 = .ok (.ireturn, 1) := by decide +kernel
theorem dX9_ofString_68 : decode cX9_ofString 68 = .ok (.new 30, 3) := by decide +kernel
theorem dX9_ofString_71 : decode cX9_ofString 71 = .ok (.dup, 1) := by decide +kernel
theorem dX9_ofString_72 : decode cX9_ofString 72 = .ok (.ldc_w 272, 3) := by decide +kernel
theorem dX9_ofString_75 : decode cX9_ofString 75 = .ok (.invokespecial 34, 3) := by decide +kernel
theorem dX9_ofString_78 : decode cX9_ofString 78 = .ok (.athrow, 1) := by decide +kernel
theorem wfRX9_255 : zFl RX9 255 3 1 := ⟨_, rfl, by decide, zm_f 648 (by decide +kernel) rfl⟩
theorem wsRX9_272 : (RX9, 272, "of a STRING 0 to 3 is asked") ∈ zstr := by decide +kernel
theorem wfRX9_259 : zFl RX9 259 0 0 := ⟨_, rfl, by decide, zm_f 598 (by decide +kernel) rfl⟩
theorem wfRX9_264 : zFl RX9 264 0 1 := ⟨_, rfl, by decide, zm_f 600 (by decide +kernel) rfl⟩
theorem wcRX9_267 : Cond.methodLink RX9 267 yX0_limit ∈ zTg ∧ Cond.instanceMethod yX0_limit ∈ zTg ∧ Cond.selects RX0 yX0_limit yX0_limit ∈ zTg ∧ Cond.initialized RX0 ∈ zTg ∧ Cond.code yX0_limit cX0_limit 1 (some .int) ∈ zTg := ⟨zm_f 412 (by decide +kernel) rfl, zm_f 205 (by decide +kernel) rfl, zm_f 206 (by decide +kernel) rfl, zm_f 27 (by decide +kernel) rfl, zm_f 207 (by decide +kernel) rfl⟩
theorem wfRX9_269 : zFl RX9 269 0 2 := ⟨_, rfl, by decide, zm_f 602 (by decide +kernel) rfl⟩
def fWB_ofString (a1 : Int32) (a2 : Int32) (s0 : zM) (s1 : zM) (s2 : zM) (s3 : zM) : Option ((Int32) ⊕ (String)) :=
  Option.bind (fWB_checkString a1 s0 s1 s2 s3) (Sum.elim (fun (_ : Unit) =>
  zix a1 3 fun j2 =>
  if a2 < 0 ∨ 3 < a2 then
  some (.inr "java/lang/IllegalArgumentException")
else
  if a2 = 0 then
    some (.inl (s1 12 j2 0))
  else
    if a2 = 1 then
      some (.inl (s1 12 j2 1))
    else
      if a2 = 2 then
        Option.bind (fCa_limit j2 s1) fun q3 =>
          some (.inl q3)
      else
        some (.inl (s1 12 j2 2))) (fun b => some (.inr b)))
set_option maxHeartbeats 4000000 in
set_option maxRecDepth 20000 in
theorem bfWB_ofString {X : zX} (F : zFr X cX9_ofString 4 RX9 (some .int)) (a1 : Int32) (a2 : Int32)  (s0 : zM) (s1 : zM) (s2 : zM) (s3 : zM) {κ : (Int32) ⊕ (String) → Option zO} (hκ : ∀ a, κ a = some ((zts (fun q => some (zi q)) (fun _ => [s0, s1, s2, s3]) (fun b => b) (fun _ => [s0, s1, s2, s3])) a)) : zZ X [(2, [1, 2, 3]), (0, []), (0, []), (1, [])] 7 111 4 0 [some (zr 0 0 0), some (zi a1), some (zi a2), none] [] [s0, s1, s2, s3] (Option.bind (fWB_ofString a1 a2 s0 s1 s2 s3) κ) := by
  unfold fWB_ofString
  refine zz_aload_n F (i := 0) dX9_ofString_0 rfl rfl ?_
  refine zz_iload_n F (i := 1) dX9_ofString_1 rfl rfl ?_
  refine zz_bind ?_
  refine zz_callVx F (ρ := [0, 1, 2, 3]) (so := fun _ => []) (Mo := fun _ => [s0, s1, s2, s3]) (Xo := fun _ => [s0, s1, s2, s3]) (zfWB_checkString a1 s0 s1 s2 s3) dX9_ofString_2 wcRX9_50 wy_yX9_checkString rfl ⟨rel2, rfl, rfl, Nat.le_of_ble_eq_true rfl, Nat.le_of_ble_eq_true rfl, Nat.le_of_ble_eq_true rfl⟩ (⟨zlb rfl, zlb rfl, zlb rfl⟩) rfl rfl rfl (fun _ => rfl) (fun _ => rfl) (fun _ => rfl) (fun _ => (hκ _)) fun _ => ?_
  dsimp only [Sum.elim_inl]
  refine zz_aload_n F (i := 0) dX9_ofString_5 rfl rfl ?_
  refine zz_getr F dX9_ofString_6 wfRX9_10 zCl_8 rfl (⟨zlb rfl, zlb rfl, zlb rfl⟩) rfl (by decide) rfl (r' := 1) (by decide) ?_
  refine zz_getr F dX9_ofString_9 wfRX9_255 zCl_3 rfl (⟨zlb rfl, zlb rfl, zlb rfl⟩) rfl (by decide) rfl (r' := 1) (by decide) ?_
  refine zz_iload_n F (i := 1) dX9_ofString_12 rfl rfl ?_
  refine zz_ix fun j2 hj2 hinj2 hej2 => zz_aal F dX9_ofString_13 rfl (⟨zlb rfl, zlb rfl, zlb rfl⟩) rfl (by decide) rfl hinj2 hej2 rfl ?_
  refine zz_astore_n F (i := 3) (L' := [some (zr 0 0 0), some (zi a1), some (zi a2), some (zr 1 12 j2)]) dX9_ofString_14 rfl (by decide) rfl rfl ?_
  refine zz_iload_n F (i := 2) dX9_ofString_15 rfl rfl ?_
  refine zz_sw (c := a2 < 0 ∨ 3 < a2) (fun h => ?_) (fun h => ?_)
  · refine zz_tableOut F (tgt := 68) dX9_ofString_16 (zsw_out (lw := 0) (hi := 3) (a := 0) (b := 3) (by decide) (by decide) h) (by decide) ?_
    exact zz_throwW F (cls := "java/lang/IllegalArgumentException") dX9_ofString_68 dX9_ofString_71 dX9_ofString_72 dX9_ofString_75 dX9_ofString_78 (by decide) wtRX9_30_34k wsRX9_272 wtRX9_30_34g wtRX9_30_34n wtRX9_30_34o (Nat.le_of_ble_eq_true rfl) (Nat.le_of_ble_eq_true rfl) (hκ _)
  · refine zz_sw (c := a2 = 0) (fun hv => ?_) (fun hn0 => ?_)
    · refine zz_tableIn F (tgt := 48) (off := 32) dX9_ofString_16 (by rw [zsw_at (k := 0) (a := 0) hv (by decide)]; decide) (by rw [zsw_at (k := 0) (a := 0) hv (by decide)]; decide) (by rw [zsw_at (k := 0) (a := 0) hv (by decide)]; rfl) (by decide) ?_
      refine zz_aload_n F (i := 3) dX9_ofString_48 rfl rfl ?_
      refine zz_getf F dX9_ofString_49 wfRX9_259 zCl_0 rfl (⟨zlb rfl, zlb rfl, hj2⟩) rfl (by decide) rfl rfl ?_
      exact zz_ireturn F dX9_ofString_52 rfl (hκ _)
    · refine zz_sw (c := a2 = 1) (fun hv => ?_) (fun hn1 => ?_)
      · refine zz_tableIn F (tgt := 53) (off := 37) dX9_ofString_16 (by rw [zsw_at (k := 1) (a := 1) hv (by decide)]; decide) (by rw [zsw_at (k := 1) (a := 1) hv (by decide)]; decide) (by rw [zsw_at (k := 1) (a := 1) hv (by decide)]; rfl) (by decide) ?_
        refine zz_aload_n F (i := 3) dX9_ofString_53 rfl rfl ?_
        refine zz_getf F dX9_ofString_54 wfRX9_264 zCl_0 rfl (⟨zlb rfl, zlb rfl, hj2⟩) rfl (by decide) rfl rfl ?_
        exact zz_ireturn F dX9_ofString_57 rfl (hκ _)
      · refine zz_sw (c := a2 = 2) (fun hv => ?_) (fun hn2 => ?_)
        · refine zz_tableIn F (tgt := 58) (off := 42) dX9_ofString_16 (by rw [zsw_at (k := 2) (a := 2) hv (by decide)]; decide) (by rw [zsw_at (k := 2) (a := 2) hv (by decide)]; decide) (by rw [zsw_at (k := 2) (a := 2) hv (by decide)]; rfl) (by decide) ?_
          refine zz_aload_n F (i := 3) dX9_ofString_58 rfl rfl ?_
          refine zz_bind ?_
          refine zz_callVr F (ρ := [1]) (so := fun q3 => [zi q3]) (Mo := fun q3 => [s0, s1, s2, s3]) (zfCa_limit j2 hj2 s1) dX9_ofString_59 wcRX9_267 wy_yX0_limit rfl ⟨rel1, rfl, rfl, Nat.le_of_ble_eq_true rfl, Nat.le_of_ble_eq_true rfl, Nat.le_of_ble_eq_true rfl⟩ (⟨zlb rfl, zlb rfl, hj2⟩) rfl rfl rfl (fun _ => rfl) (fun _ => rfl) fun q3 => ?_
          exact zz_ireturn F dX9_ofString_62 rfl (hκ _)
        · have hv : a2 = 3 := zsw_eq (a := 3) (by decide) (by have h1 := zsw_in (lw := 0) (hi := 3) (a := 0) (b := 3) (by decide) (by decide) h; have e0 := zsw_ne (a := 0) (by decide) hn0; have e1 := zsw_ne (a := 1) (by decide) hn1; have e2 := zsw_ne (a := 2) (by decide) hn2; omega)
          refine zz_tableIn F (tgt := 63) (off := 47) dX9_ofString_16 (by rw [zsw_at (k := 3) (a := 3) hv (by decide)]; decide) (by rw [zsw_at (k := 3) (a := 3) hv (by decide)]; decide) (by rw [zsw_at (k := 3) (a := 3) hv (by decide)]; rfl) (by decide) ?_
          refine zz_aload_n F (i := 3) dX9_ofString_63 rfl rfl ?_
          refine zz_getf F dX9_ofString_64 wfRX9_269 zCl_0 rfl (⟨zlb rfl, zlb rfl, hj2⟩) rfl (by decide) rfl rfl ?_
          exact zz_ireturn F dX9_ofString_67 rfl (hκ _)
theorem zfWB_ofString (a1 : Int32) (a2 : Int32)  (s0 : zM) (s1 : zM) (s2 : zM) (s3 : zM) : ∀ a, fWB_ofString a1 a2 s0 s1 s2 s3 = some a → zMet yX9_ofString cX9_ofString 4 (some .int) 7 111 [(2, [1, 2, 3]), (0, []), (0, []), (1, [])] [zr 0 0 0, zi a1, zi a2] [s0, s1, s2, s3] ((zts (fun q => some (zi q)) (fun _ => [s0, s1, s2, s3]) (fun b => b) (fun _ => [s0, s1, s2, s3])) a) := fun a ha => zMet_of (L0 := [some (zr 0 0 0), some (zi a1), some (zi a2), none]) (φ := Option.bind (fWB_ofString a1 a2 s0 s1 s2 s3) (fun a => some ((zts (fun q => some (zi q)) (fun _ => [s0, s1, s2, s3]) (fun b => b) (fun _ => [s0, s1, s2, s3])) a))) (by decide) (fun _ => Nat.le_of_ble_eq_true rfl) (zl0 1 rfl) (fun X F => bfWB_ofString F a1 a2 s0 s1 s2 s3 (fun _ => rfl)) (by rw [ha]; rfl)

theorem dX9_checkVessel_0 : decode cX9_checkVessel 0 = .ok (.iload_n 1, 1) := by decide +kernel
theorem dX9_checkVessel_1 : decode cX9_checkVessel 1 = .ok (.ifCond .lt 14, 3) := by decide +kernel
theorem dX9_checkVessel_4 : decode cX9_checkVessel 4 = .ok (.iload_n 1, 1) := by decide +kernel
theorem dX9_checkVessel_5 : decode cX9_checkVessel 5 = .ok (.aload_n 0, 1) := by decide +kernel
theorem dX9_checkVessel_6 : decode cX9_checkVessel 6 = .ok (.getfield 10, 3) := by decide +kernel
theorem dX9_checkVessel_9 : decode cX9_checkVessel 9 = .ok (.getfield 71, 3) := by decide +kernel
theorem dX9_checkVessel_12 : decode cX9_checkVessel 12 = .ok (.if_icmp .lt 14, 3) := by decide +kernel
theorem dX9_checkVessel_15 : decode cX9_checkVessel 15 = .ok (.new 238, 3) := by decide +kernel
theorem dX9_checkVessel_18 : decode cX9_checkVessel 18 = .ok (.dup, 1) := by decide +kernel
theorem dX9_checkVessel_19 : decode cX9_checkVessel 19 = .ok (.ldc_w 366, 3) := by decide +kernel
theorem dX9_checkVessel_22 : decode cX9_checkVessel 22 = .ok (.invokespecial 242, 3) := by decide +kernel
theorem dX9_checkVessel_25 : decode cX9_checkVessel 25 = .ok (.athrow, 1) := by decide +kernel
theorem dX9_checkVessel_26 : decode cX9_checkVessel 26 = .ok (.return_, 1) := by decide +kernel
theorem wsRX9_366 : (RX9, 366, "no such VESSEL") ∈ zstr := by decide +kernel
theorem wfRX9_71 : zFl RX9 71 3 7 := ⟨_, rfl, by decide, zm_f 661 (by decide +kernel) rfl⟩
def fWB_checkVessel (a1 : Int32) (s0 : zM) (s1 : zM) (s2 : zM) (s3 : zM) : Option ((Unit) ⊕ (String)) :=
  if a1 < 0 then
  some (.inr "java/lang/IndexOutOfBoundsException")
else
  if a1 < (s1 0 0 7) then
    some (.inl ())
  else
    some (.inr "java/lang/IndexOutOfBoundsException")
set_option maxHeartbeats 4000000 in
set_option maxRecDepth 20000 in
theorem bfWB_checkVessel {X : zX} (F : zFr X cX9_checkVessel 2 RX9 none) (a1 : Int32)  (s0 : zM) (s1 : zM) (s2 : zM) (s3 : zM) {κ : (Unit) ⊕ (String) → Option zO} (hκ : ∀ a, κ a = some ((zts (fun _ => (none : Option zV)) (fun _ => [s0, s1, s2, s3]) (fun b => b) (fun _ => [s0, s1, s2, s3])) a)) : zZ X [(2, [1, 2, 3]), (0, []), (0, []), (1, [])] 6 90 2 0 [some (zr 0 0 0), some (zi a1)] [] [s0, s1, s2, s3] (Option.bind (fWB_checkVessel a1 s0 s1 s2 s3) κ) := by
  unfold fWB_checkVessel
  refine zz_iload_n F (i := 1) dX9_checkVessel_0 rfl rfl ?_
  refine zz_if_lt F (tgt := 15) dX9_checkVessel_1 (by decide) (fun h => zz_t h ?_) (fun h => zz_f h ?_)
  · exact zz_throwW F (cls := "java/lang/IndexOutOfBoundsException") dX9_checkVessel_15 dX9_checkVessel_18 dX9_checkVessel_19 dX9_checkVessel_22 dX9_checkVessel_25 (by decide) wtRX9_238_242k wsRX9_366 wtRX9_238_242g wtRX9_238_242n wtRX9_238_242o (Nat.le_of_ble_eq_true rfl) (Nat.le_of_ble_eq_true rfl) (hκ _)
  · refine zz_iload_n F (i := 1) dX9_checkVessel_4 rfl rfl ?_
    refine zz_aload_n F (i := 0) dX9_checkVessel_5 rfl rfl ?_
    refine zz_getr F dX9_checkVessel_6 wfRX9_10 zCl_8 rfl (⟨zlb rfl, zlb rfl, zlb rfl⟩) rfl (by decide) rfl (r' := 1) (by decide) ?_
    refine zz_getf F dX9_checkVessel_9 wfRX9_71 zCl_3 rfl (⟨zlb rfl, zlb rfl, zlb rfl⟩) rfl (by decide) rfl rfl ?_
    refine zz_icmp_lt F (tgt := 26) dX9_checkVessel_12 (by decide) (fun h => zz_t h ?_) (fun h => zz_f h ?_)
    · exact zz_return F dX9_checkVessel_26 rfl (hκ _)
    · exact zz_throwW F (cls := "java/lang/IndexOutOfBoundsException") dX9_checkVessel_15 dX9_checkVessel_18 dX9_checkVessel_19 dX9_checkVessel_22 dX9_checkVessel_25 (by decide) wtRX9_238_242k wsRX9_366 wtRX9_238_242g wtRX9_238_242n wtRX9_238_242o (Nat.le_of_ble_eq_true rfl) (Nat.le_of_ble_eq_true rfl) (hκ _)
theorem zfWB_checkVessel (a1 : Int32)  (s0 : zM) (s1 : zM) (s2 : zM) (s3 : zM) : ∀ a, fWB_checkVessel a1 s0 s1 s2 s3 = some a → zMet yX9_checkVessel cX9_checkVessel 2 none 6 90 [(2, [1, 2, 3]), (0, []), (0, []), (1, [])] [zr 0 0 0, zi a1] [s0, s1, s2, s3] ((zts (fun _ => (none : Option zV)) (fun _ => [s0, s1, s2, s3]) (fun b => b) (fun _ => [s0, s1, s2, s3])) a) := fun a ha => zMet_of (L0 := [some (zr 0 0 0), some (zi a1)]) (φ := Option.bind (fWB_checkVessel a1 s0 s1 s2 s3) (fun a => some ((zts (fun _ => (none : Option zV)) (fun _ => [s0, s1, s2, s3]) (fun b => b) (fun _ => [s0, s1, s2, s3])) a))) (by decide) (fun _ => Nat.le_of_ble_eq_true rfl) (zl0 0 rfl) (fun X F => bfWB_checkVessel F a1 s0 s1 s2 s3 (fun _ => rfl)) (by rw [ha]; rfl)

theorem dX9_ofVessel_0 : decode cX9_ofVessel 0 = .ok (.aload_n 0, 1) := by decide +kernel
theorem dX9_ofVessel_1 : decode cX9_ofVessel 1 = .ok (.iload_n 1, 1) := by decide +kernel
theorem dX9_ofVessel_2 : decode cX9_ofVessel 2 = .ok (.invokevirtual 147, 3) := by decide +kernel
theorem dX9_ofVessel_5 : decode cX9_ofVessel 5 = .ok (.aload_n 0, 1) := by decide +kernel
theorem dX9_ofVessel_6 : decode cX9_ofVessel 6 = .ok (.getfield 10, 3) := by decide +kernel
theorem dX9_ofVessel_9 : decode cX9_ofVessel 9 = .ok (.getfield 150, 3) := by decide +kernel
theorem dX9_ofVessel_12 : decode cX9_ofVessel 12 = .ok (.iload_n 1, 1) := by decide +kernel
theorem dX9_ofVessel_13 : decode cX9_ofVessel 13 = .ok (.aaload, 1) := by decide +kernel
theorem dX9_ofVessel_14 : decode cX9_ofVessel 14 = .ok (.astore_n 3, 1) := by decide +kernel
theorem dX9_ofVessel_15 : decode cX9_ofVessel 15 = .ok (.iload_n 2, 1) := by decide +kernel
theorem dX9_ofVessel_16 : decode cX9_ofVessel 16 = .ok (.tableswitch 69 0 4 #[36, 41, 54, 59, 64], 36) := by decide +kernel
theorem dX9_ofVessel_52 : decode cX9_ofVessel 52 = .ok (.aload_n 3, 1) := by decide +kernel
theorem dX9_ofVessel_53 : decode cX9_ofVessel 53 = .ok (.getfield 165, 3) := by decide +kernel
theorem dX9_ofVessel_56 : decode cX9_ofVessel 56 = .ok (.ireturn, 1) := by decide +kernel
theorem dX9_ofVessel_57 : decode cX9_ofVessel 57 = .ok (.aload_n 3, 1) := by decide +kernel
theorem dX9_ofVessel_58 : decode cX9_ofVessel 58 = .ok (.getfield 154, 3) := by decide +kernel
theorem dX9_ofVessel_61 : decode cX9_ofVessel 61 = .ok (.ifCond .eq 7, 3) := by decide +kernel
theorem dX9_ofVessel_64 : decode cX9_ofVessel 64 = .ok (.iconst 1, 1) := by decide +kernel
theorem dX9_ofVessel_65 : decode cX9_ofVessel 65 = .ok (.goto 4, 3) := by decide +kernel
theorem dX9_ofVessel_68 : decode cX9_ofVessel 68 = .ok (.iconst 0, 1) := by decide +kernel
theorem dX9_ofVessel_69 : decode cX9_ofVessel 69 = .ok (.ireturn, 1) := by decide +kernel
theorem dX9_ofVessel_70 : decode cX9_ofVessel 70 = .ok (.aload_n 3, 1) := by decide +kernel
theorem dX9_ofVessel_71 : decode cX9_ofVessel 71 = .ok (.getfield 274, 3) := by decide +kernel
theorem dX9_ofVessel_74 : decode cX9_ofVessel 74 = .ok (.ireturn, 1) := by decide +kernel
theorem dX9_ofVessel_75 : decode cX9_ofVessel 75 = .ok (.aload_n 3, 1) := by decide +kernel
theorem dX9_ofVessel_76 : decode cX9_ofVessel 76 = .ok (.getfield 277, 3) := by decide +kernel
theorem dX9_ofVessel_79 : decode cX9_ofVessel 79 = .ok (.ireturn, 1) := by decide +kernel
theorem dX9_ofVessel_80 : decode cX9_ofVessel 80 = .ok (.aload_n 3, 1) := by decide +kernel
theorem dX9_ofVessel_81 : decode cX9_ofVessel 81 = .ok (.getfield 280, 3) := by decide +kernel
theorem dX9_ofVessel_84 : decode cX9_ofVessel 84 = .ok (.ireturn, 1) := by decide +kernel
theorem dX9_ofVessel_85 : decode cX9_ofVessel 85 = .ok (.new 30, 3) := by decide +kernel
theorem dX9_ofVessel_88 : decode cX9_ofVessel 88 = .ok (.dup, 1) := by decide +kernel
theorem dX9_ofVessel_89 : decode cX9_ofVessel 89 = .ok (.ldc_w 283, 3) := by decide +kernel
theorem dX9_ofVessel_92 : decode cX9_ofVessel 92 = .ok (.invokespecial 34, 3) := by decide +kernel
theorem dX9_ofVessel_95 : decode cX9_ofVessel 95 = .ok (.athrow, 1) := by decide +kernel
theorem wcRX9_147 : Cond.methodLink RX9 147 yX9_checkVessel ∈ zTg ∧ Cond.instanceMethod yX9_checkVessel ∈ zTg ∧ Cond.selects RX9 yX9_checkVessel yX9_checkVessel ∈ zTg ∧ Cond.initialized RX9 ∈ zTg ∧ Cond.code yX9_checkVessel cX9_checkVessel 2 none ∈ zTg := ⟨zm_f 418 (by decide +kernel) rfl, zm_f 420 (by decide +kernel) rfl, zm_f 16 (by decide +kernel) rfl, zm_f 21 (by decide +kernel) rfl, zm_f 421 (by decide +kernel) rfl⟩
theorem wy_yX9_checkVessel : yX9_checkVessel.cls = RX9 ∧ yX9_checkVessel.cls ≠ "java/lang/invoke/MethodHandle" ∧ yX9_checkVessel.cls ≠ "java/lang/invoke/VarHandle" ∧ (parseMethodDescriptor yX9_checkVessel.desc).map (fun d => d.parameters.length) = some 1 := by decide +kernel
theorem wfRX9_150 : zFl RX9 150 3 2 := ⟨_, rfl, by decide, zm_f 650 (by decide +kernel) rfl⟩
theorem wsRX9_283 : (RX9, 283, "of a VESSEL 0 to 4 is asked") ∈ zstr := by decide +kernel
theorem wfRX9_165 : zFl RX9 165 6 1 := ⟨_, rfl, by decide, zm_f 619 (by decide +kernel) rfl⟩
theorem wfRX9_154 : zFl RX9 154 6 2 := ⟨_, rfl, by decide, zm_f 622 (by decide +kernel) rfl⟩
theorem wfRX9_274 : zFl RX9 274 6 3 := ⟨_, rfl, by decide, zm_f 625 (by decide +kernel) rfl⟩
theorem wfRX9_277 : zFl RX9 277 6 4 := ⟨_, rfl, by decide, zm_f 627 (by decide +kernel) rfl⟩
theorem wfRX9_280 : zFl RX9 280 6 5 := ⟨_, rfl, by decide, zm_f 630 (by decide +kernel) rfl⟩
def fWB_ofVessel (a1 : Int32) (a2 : Int32) (s0 : zM) (s1 : zM) (s2 : zM) (s3 : zM) : Option ((Int32) ⊕ (String)) :=
  Option.bind (fWB_checkVessel a1 s0 s1 s2 s3) (Sum.elim (fun (_ : Unit) =>
  zix a1 3 fun j2 =>
  if a2 < 0 ∨ 4 < a2 then
  some (.inr "java/lang/IllegalArgumentException")
else
  if a2 = 0 then
    some (.inl (s1 13 j2 1))
  else
    if a2 = 1 then
      if (s1 13 j2 2 &&& 1) = 0 then
        some (.inl (0 : Int32))
      else
        some (.inl (1 : Int32))
    else
      if a2 = 2 then
        some (.inl (s1 13 j2 3))
      else
        if a2 = 3 then
          some (.inl (s1 13 j2 4))
        else
          some (.inl (s1 13 j2 5))) (fun b => some (.inr b)))
set_option maxHeartbeats 4000000 in
set_option maxRecDepth 20000 in
theorem bfWB_ofVessel {X : zX} (F : zFr X cX9_ofVessel 4 RX9 (some .int)) (a1 : Int32) (a2 : Int32)  (s0 : zM) (s1 : zM) (s2 : zM) (s3 : zM) {κ : (Int32) ⊕ (String) → Option zO} (hκ : ∀ a, κ a = some ((zts (fun q => some (zi q)) (fun _ => [s0, s1, s2, s3]) (fun b => b) (fun _ => [s0, s1, s2, s3])) a)) : zZ X [(2, [1, 2, 3]), (0, []), (0, []), (1, [])] 7 111 4 0 [some (zr 0 0 0), some (zi a1), some (zi a2), none] [] [s0, s1, s2, s3] (Option.bind (fWB_ofVessel a1 a2 s0 s1 s2 s3) κ) := by
  unfold fWB_ofVessel
  refine zz_aload_n F (i := 0) dX9_ofVessel_0 rfl rfl ?_
  refine zz_iload_n F (i := 1) dX9_ofVessel_1 rfl rfl ?_
  refine zz_bind ?_
  refine zz_callVx F (ρ := [0, 1, 2, 3]) (so := fun _ => []) (Mo := fun _ => [s0, s1, s2, s3]) (Xo := fun _ => [s0, s1, s2, s3]) (zfWB_checkVessel a1 s0 s1 s2 s3) dX9_ofVessel_2 wcRX9_147 wy_yX9_checkVessel rfl ⟨rel2, rfl, rfl, Nat.le_of_ble_eq_true rfl, Nat.le_of_ble_eq_true rfl, Nat.le_of_ble_eq_true rfl⟩ (⟨zlb rfl, zlb rfl, zlb rfl⟩) rfl rfl rfl (fun _ => rfl) (fun _ => rfl) (fun _ => rfl) (fun _ => (hκ _)) fun _ => ?_
  dsimp only [Sum.elim_inl]
  refine zz_aload_n F (i := 0) dX9_ofVessel_5 rfl rfl ?_
  refine zz_getr F dX9_ofVessel_6 wfRX9_10 zCl_8 rfl (⟨zlb rfl, zlb rfl, zlb rfl⟩) rfl (by decide) rfl (r' := 1) (by decide) ?_
  refine zz_getr F dX9_ofVessel_9 wfRX9_150 zCl_3 rfl (⟨zlb rfl, zlb rfl, zlb rfl⟩) rfl (by decide) rfl (r' := 1) (by decide) ?_
  refine zz_iload_n F (i := 1) dX9_ofVessel_12 rfl rfl ?_
  refine zz_ix fun j2 hj2 hinj2 hej2 => zz_aal F dX9_ofVessel_13 rfl (⟨zlb rfl, zlb rfl, zlb rfl⟩) rfl (by decide) rfl hinj2 hej2 rfl ?_
  refine zz_astore_n F (i := 3) (L' := [some (zr 0 0 0), some (zi a1), some (zi a2), some (zr 1 13 j2)]) dX9_ofVessel_14 rfl (by decide) rfl rfl ?_
  refine zz_iload_n F (i := 2) dX9_ofVessel_15 rfl rfl ?_
  refine zz_sw (c := a2 < 0 ∨ 4 < a2) (fun h => ?_) (fun h => ?_)
  · refine zz_tableOut F (tgt := 85) dX9_ofVessel_16 (zsw_out (lw := 0) (hi := 4) (a := 0) (b := 4) (by decide) (by decide) h) (by decide) ?_
    exact zz_throwW F (cls := "java/lang/IllegalArgumentException") dX9_ofVessel_85 dX9_ofVessel_88 dX9_ofVessel_89 dX9_ofVessel_92 dX9_ofVessel_95 (by decide) wtRX9_30_34k wsRX9_283 wtRX9_30_34g wtRX9_30_34n wtRX9_30_34o (Nat.le_of_ble_eq_true rfl) (Nat.le_of_ble_eq_true rfl) (hκ _)
  · refine zz_sw (c := a2 = 0) (fun hv => ?_) (fun hn0 => ?_)
    · refine zz_tableIn F (tgt := 52) (off := 36) dX9_ofVessel_16 (by rw [zsw_at (k := 0) (a := 0) hv (by decide)]; decide) (by rw [zsw_at (k := 0) (a := 0) hv (by decide)]; decide) (by rw [zsw_at (k := 0) (a := 0) hv (by decide)]; rfl) (by decide) ?_
      refine zz_aload_n F (i := 3) dX9_ofVessel_52 rfl rfl ?_
      refine zz_getf F dX9_ofVessel_53 wfRX9_165 zCl_6 rfl (⟨zlb rfl, zlb rfl, hj2⟩) rfl (by decide) rfl rfl ?_
      exact zz_ireturn F dX9_ofVessel_56 rfl (hκ _)
    · refine zz_sw (c := a2 = 1) (fun hv => ?_) (fun hn1 => ?_)
      · refine zz_tableIn F (tgt := 57) (off := 41) dX9_ofVessel_16 (by rw [zsw_at (k := 1) (a := 1) hv (by decide)]; decide) (by rw [zsw_at (k := 1) (a := 1) hv (by decide)]; decide) (by rw [zsw_at (k := 1) (a := 1) hv (by decide)]; rfl) (by decide) ?_
        refine zz_aload_n F (i := 3) dX9_ofVessel_57 rfl rfl ?_
        refine zz_getb F dX9_ofVessel_58 wfRX9_154 zCl_6 rfl (⟨zlb rfl, zlb rfl, hj2⟩) rfl (by decide) rfl rfl ?_
        refine zz_if_eq F (tgt := 68) dX9_ofVessel_61 (by decide) (fun h => zz_t h ?_) (fun h => zz_f h ?_)
        · refine zz_iconst F (v := (0 : Int32)) dX9_ofVessel_68 (by decide) ?_
          exact zz_ireturn F dX9_ofVessel_69 rfl (hκ _)
        · refine zz_iconst F (v := (1 : Int32)) dX9_ofVessel_64 (by decide) ?_
          refine zz_goto F (tgt := 69) dX9_ofVessel_65 (by decide) ?_
          exact zz_ireturn F dX9_ofVessel_69 rfl (hκ _)
      · refine zz_sw (c := a2 = 2) (fun hv => ?_) (fun hn2 => ?_)
        · refine zz_tableIn F (tgt := 70) (off := 54) dX9_ofVessel_16 (by rw [zsw_at (k := 2) (a := 2) hv (by decide)]; decide) (by rw [zsw_at (k := 2) (a := 2) hv (by decide)]; decide) (by rw [zsw_at (k := 2) (a := 2) hv (by decide)]; rfl) (by decide) ?_
          refine zz_aload_n F (i := 3) dX9_ofVessel_70 rfl rfl ?_
          refine zz_getf F dX9_ofVessel_71 wfRX9_274 zCl_6 rfl (⟨zlb rfl, zlb rfl, hj2⟩) rfl (by decide) rfl rfl ?_
          exact zz_ireturn F dX9_ofVessel_74 rfl (hκ _)
        · refine zz_sw (c := a2 = 3) (fun hv => ?_) (fun hn3 => ?_)
          · refine zz_tableIn F (tgt := 75) (off := 59) dX9_ofVessel_16 (by rw [zsw_at (k := 3) (a := 3) hv (by decide)]; decide) (by rw [zsw_at (k := 3) (a := 3) hv (by decide)]; decide) (by rw [zsw_at (k := 3) (a := 3) hv (by decide)]; rfl) (by decide) ?_
            refine zz_aload_n F (i := 3) dX9_ofVessel_75 rfl rfl ?_
            refine zz_getf F dX9_ofVessel_76 wfRX9_277 zCl_6 rfl (⟨zlb rfl, zlb rfl, hj2⟩) rfl (by decide) rfl rfl ?_
            exact zz_ireturn F dX9_ofVessel_79 rfl (hκ _)
          · have hv : a2 = 4 := zsw_eq (a := 4) (by decide) (by have h1 := zsw_in (lw := 0) (hi := 4) (a := 0) (b := 4) (by decide) (by decide) h; have e0 := zsw_ne (a := 0) (by decide) hn0; have e1 := zsw_ne (a := 1) (by decide) hn1; have e2 := zsw_ne (a := 2) (by decide) hn2; have e3 := zsw_ne (a := 3) (by decide) hn3; omega)
            refine zz_tableIn F (tgt := 80) (off := 64) dX9_ofVessel_16 (by rw [zsw_at (k := 4) (a := 4) hv (by decide)]; decide) (by rw [zsw_at (k := 4) (a := 4) hv (by decide)]; decide) (by rw [zsw_at (k := 4) (a := 4) hv (by decide)]; rfl) (by decide) ?_
            refine zz_aload_n F (i := 3) dX9_ofVessel_80 rfl rfl ?_
            refine zz_getf F dX9_ofVessel_81 wfRX9_280 zCl_6 rfl (⟨zlb rfl, zlb rfl, hj2⟩) rfl (by decide) rfl rfl ?_
            exact zz_ireturn F dX9_ofVessel_84 rfl (hκ _)
theorem zfWB_ofVessel (a1 : Int32) (a2 : Int32)  (s0 : zM) (s1 : zM) (s2 : zM) (s3 : zM) : ∀ a, fWB_ofVessel a1 a2 s0 s1 s2 s3 = some a → zMet yX9_ofVessel cX9_ofVessel 4 (some .int) 7 111 [(2, [1, 2, 3]), (0, []), (0, []), (1, [])] [zr 0 0 0, zi a1, zi a2] [s0, s1, s2, s3] ((zts (fun q => some (zi q)) (fun _ => [s0, s1, s2, s3]) (fun b => b) (fun _ => [s0, s1, s2, s3])) a) := fun a ha => zMet_of (L0 := [some (zr 0 0 0), some (zi a1), some (zi a2), none]) (φ := Option.bind (fWB_ofVessel a1 a2 s0 s1 s2 s3) (fun a => some ((zts (fun q => some (zi q)) (fun _ => [s0, s1, s2, s3]) (fun b => b) (fun _ => [s0, s1, s2, s3])) a))) (by decide) (fun _ => Nat.le_of_ble_eq_true rfl) (zl0 1 rfl) (fun X F => bfWB_ofVessel F a1 a2 s0 s1 s2 s3 (fun _ => rfl)) (by rw [ha]; rfl)

theorem dX3_countOf_0 : decode cX3_countOf 0 = .ok (.iconst 0, 1) := by decide +kernel
theorem dX3_countOf_1 : decode cX3_countOf 1 = .ok (.istore_n 2, 1) := by decide +kernel
theorem dX3_countOf_2 : decode cX3_countOf 2 = .ok (.iconst 0, 1) := by decide +kernel
theorem dX3_countOf_3 : decode cX3_countOf 3 = .ok (.istore_n 3, 1) := by decide +kernel
theorem dX3_countOf_4 : decode cX3_countOf 4 = .ok (.iload_n 3, 1) := by decide +kernel
theorem dX3_countOf_5 : decode cX3_countOf 5 = .ok (.aload_n 0, 1) := by decide +kernel
theorem dX3_countOf_6 : decode cX3_countOf 6 = .ok (.getfield 56, 3) := by decide +kernel
theorem dX3_countOf_9 : decode cX3_countOf 9 = .ok (.if_icmp .ge 25, 3) := by decide +kernel
theorem dX3_countOf_12 : decode cX3_countOf 12 = .ok (.aload_n 0, 1) := by decide +kernel
theorem dX3_countOf_13 : decode cX3_countOf 13 = .ok (.getfield 11, 3) := by decide +kernel
theorem dX3_countOf_16 : decode cX3_countOf 16 = .ok (.iload_n 3, 1) := by decide +kernel
theorem dX3_countOf_17 : decode cX3_countOf 17 = .ok (.aaload, 1) := by decide +kernel
theorem dX3_countOf_18 : decode cX3_countOf 18 = .ok (.getfield 99, 3) := by decide +kernel
theorem dX3_countOf_21 : decode cX3_countOf 21 = .ok (.iload_n 1, 1) := by decide +kernel
theorem dX3_countOf_22 : decode cX3_countOf 22 = .ok (.if_icmp .ne 6, 3) := by decide +kernel
theorem dX3_countOf_25 : decode cX3_countOf 25 = .ok (.iinc 2 1, 3) := by decide +kernel
theorem dX3_countOf_28 : decode cX3_countOf 28 = .ok (.iinc 3 1, 3) := by decide +kernel
theorem dX3_countOf_31 : decode cX3_countOf 31 = .ok (.goto (-27), 3) := by decide +kernel
theorem dX3_countOf_34 : decode cX3_countOf 34 = .ok (.iload_n 2, 1) := by decide +kernel
theorem dX3_countOf_35 : decode cX3_countOf 35 = .ok (.ireturn, 1) := by decide +kernel
def fSe_countOf_l4 (a1 : Int32) (s0 : zM) (q1 : Int32 × Int32) : Option ((Int32 × Int32) ⊕ ((Int32))) :=
  if (s0 0 0 5) ≤ q1.2 then
  some (.inr q1.1)
else
  zix q1.2 8 fun j3 =>
    Option.bind (if (s0 7 j3 3) = a1 then
    zlet (q1.1 + 1) fun v8 =>
      some v8
  else
    some q1.1) fun q4 =>
    zlet (q1.2 + 1) fun v9 =>
    some (.inl (q4, v9))
def fSe_countOf (a1 : Int32) (s0 : zM) : Option (Int32) :=
  Option.bind (ziter (fSe_countOf_l4 a1 s0) 1000 ((0 : Int32), (0 : Int32))) fun q2 =>
  some q2
set_option maxHeartbeats 4000000 in
set_option maxRecDepth 20000 in
theorem bfSe_countOf_l4 {X : zX} (F : zFr X cX3_countOf 4 RX3 (some .int)) (a1 : Int32) (s0 : zM)  {ψ : (Int32 × Int32) ⊕ ((Int32)) → Option zO} (h1 : ∀ q1 : Int32 × Int32, zZ X [(0, [])] 0 0 4 4 [some (zr 0 0 0), some (zi a1), some (zi q1.1), some (zi q1.2)] [] [s0] (ψ (.inl q1))) (h2 : ∀ q2 : Int32, zZ X [(0, [])] 0 0 4 34 [none, none, some (zi q2), none] [] [s0] (ψ (.inr q2))) (q1 : Int32 × Int32) : zZ X [(0, [])] 0 0 4 4 [some (zr 0 0 0), some (zi a1), some (zi q1.1), some (zi q1.2)] [] [s0] (Option.bind (fSe_countOf_l4 a1 s0 q1) ψ) := by
  unfold fSe_countOf_l4
  refine zz_iload_n F (i := 3) dX3_countOf_4 rfl rfl ?_
  refine zz_aload_n F (i := 0) dX3_countOf_5 rfl rfl ?_
  refine zz_getf F dX3_countOf_6 wfRX3_56 zCl_3 rfl (⟨zlb rfl, zlb rfl, zlb rfl⟩) rfl (by decide) rfl rfl ?_
  refine zz_icmp_ge F (tgt := 34) dX3_countOf_9 (by decide) (fun h => zz_t h ?_) (fun h => zz_f h ?_)
  · exact zz_sub (zs_n (zs_n (zs_k (zs_n zs_z)))) (h2 q1.1)
  · refine zz_aload_n F (i := 0) dX3_countOf_12 rfl rfl ?_
    refine zz_getr F dX3_countOf_13 wfRX3_11 zCl_3 rfl (⟨zlb rfl, zlb rfl, zlb rfl⟩) rfl (by decide) rfl (r' := 0) (by decide) ?_
    refine zz_iload_n F (i := 3) dX3_countOf_16 rfl rfl ?_
    refine zz_ix fun j3 hj3 hinj3 hej3 => zz_aal F dX3_countOf_17 rfl (⟨zlb rfl, zlb rfl, zlb rfl⟩) rfl (by decide) rfl hinj3 hej3 rfl ?_
    refine zz_getf F dX3_countOf_18 wfRX3_99 zCl_5 rfl (⟨zlb rfl, zlb rfl, hj3⟩) rfl (by decide) rfl rfl ?_
    refine zz_iload_n F (i := 1) dX3_countOf_21 rfl rfl ?_
    refine zz_join (pj := 28) (Lj := fun q4 => [some (zr 0 0 0), some (zi a1), some (zi q4), some (zi q1.2)]) (Sj := fun q4 => []) (Mj := fun q4 => [s0]) (fun q4 => ?_) (fun κ6 hj5 => ?_)
    · refine zz_iinc F (i := 3) (v := q1.2 + 1) (L' := [some (zr 0 0 0), some (zi a1), some (zi q4), some (zi (q1.2 + 1))]) dX3_countOf_28 rfl (by first | rfl | decide) (by decide) rfl rfl ?_
      refine zz_letl (Lf := fun v9 => [some (zr 0 0 0), some (zi a1), some (zi q4), some (zi v9)]) fun v9 => ?_
      refine zz_goto F (tgt := 4) dX3_countOf_31 (by decide) ?_
      exact zz_sub (zs_k (zs_k (zs_k (zs_k zs_z)))) (h1 (q4, v9))
    · refine zz_icmp_ne F (tgt := 28) dX3_countOf_22 (by decide) (fun h => zz_f h ?_) (fun h => zz_t h ?_)
      · exact zz_sub (zs_k (zs_k (zs_k (zs_k zs_z)))) (hj5 q1.1)
      · refine zz_iinc F (i := 2) (v := q1.1 + 1) (L' := [some (zr 0 0 0), some (zi a1), some (zi (q1.1 + 1)), some (zi q1.2)]) dX3_countOf_25 rfl (by first | rfl | decide) (by decide) rfl rfl ?_
        refine zz_letl (Lf := fun v8 => [some (zr 0 0 0), some (zi a1), some (zi v8), some (zi q1.2)]) fun v8 => ?_
        exact zz_sub (zs_k (zs_k (zs_k (zs_k zs_z)))) (hj5 v8)
set_option maxHeartbeats 4000000 in
set_option maxRecDepth 20000 in
theorem bfSe_countOf {X : zX} (F : zFr X cX3_countOf 4 RX3 (some .int)) (a1 : Int32)  (s0 : zM) {κ : Int32 → Option zO} (hκ : ∀ a, κ a = some ((fun a => ((.inl ((fun q => some (zi q)) a), (fun _ => [s0]) a) : zO)) a)) : zZ X [(0, [])] 0 0 4 0 [some (zr 0 0 0), some (zi a1), none, none] [] [s0] (Option.bind (fSe_countOf a1 s0) κ) := by
  unfold fSe_countOf
  refine zz_iconst F (v := (0 : Int32)) dX3_countOf_0 (by decide) ?_
  refine zz_istore_n F (i := 2) (L' := [some (zr 0 0 0), some (zi a1), some (zi (0 : Int32)), none]) dX3_countOf_1 rfl (by decide) rfl rfl ?_
  refine zz_iconst F (v := (0 : Int32)) dX3_countOf_2 (by decide) ?_
  refine zz_istore_n F (i := 3) (L' := [some (zr 0 0 0), some (zi a1), some (zi (0 : Int32)), some (zi (0 : Int32))]) dX3_countOf_3 rfl (by decide) rfl rfl ?_
  refine zz_sub (zs_k (zs_k (zs_k (zs_k zs_z)))) ?_
  refine zz_bind ?_
  refine zz_iter (Lf := fun q1 => [some (zr 0 0 0), some (zi a1), some (zi q1.1), some (zi q1.2)]) (Mf := fun q1 => [s0]) (fun q1 _ e10 e11 => bfSe_countOf_l4 F a1 s0  e10 (fun q2 => ?_)  q1) 1000 ((0 : Int32), (0 : Int32))
  rw [e11]
  refine zz_iload_n F (i := 2) dX3_countOf_34 rfl rfl ?_
  exact zz_ireturn F dX3_countOf_35 rfl (hκ _)
theorem zfSe_countOf (a1 : Int32)  (s0 : zM) : ∀ a, fSe_countOf a1 s0 = some a → zMet yX3_countOf cX3_countOf 4 (some .int) 0 0 [(0, [])] [zr 0 0 0, zi a1] [s0] ((fun a => ((.inl ((fun q => some (zi q)) a), (fun _ => [s0]) a) : zO)) a) := fun a ha => zMet_of (L0 := [some (zr 0 0 0), some (zi a1), none, none]) (φ := Option.bind (fSe_countOf a1 s0) (fun a => some ((fun a => ((.inl ((fun q => some (zi q)) a), (fun _ => [s0]) a) : zO)) a))) (by decide) (fun _ => Nat.le_of_ble_eq_true rfl) (zl0 2 rfl) (fun X F => bfSe_countOf F a1 s0 (fun _ => rfl)) (by rw [ha]; rfl)

theorem dX2_nominatedCount_0 : decode cX2_nominatedCount 0 = .ok (.iconst 0, 1) := by decide +kernel
theorem dX2_nominatedCount_1 : decode cX2_nominatedCount 1 = .ok (.istore_n 1, 1) := by decide +kernel
theorem dX2_nominatedCount_2 : decode cX2_nominatedCount 2 = .ok (.iconst 0, 1) := by decide +kernel
theorem dX2_nominatedCount_3 : decode cX2_nominatedCount 3 = .ok (.istore_n 2, 1) := by decide +kernel
theorem dX2_nominatedCount_4 : decode cX2_nominatedCount 4 = .ok (.iload_n 2, 1) := by decide +kernel
theorem dX2_nominatedCount_5 : decode cX2_nominatedCount 5 = .ok (.bipush 24, 2) := by decide +kernel
theorem dX2_nominatedCount_7 : decode cX2_nominatedCount 7 = .ok (.if_icmp .ge 22, 3) := by decide +kernel
theorem dX2_nominatedCount_10 : decode cX2_nominatedCount 10 = .ok (.aload_n 0, 1) := by decide +kernel
theorem dX2_nominatedCount_11 : decode cX2_nominatedCount 11 = .ok (.getfield 9, 3) := by decide +kernel
theorem dX2_nominatedCount_14 : decode cX2_nominatedCount 14 = .ok (.iload_n 2, 1) := by decide +kernel
theorem dX2_nominatedCount_15 : decode cX2_nominatedCount 15 = .ok (.iaload, 1) := by decide +kernel
theorem dX2_nominatedCount_16 : decode cX2_nominatedCount 16 = .ok (.iconst (-1), 1) := by decide +kernel
theorem dX2_nominatedCount_17 : decode cX2_nominatedCount 17 = .ok (.if_icmp .eq 6, 3) := by decide +kernel
theorem dX2_nominatedCount_20 : decode cX2_nominatedCount 20 = .ok (.iinc 1 1, 3) := by decide +kernel
theorem dX2_nominatedCount_23 : decode cX2_nominatedCount 23 = .ok (.iinc 2 1, 3) := by decide +kernel
theorem dX2_nominatedCount_26 : decode cX2_nominatedCount 26 = .ok (.goto (-22), 3) := by decide +kernel
theorem dX2_nominatedCount_29 : decode cX2_nominatedCount 29 = .ok (.iload_n 1, 1) := by decide +kernel
theorem dX2_nominatedCount_30 : decode cX2_nominatedCount 30 = .ok (.ireturn, 1) := by decide +kernel
def fLe_nominatedCount_l4 (s0 : zM) (q1 : Int32 × Int32) : Option ((Int32 × Int32) ⊕ ((Int32))) :=
  if (24 : Int32) ≤ q1.2 then
  some (.inr q1.1)
else
  zix q1.2 24 fun j3 =>
    Option.bind (if (s0 6 0 j3) = (-1 : Int32) then
    some q1.1
  else
    zlet (q1.1 + 1) fun v8 =>
      some v8) fun q4 =>
    zlet (q1.2 + 1) fun v9 =>
    some (.inl (q4, v9))
def fLe_nominatedCount  (s0 : zM) : Option (Int32) :=
  Option.bind (ziter (fLe_nominatedCount_l4 s0) 1000 ((0 : Int32), (0 : Int32))) fun q2 =>
  some q2
set_option maxHeartbeats 4000000 in
set_option maxRecDepth 20000 in
theorem bfLe_nominatedCount_l4 {X : zX} (F : zFr X cX2_nominatedCount 3 RX2 (some .int)) (s0 : zM)  {ψ : (Int32 × Int32) ⊕ ((Int32)) → Option zO} (h1 : ∀ q1 : Int32 × Int32, zZ X [(0, [])] 0 0 3 4 [some (zr 0 5 0), some (zi q1.1), some (zi q1.2)] [] [s0] (ψ (.inl q1))) (h2 : ∀ q2 : Int32, zZ X [(0, [])] 0 0 3 29 [none, some (zi q2), none] [] [s0] (ψ (.inr q2))) (q1 : Int32 × Int32) : zZ X [(0, [])] 0 0 3 4 [some (zr 0 5 0), some (zi q1.1), some (zi q1.2)] [] [s0] (Option.bind (fLe_nominatedCount_l4 s0 q1) ψ) := by
  unfold fLe_nominatedCount_l4
  refine zz_iload_n F (i := 2) dX2_nominatedCount_4 rfl rfl ?_
  refine zz_bipush F (v := (24 : Int32)) dX2_nominatedCount_5 (by decide) ?_
  refine zz_icmp_ge F (tgt := 29) dX2_nominatedCount_7 (by decide) (fun h => zz_t h ?_) (fun h => zz_f h ?_)
  · exact zz_sub (zs_n (zs_k (zs_n zs_z))) (h2 q1.1)
  · refine zz_aload_n F (i := 0) dX2_nominatedCount_10 rfl rfl ?_
    refine zz_getr F dX2_nominatedCount_11 wfRX2_9 zCl_2 rfl (⟨zlb rfl, zlb rfl, zlb rfl⟩) rfl (by decide) rfl (r' := 0) (by decide) ?_
    refine zz_iload_n F (i := 2) dX2_nominatedCount_14 rfl rfl ?_
    refine zz_ix fun j3 hj3 hinj3 hej3 => zz_ial F dX2_nominatedCount_15 rfl (⟨zlb rfl, zlb rfl, zlb rfl⟩) rfl hinj3 hej3 ?_
    refine zz_iconst F (v := (-1 : Int32)) dX2_nominatedCount_16 (by decide) ?_
    refine zz_join (pj := 23) (Lj := fun q4 => [some (zr 0 5 0), some (zi q4), some (zi q1.2)]) (Sj := fun q4 => []) (Mj := fun q4 => [s0]) (fun q4 => ?_) (fun κ6 hj5 => ?_)
    · refine zz_iinc F (i := 2) (v := q1.2 + 1) (L' := [some (zr 0 5 0), some (zi q4), some (zi (q1.2 + 1))]) dX2_nominatedCount_23 rfl (by first | rfl | decide) (by decide) rfl rfl ?_
      refine zz_letl (Lf := fun v9 => [some (zr 0 5 0), some (zi q4), some (zi v9)]) fun v9 => ?_
      refine zz_goto F (tgt := 4) dX2_nominatedCount_26 (by decide) ?_
      exact zz_sub (zs_k (zs_k (zs_k zs_z))) (h1 (q4, v9))
    · refine zz_icmp_eq F (tgt := 23) dX2_nominatedCount_17 (by decide) (fun h => zz_t h ?_) (fun h => zz_f h ?_)
      · exact zz_sub (zs_k (zs_k (zs_k zs_z))) (hj5 q1.1)
      · refine zz_iinc F (i := 1) (v := q1.1 + 1) (L' := [some (zr 0 5 0), some (zi (q1.1 + 1)), some (zi q1.2)]) dX2_nominatedCount_20 rfl (by first | rfl | decide) (by decide) rfl rfl ?_
        refine zz_letl (Lf := fun v8 => [some (zr 0 5 0), some (zi v8), some (zi q1.2)]) fun v8 => ?_
        exact zz_sub (zs_k (zs_k (zs_k zs_z))) (hj5 v8)
set_option maxHeartbeats 4000000 in
set_option maxRecDepth 20000 in
theorem bfLe_nominatedCount {X : zX} (F : zFr X cX2_nominatedCount 3 RX2 (some .int))   (s0 : zM) {κ : Int32 → Option zO} (hκ : ∀ a, κ a = some ((fun a => ((.inl ((fun q => some (zi q)) a), (fun _ => [s0]) a) : zO)) a)) : zZ X [(0, [])] 0 0 3 0 [some (zr 0 5 0), none, none] [] [s0] (Option.bind (fLe_nominatedCount s0) κ) := by
  unfold fLe_nominatedCount
  refine zz_iconst F (v := (0 : Int32)) dX2_nominatedCount_0 (by decide) ?_
  refine zz_istore_n F (i := 1) (L' := [some (zr 0 5 0), some (zi (0 : Int32)), none]) dX2_nominatedCount_1 rfl (by decide) rfl rfl ?_
  refine zz_iconst F (v := (0 : Int32)) dX2_nominatedCount_2 (by decide) ?_
  refine zz_istore_n F (i := 2) (L' := [some (zr 0 5 0), some (zi (0 : Int32)), some (zi (0 : Int32))]) dX2_nominatedCount_3 rfl (by decide) rfl rfl ?_
  refine zz_sub (zs_k (zs_k (zs_k zs_z))) ?_
  refine zz_bind ?_
  refine zz_iter (Lf := fun q1 => [some (zr 0 5 0), some (zi q1.1), some (zi q1.2)]) (Mf := fun q1 => [s0]) (fun q1 _ e10 e11 => bfLe_nominatedCount_l4 F s0  e10 (fun q2 => ?_)  q1) 1000 ((0 : Int32), (0 : Int32))
  rw [e11]
  refine zz_iload_n F (i := 1) dX2_nominatedCount_29 rfl rfl ?_
  exact zz_ireturn F dX2_nominatedCount_30 rfl (hκ _)
theorem zfLe_nominatedCount   (s0 : zM) : ∀ a, fLe_nominatedCount s0 = some a → zMet yX2_nominatedCount cX2_nominatedCount 3 (some .int) 0 0 [(0, [])] [zr 0 5 0] [s0] ((fun a => ((.inl ((fun q => some (zi q)) a), (fun _ => [s0]) a) : zO)) a) := fun a ha => zMet_of (L0 := [some (zr 0 5 0), none, none]) (φ := Option.bind (fLe_nominatedCount s0) (fun a => some ((fun a => ((.inl ((fun q => some (zi q)) a), (fun _ => [s0]) a) : zO)) a))) (by decide) (fun _ => Nat.le_of_ble_eq_true rfl) (zl0 2 rfl) (fun X F => bfLe_nominatedCount F s0 (fun _ => rfl)) (by rw [ha]; rfl)

theorem dX3_cycles_0 : decode cX3_cycles 0 = .ok (.iconst 0, 1) := by decide +kernel
theorem dX3_cycles_1 : decode cX3_cycles 1 = .ok (.istore_n 1, 1) := by decide +kernel
theorem dX3_cycles_2 : decode cX3_cycles 2 = .ok (.iconst 0, 1) := by decide +kernel
theorem dX3_cycles_3 : decode cX3_cycles 3 = .ok (.istore_n 2, 1) := by decide +kernel
theorem dX3_cycles_4 : decode cX3_cycles 4 = .ok (.iload_n 2, 1) := by decide +kernel
theorem dX3_cycles_5 : decode cX3_cycles 5 = .ok (.aload_n 0, 1) := by decide +kernel
theorem dX3_cycles_6 : decode cX3_cycles 6 = .ok (.getfield 56, 3) := by decide +kernel
theorem dX3_cycles_9 : decode cX3_cycles 9 = .ok (.if_icmp .ge 24, 3) := by decide +kernel
theorem dX3_cycles_12 : decode cX3_cycles 12 = .ok (.iload_n 1, 1) := by decide +kernel
theorem dX3_cycles_13 : decode cX3_cycles 13 = .ok (.aload_n 0, 1) := by decide +kernel
theorem dX3_cycles_14 : decode cX3_cycles 14 = .ok (.getfield 11, 3) := by decide +kernel
theorem dX3_cycles_17 : decode cX3_cycles 17 = .ok (.iload_n 2, 1) := by decide +kernel
theorem dX3_cycles_18 : decode cX3_cycles 18 = .ok (.aaload, 1) := by decide +kernel
theorem dX3_cycles_19 : decode cX3_cycles 19 = .ok (.getfield 102, 3) := by decide +kernel
theorem dX3_cycles_22 : decode cX3_cycles 22 = .ok (.getfield 106, 3) := by decide +kernel
theorem dX3_cycles_25 : decode cX3_cycles 25 = .ok (.iadd, 1) := by decide +kernel
theorem dX3_cycles_26 : decode cX3_cycles 26 = .ok (.istore_n 1, 1) := by decide +kernel
theorem dX3_cycles_27 : decode cX3_cycles 27 = .ok (.iinc 2 1, 3) := by decide +kernel
theorem dX3_cycles_30 : decode cX3_cycles 30 = .ok (.goto (-26), 3) := by decide +kernel
theorem dX3_cycles_33 : decode cX3_cycles 33 = .ok (.iload_n 1, 1) := by decide +kernel
theorem dX3_cycles_34 : decode cX3_cycles 34 = .ok (.ireturn, 1) := by decide +kernel
theorem wfRX3_102 : zFl RX3 102 5 13 := ⟨_, rfl, by decide, zm_f 560 (by decide +kernel) rfl⟩
theorem wfRX3_106 : zFl RX3 106 1 3 := ⟨_, rfl, by decide, zm_f 518 (by decide +kernel) rfl⟩
def fSe_cycles_l4 (s0 : zM) (q1 : Int32 × Int32) : Option ((Int32 × Int32) ⊕ ((Int32))) :=
  if (s0 0 0 5) ≤ q1.2 then
  some (.inr q1.1)
else
  zix q1.2 8 fun j3 =>
    zlet ((q1.1 + (s0 10 j3 3))) fun v4 =>
    zlet (q1.2 + 1) fun v5 =>
    some (.inl (v4, v5))
def fSe_cycles  (s0 : zM) : Option (Int32) :=
  Option.bind (ziter (fSe_cycles_l4 s0) 1000 ((0 : Int32), (0 : Int32))) fun q2 =>
  some q2
set_option maxHeartbeats 4000000 in
set_option maxRecDepth 20000 in
theorem bfSe_cycles_l4 {X : zX} (F : zFr X cX3_cycles 3 RX3 (some .int)) (s0 : zM)  {ψ : (Int32 × Int32) ⊕ ((Int32)) → Option zO} (h1 : ∀ q1 : Int32 × Int32, zZ X [(0, [])] 0 0 3 4 [some (zr 0 0 0), some (zi q1.1), some (zi q1.2)] [] [s0] (ψ (.inl q1))) (h2 : ∀ q2 : Int32, zZ X [(0, [])] 0 0 3 33 [none, some (zi q2), none] [] [s0] (ψ (.inr q2))) (q1 : Int32 × Int32) : zZ X [(0, [])] 0 0 3 4 [some (zr 0 0 0), some (zi q1.1), some (zi q1.2)] [] [s0] (Option.bind (fSe_cycles_l4 s0 q1) ψ) := by
  unfold fSe_cycles_l4
  refine zz_iload_n F (i := 2) dX3_cycles_4 rfl rfl ?_
  refine zz_aload_n F (i := 0) dX3_cycles_5 rfl rfl ?_
  refine zz_getf F dX3_cycles_6 wfRX3_56 zCl_3 rfl (⟨zlb rfl, zlb rfl, zlb rfl⟩) rfl (by decide) rfl rfl ?_
  refine zz_icmp_ge F (tgt := 33) dX3_cycles_9 (by decide) (fun h => zz_t h ?_) (fun h => zz_f h ?_)
  · exact zz_sub (zs_n (zs_k (zs_n zs_z))) (h2 q1.1)
  · refine zz_iload_n F (i := 1) dX3_cycles_12 rfl rfl ?_
    refine zz_aload_n F (i := 0) dX3_cycles_13 rfl rfl ?_
    refine zz_getr F dX3_cycles_14 wfRX3_11 zCl_3 rfl (⟨zlb rfl, zlb rfl, zlb rfl⟩) rfl (by decide) rfl (r' := 0) (by decide) ?_
    refine zz_iload_n F (i := 2) dX3_cycles_17 rfl rfl ?_
    refine zz_ix fun j3 hj3 hinj3 hej3 => zz_aal F dX3_cycles_18 rfl (⟨zlb rfl, zlb rfl, zlb rfl⟩) rfl (by decide) rfl hinj3 hej3 rfl ?_
    refine zz_getr F dX3_cycles_19 wfRX3_102 zCl_5 rfl (⟨zlb rfl, zlb rfl, hj3⟩) rfl (by decide) rfl (r' := 0) (by decide) ?_
    refine zz_getf F dX3_cycles_22 wfRX3_106 zCl_1 rfl (⟨zlb rfl, zlb rfl, hj3⟩) rfl (by decide) rfl rfl ?_
    refine zz_iadd F dX3_cycles_25 ?_
    refine zz_istore_n F (i := 1) (L' := [some (zr 0 0 0), some (zi (q1.1 + (s0 10 j3 3))), some (zi q1.2)]) dX3_cycles_26 rfl (by decide) rfl rfl ?_
    refine zz_letl (Lf := fun v4 => [some (zr 0 0 0), some (zi v4), some (zi q1.2)]) fun v4 => ?_
    refine zz_iinc F (i := 2) (v := q1.2 + 1) (L' := [some (zr 0 0 0), some (zi v4), some (zi (q1.2 + 1))]) dX3_cycles_27 rfl (by first | rfl | decide) (by decide) rfl rfl ?_
    refine zz_letl (Lf := fun v5 => [some (zr 0 0 0), some (zi v4), some (zi v5)]) fun v5 => ?_
    refine zz_goto F (tgt := 4) dX3_cycles_30 (by decide) ?_
    exact zz_sub (zs_k (zs_k (zs_k zs_z))) (h1 (v4, v5))
set_option maxHeartbeats 4000000 in
set_option maxRecDepth 20000 in
theorem bfSe_cycles {X : zX} (F : zFr X cX3_cycles 3 RX3 (some .int))   (s0 : zM) {κ : Int32 → Option zO} (hκ : ∀ a, κ a = some ((fun a => ((.inl ((fun q => some (zi q)) a), (fun _ => [s0]) a) : zO)) a)) : zZ X [(0, [])] 0 0 3 0 [some (zr 0 0 0), none, none] [] [s0] (Option.bind (fSe_cycles s0) κ) := by
  unfold fSe_cycles
  refine zz_iconst F (v := (0 : Int32)) dX3_cycles_0 (by decide) ?_
  refine zz_istore_n F (i := 1) (L' := [some (zr 0 0 0), some (zi (0 : Int32)), none]) dX3_cycles_1 rfl (by decide) rfl rfl ?_
  refine zz_iconst F (v := (0 : Int32)) dX3_cycles_2 (by decide) ?_
  refine zz_istore_n F (i := 2) (L' := [some (zr 0 0 0), some (zi (0 : Int32)), some (zi (0 : Int32))]) dX3_cycles_3 rfl (by decide) rfl rfl ?_
  refine zz_sub (zs_k (zs_k (zs_k zs_z))) ?_
  refine zz_bind ?_
  refine zz_iter (Lf := fun q1 => [some (zr 0 0 0), some (zi q1.1), some (zi q1.2)]) (Mf := fun q1 => [s0]) (fun q1 _ e6 e7 => bfSe_cycles_l4 F s0  e6 (fun q2 => ?_)  q1) 1000 ((0 : Int32), (0 : Int32))
  rw [e7]
  refine zz_iload_n F (i := 1) dX3_cycles_33 rfl rfl ?_
  exact zz_ireturn F dX3_cycles_34 rfl (hκ _)
theorem zfSe_cycles   (s0 : zM) : ∀ a, fSe_cycles s0 = some a → zMet yX3_cycles cX3_cycles 3 (some .int) 0 0 [(0, [])] [zr 0 0 0] [s0] ((fun a => ((.inl ((fun q => some (zi q)) a), (fun _ => [s0]) a) : zO)) a) := fun a ha => zMet_of (L0 := [some (zr 0 0 0), none, none]) (φ := Option.bind (fSe_cycles s0) (fun a => some ((fun a => ((.inl ((fun q => some (zi q)) a), (fun _ => [s0]) a) : zO)) a))) (by decide) (fun _ => Nat.le_of_ble_eq_true rfl) (zl0 2 rfl) (fun X F => bfSe_cycles F s0 (fun _ => rfl)) (by rw [ha]; rfl)

theorem dX9_many_0 : decode cX9_many 0 = .ok (.iload_n 1, 1) := by decide +kernel
theorem dX9_many_1 : decode cX9_many 1 = .ok (.tableswitch 201 0 13 #[71, 79, 87, 95, 103, 112, 121, 130, 141, 152, 163, 174, 182, 190], 71) := by decide +kernel
theorem dX9_many_72 : decode cX9_many 72 = .ok (.aload_n 0, 1) := by decide +kernel
theorem dX9_many_73 : decode cX9_many 73 = .ok (.getfield 10, 3) := by decide +kernel
theorem dX9_many_76 : decode cX9_many 76 = .ok (.getfield 56, 3) := by decide +kernel
theorem dX9_many_79 : decode cX9_many 79 = .ok (.ireturn, 1) := by decide +kernel
theorem dX9_many_80 : decode cX9_many 80 = .ok (.aload_n 0, 1) := by decide +kernel
theorem dX9_many_81 : decode cX9_many 81 = .ok (.getfield 10, 3) := by decide +kernel
theorem dX9_many_84 : decode cX9_many 84 = .ok (.getfield 37, 3) := by decide +kernel
theorem dX9_many_87 : decode cX9_many 87 = .ok (.ireturn, 1) := by decide +kernel
theorem dX9_many_88 : decode cX9_many 88 = .ok (.aload_n 0, 1) := by decide +kernel
theorem dX9_many_89 : decode cX9_many 89 = .ok (.getfield 10, 3) := by decide +kernel
theorem dX9_many_92 : decode cX9_many 92 = .ok (.getfield 71, 3) := by decide +kernel
theorem dX9_many_95 : decode cX9_many 95 = .ok (.ireturn, 1) := by decide +kernel
theorem dX9_many_96 : decode cX9_many 96 = .ok (.aload_n 0, 1) := by decide +kernel
theorem dX9_many_97 : decode cX9_many 97 = .ok (.getfield 10, 3) := by decide +kernel
theorem dX9_many_100 : decode cX9_many 100 = .ok (.getfield 79, 3) := by decide +kernel
theorem dX9_many_103 : decode cX9_many 103 = .ok (.ireturn, 1) := by decide +kernel
theorem dX9_many_104 : decode cX9_many 104 = .ok (.aload_n 0, 1) := by decide +kernel
theorem dX9_many_105 : decode cX9_many 105 = .ok (.getfield 10, 3) := by decide +kernel
theorem dX9_many_108 : decode cX9_many 108 = .ok (.iconst 2, 1) := by decide +kernel
theorem dX9_many_109 : decode cX9_many 109 = .ok (.invokevirtual 285, 3) := by decide +kernel
theorem dX9_many_112 : decode cX9_many 112 = .ok (.ireturn, 1) := by decide +kernel
theorem dX9_many_113 : decode cX9_many 113 = .ok (.aload_n 0, 1) := by decide +kernel
theorem dX9_many_114 : decode cX9_many 114 = .ok (.getfield 10, 3) := by decide +kernel
theorem dX9_many_117 : decode cX9_many 117 = .ok (.iconst 3, 1) := by decide +kernel
theorem dX9_many_118 : decode cX9_many 118 = .ok (.invokevirtual 285, 3) := by decide +kernel
theorem dX9_many_121 : decode cX9_many 121 = .ok (.ireturn, 1) := by decide +kernel
theorem dX9_many_122 : decode cX9_many 122 = .ok (.aload_n 0, 1) := by decide +kernel
theorem dX9_many_123 : decode cX9_many 123 = .ok (.getfield 10, 3) := by decide +kernel
theorem dX9_many_126 : decode cX9_many 126 = .ok (.iconst 4, 1) := by decide +kernel
theorem dX9_many_127 : decode cX9_many 127 = .ok (.invokevirtual 285, 3) := by decide +kernel
theorem dX9_many_130 : decode cX9_many 130 = .ok (.ireturn, 1) := by decide +kernel
theorem dX9_many_131 : decode cX9_many 131 = .ok (.aload_n 0, 1) := by decide +kernel
theorem dX9_many_132 : decode cX9_many 132 = .ok (.getfield 10, 3) := by decide +kernel
theorem dX9_many_135 : decode cX9_many 135 = .ok (.getfield 84, 3) := by decide +kernel
theorem dX9_many_138 : decode cX9_many 138 = .ok (.getfield 288, 3) := by decide +kernel
theorem dX9_many_141 : decode cX9_many 141 = .ok (.ireturn, 1) := by decide +kernel
theorem dX9_many_142 : decode cX9_many 142 = .ok (.aload_n 0, 1) := by decide +kernel
theorem dX9_many_143 : decode cX9_many 143 = .ok (.getfield 10, 3) := by decide +kernel
theorem dX9_many_146 : decode cX9_many 146 = .ok (.getfield 84, 3) := by decide +kernel
theorem dX9_many_149 : decode cX9_many 149 = .ok (.getfield 291, 3) := by decide +kernel
theorem dX9_many_152 : decode cX9_many 152 = .ok (.ireturn, 1) := by decide +kernel
theorem dX9_many_153 : decode cX9_many 153 = .ok (.aload_n 0, 1) := by decide +kernel
theorem dX9_many_154 : decode cX9_many 154 = .ok (.getfield 10, 3) := by decide +kernel
theorem dX9_many_157 : decode cX9_many 157 = .ok (.getfield 84, 3) := by decide +kernel
theorem dX9_many_160 : decode cX9_many 160 = .ok (.getfield 294, 3) := by decide +kernel
theorem dX9_many_163 : decode cX9_many 163 = .ok (.ireturn, 1) := by decide +kernel
theorem dX9_many_164 : decode cX9_many 164 = .ok (.aload_n 0, 1) := by decide +kernel
theorem dX9_many_165 : decode cX9_many 165 = .ok (.getfield 10, 3) := by decide +kernel
theorem dX9_many_168 : decode cX9_many 168 = .ok (.getfield 84, 3) := by decide +kernel
theorem dX9_many_171 : decode cX9_many 171 = .ok (.invokevirtual 94, 3) := by decide +kernel
theorem dX9_many_174 : decode cX9_many 174 = .ok (.ireturn, 1) := by decide +kernel
theorem dX9_many_175 : decode cX9_many 175 = .ok (.aload_n 0, 1) := by decide +kernel
theorem dX9_many_176 : decode cX9_many 176 = .ok (.getfield 10, 3) := by decide +kernel
theorem dX9_many_179 : decode cX9_many 179 = .ok (.getfield 297, 3) := by decide +kernel
theorem dX9_many_182 : decode cX9_many 182 = .ok (.ireturn, 1) := by decide +kernel
theorem dX9_many_183 : decode cX9_many 183 = .ok (.aload_n 0, 1) := by decide +kernel
theorem dX9_many_184 : decode cX9_many 184 = .ok (.getfield 10, 3) := by decide +kernel
theorem dX9_many_187 : decode cX9_many 187 = .ok (.invokevirtual 300, 3) := by decide +kernel
theorem dX9_many_190 : decode cX9_many 190 = .ok (.ireturn, 1) := by decide +kernel
theorem dX9_many_191 : decode cX9_many 191 = .ok (.aload_n 0, 1) := by decide +kernel
theorem dX9_many_192 : decode cX9_many 192 = .ok (.getfield 10, 3) := by decide +kernel
theorem dX9_many_195 : decode cX9_many 195 = .ok (.getfield 84, 3) := by decide +kernel
theorem dX9_many_198 : decode cX9_many 198 = .ok (.getfield 303, 3) := by decide +kernel
theorem dX9_many_201 : decode cX9_many 201 = .ok (.ireturn, 1) := by decide +kernel
theorem dX9_many_202 : decode cX9_many 202 = .ok (.new 30, 3) := by decide +kernel
theorem dX9_many_205 : decode cX9_many 205 = .ok (.dup, 1) := by decide +kernel
theorem dX9_many_206 : decode cX9_many 206 = .ok (.ldc_w 306, 3) := by decide +kernel
theorem dX9_many_209 : decode cX9_many 209 = .ok (.invokespecial 34, 3) := by decide +kernel
theorem dX9_many_212 : decode cX9_many 212 = .ok (.athrow, 1) := by decide +kernel
theorem wsRX9_306 : (RX9, 306, "0 to 13 is asked") ∈ zstr := by decide +kernel
theorem wfRX9_79 : zFl RX9 79 3 8 := ⟨_, rfl, by decide, zm_f 663 (by decide +kernel) rfl⟩
theorem wcRX9_285 : Cond.methodLink RX9 285 yX3_countOf ∈ zTg ∧ Cond.instanceMethod yX3_countOf ∈ zTg ∧ Cond.selects RX3 yX3_countOf yX3_countOf ∈ zTg ∧ Cond.initialized RX3 ∈ zTg ∧ Cond.code yX3_countOf cX3_countOf 4 (some .int) ∈ zTg := ⟨zm_f 356 (by decide +kernel) rfl, zm_f 357 (by decide +kernel) rfl, zm_f 358 (by decide +kernel) rfl, zm_f 22 (by decide +kernel) rfl, zm_f 359 (by decide +kernel) rfl⟩
theorem wy_yX3_countOf : yX3_countOf.cls = RX3 ∧ yX3_countOf.cls ≠ "java/lang/invoke/MethodHandle" ∧ yX3_countOf.cls ≠ "java/lang/invoke/VarHandle" ∧ (parseMethodDescriptor yX3_countOf.desc).map (fun d => d.parameters.length) = some 1 := by decide +kernel
theorem wfRX9_84 : zFl RX9 84 3 4 := ⟨_, rfl, by decide, zm_f 654 (by decide +kernel) rfl⟩
theorem wfRX9_288 : zFl RX9 288 2 1 := ⟨_, rfl, by decide, zm_f 483 (by decide +kernel) rfl⟩
theorem wfRX9_291 : zFl RX9 291 2 2 := ⟨_, rfl, by decide, zm_f 485 (by decide +kernel) rfl⟩
theorem wfRX9_294 : zFl RX9 294 2 4 := ⟨_, rfl, by decide, zm_f 489 (by decide +kernel) rfl⟩
theorem wcRX9_94 : Cond.methodLink RX9 94 yX2_nominatedCount ∈ zTg ∧ Cond.instanceMethod yX2_nominatedCount ∈ zTg ∧ Cond.selects RX2 yX2_nominatedCount yX2_nominatedCount ∈ zTg ∧ Cond.initialized RX2 ∈ zTg ∧ Cond.code yX2_nominatedCount cX2_nominatedCount 3 (some .int) ∈ zTg := ⟨zm_f 360 (by decide +kernel) rfl, zm_f 361 (by decide +kernel) rfl, zm_f 362 (by decide +kernel) rfl, zm_f 24 (by decide +kernel) rfl, zm_f 363 (by decide +kernel) rfl⟩
theorem wy_yX2_nominatedCount : yX2_nominatedCount.cls = RX2 ∧ yX2_nominatedCount.cls ≠ "java/lang/invoke/MethodHandle" ∧ yX2_nominatedCount.cls ≠ "java/lang/invoke/VarHandle" ∧ (parseMethodDescriptor yX2_nominatedCount.desc).map (fun d => d.parameters.length) = some 0 := by decide +kernel
theorem wfRX9_297 : zFl RX9 297 3 10 := ⟨_, rfl, by decide, zm_f 666 (by decide +kernel) rfl⟩
theorem wcRX9_300 : Cond.methodLink RX9 300 yX3_cycles ∈ zTg ∧ Cond.instanceMethod yX3_cycles ∈ zTg ∧ Cond.selects RX3 yX3_cycles yX3_cycles ∈ zTg ∧ Cond.initialized RX3 ∈ zTg ∧ Cond.code yX3_cycles cX3_cycles 3 (some .int) ∈ zTg := ⟨zm_f 364 (by decide +kernel) rfl, zm_f 365 (by decide +kernel) rfl, zm_f 366 (by decide +kernel) rfl, zm_f 22 (by decide +kernel) rfl, zm_f 367 (by decide +kernel) rfl⟩
theorem wy_yX3_cycles : yX3_cycles.cls = RX3 ∧ yX3_cycles.cls ≠ "java/lang/invoke/MethodHandle" ∧ yX3_cycles.cls ≠ "java/lang/invoke/VarHandle" ∧ (parseMethodDescriptor yX3_cycles.desc).map (fun d => d.parameters.length) = some 0 := by decide +kernel
theorem wfRX9_303 : zFl RX9 303 2 3 := ⟨_, rfl, by decide, zm_f 487 (by decide +kernel) rfl⟩
def fWB_many (a1 : Int32) (s0 : zM) (s1 : zM) (s2 : zM) (s3 : zM) : Option ((Int32) ⊕ (String)) :=
  if a1 < 0 ∨ 13 < a1 then
  some (.inr "java/lang/IllegalArgumentException")
else
  if a1 = 0 then
    some (.inl (s1 0 0 5))
  else
    if a1 = 1 then
      some (.inl (s1 0 0 6))
    else
      if a1 = 2 then
        some (.inl (s1 0 0 7))
      else
        if a1 = 3 then
          some (.inl (s1 0 0 8))
        else
          if a1 = 4 then
            Option.bind (fSe_countOf (2 : Int32) s1) fun q1 =>
              some (.inl q1)
          else
            if a1 = 5 then
              Option.bind (fSe_countOf (3 : Int32) s1) fun q2 =>
                some (.inl q2)
            else
              if a1 = 6 then
                Option.bind (fSe_countOf (4 : Int32) s1) fun q3 =>
                  some (.inl q3)
              else
                if a1 = 7 then
                  some (.inl (s1 5 0 1))
                else
                  if a1 = 8 then
                    some (.inl (s1 5 0 2))
                  else
                    if a1 = 9 then
                      some (.inl (s1 5 0 4))
                    else
                      if a1 = 10 then
                        Option.bind (fLe_nominatedCount s1) fun q4 =>
                          some (.inl q4)
                      else
                        if a1 = 11 then
                          some (.inl (s1 0 0 10))
                        else
                          if a1 = 12 then
                            Option.bind (fSe_cycles s1) fun q5 =>
                              some (.inl q5)
                          else
                            some (.inl (s1 5 0 3))
set_option maxHeartbeats 4000000 in
set_option maxRecDepth 20000 in
theorem bfWB_many {X : zX} (F : zFr X cX9_many 2 RX9 (some .int)) (a1 : Int32)  (s0 : zM) (s1 : zM) (s2 : zM) (s3 : zM) {κ : (Int32) ⊕ (String) → Option zO} (hκ : ∀ a, κ a = some ((zts (fun q => some (zi q)) (fun _ => [s0, s1, s2, s3]) (fun b => b) (fun _ => [s0, s1, s2, s3])) a)) : zZ X [(2, [1, 2, 3]), (0, []), (0, []), (1, [])] 6 90 2 0 [some (zr 0 0 0), some (zi a1)] [] [s0, s1, s2, s3] (Option.bind (fWB_many a1 s0 s1 s2 s3) κ) := by
  unfold fWB_many
  refine zz_iload_n F (i := 1) dX9_many_0 rfl rfl ?_
  refine zz_sw (c := a1 < 0 ∨ 13 < a1) (fun h => ?_) (fun h => ?_)
  · refine zz_tableOut F (tgt := 202) dX9_many_1 (zsw_out (lw := 0) (hi := 13) (a := 0) (b := 13) (by decide) (by decide) h) (by decide) ?_
    exact zz_throwW F (cls := "java/lang/IllegalArgumentException") dX9_many_202 dX9_many_205 dX9_many_206 dX9_many_209 dX9_many_212 (by decide) wtRX9_30_34k wsRX9_306 wtRX9_30_34g wtRX9_30_34n wtRX9_30_34o (Nat.le_of_ble_eq_true rfl) (Nat.le_of_ble_eq_true rfl) (hκ _)
  · refine zz_sw (c := a1 = 0) (fun hv => ?_) (fun hn0 => ?_)
    · refine zz_tableIn F (tgt := 72) (off := 71) dX9_many_1 (by rw [zsw_at (k := 0) (a := 0) hv (by decide)]; decide) (by rw [zsw_at (k := 0) (a := 0) hv (by decide)]; decide) (by rw [zsw_at (k := 0) (a := 0) hv (by decide)]; rfl) (by decide) ?_
      refine zz_aload_n F (i := 0) dX9_many_72 rfl rfl ?_
      refine zz_getr F dX9_many_73 wfRX9_10 zCl_8 rfl (⟨zlb rfl, zlb rfl, zlb rfl⟩) rfl (by decide) rfl (r' := 1) (by decide) ?_
      refine zz_getf F dX9_many_76 wfRX9_56 zCl_3 rfl (⟨zlb rfl, zlb rfl, zlb rfl⟩) rfl (by decide) rfl rfl ?_
      exact zz_ireturn F dX9_many_79 rfl (hκ _)
    · refine zz_sw (c := a1 = 1) (fun hv => ?_) (fun hn1 => ?_)
      · refine zz_tableIn F (tgt := 80) (off := 79) dX9_many_1 (by rw [zsw_at (k := 1) (a := 1) hv (by decide)]; decide) (by rw [zsw_at (k := 1) (a := 1) hv (by decide)]; decide) (by rw [zsw_at (k := 1) (a := 1) hv (by decide)]; rfl) (by decide) ?_
        refine zz_aload_n F (i := 0) dX9_many_80 rfl rfl ?_
        refine zz_getr F dX9_many_81 wfRX9_10 zCl_8 rfl (⟨zlb rfl, zlb rfl, zlb rfl⟩) rfl (by decide) rfl (r' := 1) (by decide) ?_
        refine zz_getf F dX9_many_84 wfRX9_37 zCl_3 rfl (⟨zlb rfl, zlb rfl, zlb rfl⟩) rfl (by decide) rfl rfl ?_
        exact zz_ireturn F dX9_many_87 rfl (hκ _)
      · refine zz_sw (c := a1 = 2) (fun hv => ?_) (fun hn2 => ?_)
        · refine zz_tableIn F (tgt := 88) (off := 87) dX9_many_1 (by rw [zsw_at (k := 2) (a := 2) hv (by decide)]; decide) (by rw [zsw_at (k := 2) (a := 2) hv (by decide)]; decide) (by rw [zsw_at (k := 2) (a := 2) hv (by decide)]; rfl) (by decide) ?_
          refine zz_aload_n F (i := 0) dX9_many_88 rfl rfl ?_
          refine zz_getr F dX9_many_89 wfRX9_10 zCl_8 rfl (⟨zlb rfl, zlb rfl, zlb rfl⟩) rfl (by decide) rfl (r' := 1) (by decide) ?_
          refine zz_getf F dX9_many_92 wfRX9_71 zCl_3 rfl (⟨zlb rfl, zlb rfl, zlb rfl⟩) rfl (by decide) rfl rfl ?_
          exact zz_ireturn F dX9_many_95 rfl (hκ _)
        · refine zz_sw (c := a1 = 3) (fun hv => ?_) (fun hn3 => ?_)
          · refine zz_tableIn F (tgt := 96) (off := 95) dX9_many_1 (by rw [zsw_at (k := 3) (a := 3) hv (by decide)]; decide) (by rw [zsw_at (k := 3) (a := 3) hv (by decide)]; decide) (by rw [zsw_at (k := 3) (a := 3) hv (by decide)]; rfl) (by decide) ?_
            refine zz_aload_n F (i := 0) dX9_many_96 rfl rfl ?_
            refine zz_getr F dX9_many_97 wfRX9_10 zCl_8 rfl (⟨zlb rfl, zlb rfl, zlb rfl⟩) rfl (by decide) rfl (r' := 1) (by decide) ?_
            refine zz_getf F dX9_many_100 wfRX9_79 zCl_3 rfl (⟨zlb rfl, zlb rfl, zlb rfl⟩) rfl (by decide) rfl rfl ?_
            exact zz_ireturn F dX9_many_103 rfl (hκ _)
          · refine zz_sw (c := a1 = 4) (fun hv => ?_) (fun hn4 => ?_)
            · refine zz_tableIn F (tgt := 104) (off := 103) dX9_many_1 (by rw [zsw_at (k := 4) (a := 4) hv (by decide)]; decide) (by rw [zsw_at (k := 4) (a := 4) hv (by decide)]; decide) (by rw [zsw_at (k := 4) (a := 4) hv (by decide)]; rfl) (by decide) ?_
              refine zz_aload_n F (i := 0) dX9_many_104 rfl rfl ?_
              refine zz_getr F dX9_many_105 wfRX9_10 zCl_8 rfl (⟨zlb rfl, zlb rfl, zlb rfl⟩) rfl (by decide) rfl (r' := 1) (by decide) ?_
              refine zz_iconst F (v := (2 : Int32)) dX9_many_108 (by decide) ?_
              refine zz_bind ?_
              refine zz_callVr F (ρ := [1]) (so := fun q1 => [zi q1]) (Mo := fun q1 => [s0, s1, s2, s3]) (zfSe_countOf (2 : Int32) s1) dX9_many_109 wcRX9_285 wy_yX3_countOf rfl ⟨rel1, rfl, rfl, Nat.le_of_ble_eq_true rfl, Nat.le_of_ble_eq_true rfl, Nat.le_of_ble_eq_true rfl⟩ (⟨zlb rfl, zlb rfl, zlb rfl⟩) rfl rfl rfl (fun _ => rfl) (fun _ => rfl) fun q1 => ?_
              exact zz_ireturn F dX9_many_112 rfl (hκ _)
            · refine zz_sw (c := a1 = 5) (fun hv => ?_) (fun hn5 => ?_)
              · refine zz_tableIn F (tgt := 113) (off := 112) dX9_many_1 (by rw [zsw_at (k := 5) (a := 5) hv (by decide)]; decide) (by rw [zsw_at (k := 5) (a := 5) hv (by decide)]; decide) (by rw [zsw_at (k := 5) (a := 5) hv (by decide)]; rfl) (by decide) ?_
                refine zz_aload_n F (i := 0) dX9_many_113 rfl rfl ?_
                refine zz_getr F dX9_many_114 wfRX9_10 zCl_8 rfl (⟨zlb rfl, zlb rfl, zlb rfl⟩) rfl (by decide) rfl (r' := 1) (by decide) ?_
                refine zz_iconst F (v := (3 : Int32)) dX9_many_117 (by decide) ?_
                refine zz_bind ?_
                refine zz_callVr F (ρ := [1]) (so := fun q2 => [zi q2]) (Mo := fun q2 => [s0, s1, s2, s3]) (zfSe_countOf (3 : Int32) s1) dX9_many_118 wcRX9_285 wy_yX3_countOf rfl ⟨rel1, rfl, rfl, Nat.le_of_ble_eq_true rfl, Nat.le_of_ble_eq_true rfl, Nat.le_of_ble_eq_true rfl⟩ (⟨zlb rfl, zlb rfl, zlb rfl⟩) rfl rfl rfl (fun _ => rfl) (fun _ => rfl) fun q2 => ?_
                exact zz_ireturn F dX9_many_121 rfl (hκ _)
              · refine zz_sw (c := a1 = 6) (fun hv => ?_) (fun hn6 => ?_)
                · refine zz_tableIn F (tgt := 122) (off := 121) dX9_many_1 (by rw [zsw_at (k := 6) (a := 6) hv (by decide)]; decide) (by rw [zsw_at (k := 6) (a := 6) hv (by decide)]; decide) (by rw [zsw_at (k := 6) (a := 6) hv (by decide)]; rfl) (by decide) ?_
                  refine zz_aload_n F (i := 0) dX9_many_122 rfl rfl ?_
                  refine zz_getr F dX9_many_123 wfRX9_10 zCl_8 rfl (⟨zlb rfl, zlb rfl, zlb rfl⟩) rfl (by decide) rfl (r' := 1) (by decide) ?_
                  refine zz_iconst F (v := (4 : Int32)) dX9_many_126 (by decide) ?_
                  refine zz_bind ?_
                  refine zz_callVr F (ρ := [1]) (so := fun q3 => [zi q3]) (Mo := fun q3 => [s0, s1, s2, s3]) (zfSe_countOf (4 : Int32) s1) dX9_many_127 wcRX9_285 wy_yX3_countOf rfl ⟨rel1, rfl, rfl, Nat.le_of_ble_eq_true rfl, Nat.le_of_ble_eq_true rfl, Nat.le_of_ble_eq_true rfl⟩ (⟨zlb rfl, zlb rfl, zlb rfl⟩) rfl rfl rfl (fun _ => rfl) (fun _ => rfl) fun q3 => ?_
                  exact zz_ireturn F dX9_many_130 rfl (hκ _)
                · refine zz_sw (c := a1 = 7) (fun hv => ?_) (fun hn7 => ?_)
                  · refine zz_tableIn F (tgt := 131) (off := 130) dX9_many_1 (by rw [zsw_at (k := 7) (a := 7) hv (by decide)]; decide) (by rw [zsw_at (k := 7) (a := 7) hv (by decide)]; decide) (by rw [zsw_at (k := 7) (a := 7) hv (by decide)]; rfl) (by decide) ?_
                    refine zz_aload_n F (i := 0) dX9_many_131 rfl rfl ?_
                    refine zz_getr F dX9_many_132 wfRX9_10 zCl_8 rfl (⟨zlb rfl, zlb rfl, zlb rfl⟩) rfl (by decide) rfl (r' := 1) (by decide) ?_
                    refine zz_getr F dX9_many_135 wfRX9_84 zCl_3 rfl (⟨zlb rfl, zlb rfl, zlb rfl⟩) rfl (by decide) rfl (r' := 1) (by decide) ?_
                    refine zz_getf F dX9_many_138 wfRX9_288 zCl_2 rfl (⟨zlb rfl, zlb rfl, zlb rfl⟩) rfl (by decide) rfl rfl ?_
                    exact zz_ireturn F dX9_many_141 rfl (hκ _)
                  · refine zz_sw (c := a1 = 8) (fun hv => ?_) (fun hn8 => ?_)
                    · refine zz_tableIn F (tgt := 142) (off := 141) dX9_many_1 (by rw [zsw_at (k := 8) (a := 8) hv (by decide)]; decide) (by rw [zsw_at (k := 8) (a := 8) hv (by decide)]; decide) (by rw [zsw_at (k := 8) (a := 8) hv (by decide)]; rfl) (by decide) ?_
                      refine zz_aload_n F (i := 0) dX9_many_142 rfl rfl ?_
                      refine zz_getr F dX9_many_143 wfRX9_10 zCl_8 rfl (⟨zlb rfl, zlb rfl, zlb rfl⟩) rfl (by decide) rfl (r' := 1) (by decide) ?_
                      refine zz_getr F dX9_many_146 wfRX9_84 zCl_3 rfl (⟨zlb rfl, zlb rfl, zlb rfl⟩) rfl (by decide) rfl (r' := 1) (by decide) ?_
                      refine zz_getf F dX9_many_149 wfRX9_291 zCl_2 rfl (⟨zlb rfl, zlb rfl, zlb rfl⟩) rfl (by decide) rfl rfl ?_
                      exact zz_ireturn F dX9_many_152 rfl (hκ _)
                    · refine zz_sw (c := a1 = 9) (fun hv => ?_) (fun hn9 => ?_)
                      · refine zz_tableIn F (tgt := 153) (off := 152) dX9_many_1 (by rw [zsw_at (k := 9) (a := 9) hv (by decide)]; decide) (by rw [zsw_at (k := 9) (a := 9) hv (by decide)]; decide) (by rw [zsw_at (k := 9) (a := 9) hv (by decide)]; rfl) (by decide) ?_
                        refine zz_aload_n F (i := 0) dX9_many_153 rfl rfl ?_
                        refine zz_getr F dX9_many_154 wfRX9_10 zCl_8 rfl (⟨zlb rfl, zlb rfl, zlb rfl⟩) rfl (by decide) rfl (r' := 1) (by decide) ?_
                        refine zz_getr F dX9_many_157 wfRX9_84 zCl_3 rfl (⟨zlb rfl, zlb rfl, zlb rfl⟩) rfl (by decide) rfl (r' := 1) (by decide) ?_
                        refine zz_getf F dX9_many_160 wfRX9_294 zCl_2 rfl (⟨zlb rfl, zlb rfl, zlb rfl⟩) rfl (by decide) rfl rfl ?_
                        exact zz_ireturn F dX9_many_163 rfl (hκ _)
                      · refine zz_sw (c := a1 = 10) (fun hv => ?_) (fun hn10 => ?_)
                        · refine zz_tableIn F (tgt := 164) (off := 163) dX9_many_1 (by rw [zsw_at (k := 10) (a := 10) hv (by decide)]; decide) (by rw [zsw_at (k := 10) (a := 10) hv (by decide)]; decide) (by rw [zsw_at (k := 10) (a := 10) hv (by decide)]; rfl) (by decide) ?_
                          refine zz_aload_n F (i := 0) dX9_many_164 rfl rfl ?_
                          refine zz_getr F dX9_many_165 wfRX9_10 zCl_8 rfl (⟨zlb rfl, zlb rfl, zlb rfl⟩) rfl (by decide) rfl (r' := 1) (by decide) ?_
                          refine zz_getr F dX9_many_168 wfRX9_84 zCl_3 rfl (⟨zlb rfl, zlb rfl, zlb rfl⟩) rfl (by decide) rfl (r' := 1) (by decide) ?_
                          refine zz_bind ?_
                          refine zz_callVr F (ρ := [1]) (so := fun q4 => [zi q4]) (Mo := fun q4 => [s0, s1, s2, s3]) (zfLe_nominatedCount s1) dX9_many_171 wcRX9_94 wy_yX2_nominatedCount rfl ⟨rel1, rfl, rfl, Nat.le_of_ble_eq_true rfl, Nat.le_of_ble_eq_true rfl, Nat.le_of_ble_eq_true rfl⟩ (⟨zlb rfl, zlb rfl, zlb rfl⟩) rfl rfl rfl (fun _ => rfl) (fun _ => rfl) fun q4 => ?_
                          exact zz_ireturn F dX9_many_174 rfl (hκ _)
                        · refine zz_sw (c := a1 = 11) (fun hv => ?_) (fun hn11 => ?_)
                          · refine zz_tableIn F (tgt := 175) (off := 174) dX9_many_1 (by rw [zsw_at (k := 11) (a := 11) hv (by decide)]; decide) (by rw [zsw_at (k := 11) (a := 11) hv (by decide)]; decide) (by rw [zsw_at (k := 11) (a := 11) hv (by decide)]; rfl) (by decide) ?_
                            refine zz_aload_n F (i := 0) dX9_many_175 rfl rfl ?_
                            refine zz_getr F dX9_many_176 wfRX9_10 zCl_8 rfl (⟨zlb rfl, zlb rfl, zlb rfl⟩) rfl (by decide) rfl (r' := 1) (by decide) ?_
                            refine zz_getf F dX9_many_179 wfRX9_297 zCl_3 rfl (⟨zlb rfl, zlb rfl, zlb rfl⟩) rfl (by decide) rfl rfl ?_
                            exact zz_ireturn F dX9_many_182 rfl (hκ _)
                          · refine zz_sw (c := a1 = 12) (fun hv => ?_) (fun hn12 => ?_)
                            · refine zz_tableIn F (tgt := 183) (off := 182) dX9_many_1 (by rw [zsw_at (k := 12) (a := 12) hv (by decide)]; decide) (by rw [zsw_at (k := 12) (a := 12) hv (by decide)]; decide) (by rw [zsw_at (k := 12) (a := 12) hv (by decide)]; rfl) (by decide) ?_
                              refine zz_aload_n F (i := 0) dX9_many_183 rfl rfl ?_
                              refine zz_getr F dX9_many_184 wfRX9_10 zCl_8 rfl (⟨zlb rfl, zlb rfl, zlb rfl⟩) rfl (by decide) rfl (r' := 1) (by decide) ?_
                              refine zz_bind ?_
                              refine zz_callVr F (ρ := [1]) (so := fun q5 => [zi q5]) (Mo := fun q5 => [s0, s1, s2, s3]) (zfSe_cycles s1) dX9_many_187 wcRX9_300 wy_yX3_cycles rfl ⟨rel1, rfl, rfl, Nat.le_of_ble_eq_true rfl, Nat.le_of_ble_eq_true rfl, Nat.le_of_ble_eq_true rfl⟩ (⟨zlb rfl, zlb rfl, zlb rfl⟩) rfl rfl rfl (fun _ => rfl) (fun _ => rfl) fun q5 => ?_
                              exact zz_ireturn F dX9_many_190 rfl (hκ _)
                            · have hv : a1 = 13 := zsw_eq (a := 13) (by decide) (by have h1 := zsw_in (lw := 0) (hi := 13) (a := 0) (b := 13) (by decide) (by decide) h; have e0 := zsw_ne (a := 0) (by decide) hn0; have e1 := zsw_ne (a := 1) (by decide) hn1; have e2 := zsw_ne (a := 2) (by decide) hn2; have e3 := zsw_ne (a := 3) (by decide) hn3; have e4 := zsw_ne (a := 4) (by decide) hn4; have e5 := zsw_ne (a := 5) (by decide) hn5; have e6 := zsw_ne (a := 6) (by decide) hn6; have e7 := zsw_ne (a := 7) (by decide) hn7; have e8 := zsw_ne (a := 8) (by decide) hn8; have e9 := zsw_ne (a := 9) (by decide) hn9; have e10 := zsw_ne (a := 10) (by decide) hn10; have e11 := zsw_ne (a := 11) (by decide) hn11; have e12 := zsw_ne (a := 12) (by decide) hn12; omega)
                              refine zz_tableIn F (tgt := 191) (off := 190) dX9_many_1 (by rw [zsw_at (k := 13) (a := 13) hv (by decide)]; decide) (by rw [zsw_at (k := 13) (a := 13) hv (by decide)]; decide) (by rw [zsw_at (k := 13) (a := 13) hv (by decide)]; rfl) (by decide) ?_
                              refine zz_aload_n F (i := 0) dX9_many_191 rfl rfl ?_
                              refine zz_getr F dX9_many_192 wfRX9_10 zCl_8 rfl (⟨zlb rfl, zlb rfl, zlb rfl⟩) rfl (by decide) rfl (r' := 1) (by decide) ?_
                              refine zz_getr F dX9_many_195 wfRX9_84 zCl_3 rfl (⟨zlb rfl, zlb rfl, zlb rfl⟩) rfl (by decide) rfl (r' := 1) (by decide) ?_
                              refine zz_getf F dX9_many_198 wfRX9_303 zCl_2 rfl (⟨zlb rfl, zlb rfl, zlb rfl⟩) rfl (by decide) rfl rfl ?_
                              exact zz_ireturn F dX9_many_201 rfl (hκ _)
theorem zfWB_many (a1 : Int32)  (s0 : zM) (s1 : zM) (s2 : zM) (s3 : zM) : ∀ a, fWB_many a1 s0 s1 s2 s3 = some a → zMet yX9_many cX9_many 2 (some .int) 6 90 [(2, [1, 2, 3]), (0, []), (0, []), (1, [])] [zr 0 0 0, zi a1] [s0, s1, s2, s3] ((zts (fun q => some (zi q)) (fun _ => [s0, s1, s2, s3]) (fun b => b) (fun _ => [s0, s1, s2, s3])) a) := fun a ha => zMet_of (L0 := [some (zr 0 0 0), some (zi a1)]) (φ := Option.bind (fWB_many a1 s0 s1 s2 s3) (fun a => some ((zts (fun q => some (zi q)) (fun _ => [s0, s1, s2, s3]) (fun b => b) (fun _ => [s0, s1, s2, s3])) a))) (by decide) (fun _ => Nat.le_of_ble_eq_true rfl) (zl0 0 rfl) (fun X F => bfWB_many F a1 s0 s1 s2 s3 (fun _ => rfl)) (by rw [ha]; rfl)
