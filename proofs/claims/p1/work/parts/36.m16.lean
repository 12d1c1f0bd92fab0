theorem dX11_ofTurbine_0 : decode cX11_ofTurbine 0 = .ok (.aload_n 0, 1) := by decide +kernel
theorem dX11_ofTurbine_1 : decode cX11_ofTurbine 1 = .ok (.iconst 0, 1) := by decide +kernel
theorem dX11_ofTurbine_2 : decode cX11_ofTurbine 2 = .ok (.putfield 16, 3) := by decide +kernel
theorem dX11_ofTurbine_5 : decode cX11_ofTurbine 5 = .ok (.aload_n 0, 1) := by decide +kernel
theorem dX11_ofTurbine_6 : decode cX11_ofTurbine 6 = .ok (.iload_n 1, 1) := by decide +kernel
theorem dX11_ofTurbine_7 : decode cX11_ofTurbine 7 = .ok (.invokevirtual 95, 3) := by decide +kernel
theorem dX11_ofTurbine_10 : decode cX11_ofTurbine 10 = .ok (.ifCond .ne 9, 3) := by decide +kernel
theorem dX11_ofTurbine_13 : decode cX11_ofTurbine 13 = .ok (.aload_n 0, 1) := by decide +kernel
theorem dX11_ofTurbine_14 : decode cX11_ofTurbine 14 = .ok (.iconst 1, 1) := by decide +kernel
theorem dX11_ofTurbine_15 : decode cX11_ofTurbine 15 = .ok (.invokevirtual 40, 3) := by decide +kernel
theorem dX11_ofTurbine_18 : decode cX11_ofTurbine 18 = .ok (.ireturn, 1) := by decide +kernel
theorem dX11_ofTurbine_19 : decode cX11_ofTurbine 19 = .ok (.iload_n 2, 1) := by decide +kernel
theorem dX11_ofTurbine_20 : decode cX11_ofTurbine 20 = .ok (.iconst 0, 1) := by decide +kernel
theorem dX11_ofTurbine_21 : decode cX11_ofTurbine 21 = .ok (.bipush 9, 2) := by decide +kernel
theorem dX11_ofTurbine_23 : decode cX11_ofTurbine 23 = .ok (.invokestatic 20, 3) := by decide +kernel
theorem dX11_ofTurbine_26 : decode cX11_ofTurbine 26 = .ok (.ifCond .ne 9, 3) := by decide +kernel
theorem dX11_ofTurbine_29 : decode cX11_ofTurbine 29 = .ok (.aload_n 0, 1) := by decide +kernel
theorem dX11_ofTurbine_30 : decode cX11_ofTurbine 30 = .ok (.iconst 2, 1) := by decide +kernel
theorem dX11_ofTurbine_31 : decode cX11_ofTurbine 31 = .ok (.invokevirtual 40, 3) := by decide +kernel
theorem dX11_ofTurbine_34 : decode cX11_ofTurbine 34 = .ok (.ireturn, 1) := by decide +kernel
theorem dX11_ofTurbine_35 : decode cX11_ofTurbine 35 = .ok (.aload_n 0, 1) := by decide +kernel
theorem dX11_ofTurbine_36 : decode cX11_ofTurbine 36 = .ok (.iload_n 1, 1) := by decide +kernel
theorem dX11_ofTurbine_37 : decode cX11_ofTurbine 37 = .ok (.iload_n 2, 1) := by decide +kernel
theorem dX11_ofTurbine_38 : decode cX11_ofTurbine 38 = .ok (.invokevirtual 123, 3) := by decide +kernel
theorem dX11_ofTurbine_41 : decode cX11_ofTurbine 41 = .ok (.ireturn, 1) := by decide +kernel
theorem wcRX11_123 : Cond.methodLink RX11 123 yX11_turbineNow ∈ zTg ∧ Cond.instanceMethod yX11_turbineNow ∈ zTg ∧ Cond.selects RX11 yX11_turbineNow yX11_turbineNow ∈ zTg ∧ Cond.initialized RX11 ∈ zTg ∧ Cond.code yX11_turbineNow cX11_turbineNow 4 (some .int) ∈ zTg := ⟨zm_f 1224 (by decide +kernel) rfl, zm_f 1226 (by decide +kernel) rfl, zm_f 31 (by decide +kernel) rfl, zm_f 46 (by decide +kernel) rfl, zm_f 1227 (by decide +kernel) rfl⟩
theorem wy_yX11_turbineNow : yX11_turbineNow.cls = RX11 ∧ yX11_turbineNow.cls ≠ "java/lang/invoke/MethodHandle" ∧ yX11_turbineNow.cls ≠ "java/lang/invoke/VarHandle" ∧ (parseMethodDescriptor yX11_turbineNow.desc).map (fun d => d.parameters.length) = some 2 := by decide +kernel
def fMO_ofTurbine (a1 : Int32) (a2 : Int32) (s0 : zM) (s1 : zM) : Option (Int32 × zM) :=
  zlet (zu s0 0 0 0 (0 : Int32)) fun s0_1 =>
  Option.bind (fMO_isTurbine a1 s0_1 s1) fun q2 =>
  if q2 = 0 then
  Option.bind (fMO_no (1 : Int32) s0_1 s1) fun q6 =>
    some (q6.1, q6.2)
else
  Option.bind (fMO_in a2 (0 : Int32) (9 : Int32)) fun q3 =>
    if q3 = 0 then
    Option.bind (fMO_no (2 : Int32) s0_1 s1) fun q5 =>
      some (q5.1, q5.2)
  else
    Option.bind (fMO_turbineNow a1 a2 s0_1 s1) fun q4 =>
      some (q4, s0_1)
set_option maxHeartbeats 4000000 in
set_option maxRecDepth 20000 in
theorem bfMO_ofTurbine {X : zX} (F : zFr X cX11_ofTurbine 3 RX11 (some .int)) (a1 : Int32) (a2 : Int32)  (s0 : zM) (s1 : zM) {κ : Int32 × zM → Option zO} (hκ : ∀ a, κ a = some ((fun a => ((.inl ((fun q => some (zi q.1)) a), (fun q => [q.2, s1]) a) : zO)) a)) : zZ X [(4, [1]), (3, [])] 5 124 3 0 [some (zr 0 0 0), some (zi a1), some (zi a2)] [] [s0, s1] (Option.bind (fMO_ofTurbine a1 a2 s0 s1) κ) := by
  unfold fMO_ofTurbine
  refine zz_aload_n F (i := 0) dX11_ofTurbine_0 rfl rfl ?_
  refine zz_iconst F (v := (0 : Int32)) dX11_ofTurbine_1 (by decide) ?_
  refine zz_put F (Ms' := [(zu s0 0 0 0 (0 : Int32)), s1]) dX11_ofTurbine_2 wpRX11_16 zCl_10 rfl (⟨zlb rfl, zlb rfl, zlb rfl⟩) rfl (by decide) rfl rfl rfl ?_
  refine zz_letm (Mf := fun s0_1 => [s0_1, s1]) fun s0_1 => ?_
  refine zz_aload_n F (i := 0) dX11_ofTurbine_5 rfl rfl ?_
  refine zz_iload_n F (i := 1) dX11_ofTurbine_6 rfl rfl ?_
  refine zz_bind ?_
  refine zz_callVr F (ρ := [0, 1]) (so := fun q2 => [zi q2]) (Mo := fun q2 => [s0_1, s1]) (zfMO_isTurbine a1 s0_1 s1) dX11_ofTurbine_7 wcRX11_95 wy_yX11_isTurbine rfl ⟨rel15, rfl, rfl, Nat.le_of_ble_eq_true rfl, Nat.le_of_ble_eq_true rfl, Nat.le_of_ble_eq_true rfl⟩ (⟨zlb rfl, zlb rfl, zlb rfl⟩) rfl rfl rfl (fun _ => rfl) (fun _ => rfl) fun q2 => ?_
  refine zz_if_ne F (tgt := 19) dX11_ofTurbine_10 (by decide) (fun h => zz_f h ?_) (fun h => zz_t h ?_)
  · refine zz_iload_n F (i := 2) dX11_ofTurbine_19 rfl rfl ?_
    refine zz_iconst F (v := (0 : Int32)) dX11_ofTurbine_20 (by decide) ?_
    refine zz_bipush F (v := (9 : Int32)) dX11_ofTurbine_21 (by decide) ?_
    refine zz_bind ?_
    refine zz_callSr F (ρ := []) (so := fun q3 => [zi q3]) (Mo := fun q3 => [s0_1, s1]) (zfMO_in a2 (0 : Int32) (9 : Int32)) dX11_ofTurbine_23 wcRX11_20 wy_yX11_in rfl ⟨rel14, rfl, rfl, Nat.le_of_ble_eq_true rfl, Nat.le_of_ble_eq_true rfl, Nat.le_of_ble_eq_true rfl⟩ rfl (fun _ => rfl) (fun _ => rfl) fun q3 => ?_
    refine zz_if_ne F (tgt := 35) dX11_ofTurbine_26 (by decide) (fun h => zz_f h ?_) (fun h => zz_t h ?_)
    · refine zz_aload_n F (i := 0) dX11_ofTurbine_35 rfl rfl ?_
      refine zz_iload_n F (i := 1) dX11_ofTurbine_36 rfl rfl ?_
      refine zz_iload_n F (i := 2) dX11_ofTurbine_37 rfl rfl ?_
      refine zz_bind ?_
      refine zz_callVr F (ρ := [0, 1]) (so := fun q4 => [zi q4]) (Mo := fun q4 => [s0_1, s1]) (zfMO_turbineNow a1 a2 s0_1 s1) dX11_ofTurbine_38 wcRX11_123 wy_yX11_turbineNow rfl ⟨rel15, rfl, rfl, Nat.le_of_ble_eq_true rfl, Nat.le_of_ble_eq_true rfl, Nat.le_of_ble_eq_true rfl⟩ (⟨zlb rfl, zlb rfl, zlb rfl⟩) rfl rfl rfl (fun _ => rfl) (fun _ => rfl) fun q4 => ?_
      exact zz_ireturn F dX11_ofTurbine_41 rfl (hκ _)
    · refine zz_aload_n F (i := 0) dX11_ofTurbine_29 rfl rfl ?_
      refine zz_iconst F (v := (2 : Int32)) dX11_ofTurbine_30 (by decide) ?_
      refine zz_bind ?_
      refine zz_callVr F (ρ := [0, 1]) (so := fun q5 => [zi q5.1]) (Mo := fun q5 => [q5.2, s1]) (zfMO_no (2 : Int32) s0_1 s1) dX11_ofTurbine_31 wcRX11_40 wy_yX11_no rfl ⟨rel15, rfl, rfl, Nat.le_of_ble_eq_true rfl, Nat.le_of_ble_eq_true rfl, Nat.le_of_ble_eq_true rfl⟩ (⟨zlb rfl, zlb rfl, zlb rfl⟩) rfl rfl rfl (fun _ => rfl) (fun _ => rfl) fun q5 => ?_
      exact zz_ireturn F dX11_ofTurbine_34 rfl (hκ _)
  · refine zz_aload_n F (i := 0) dX11_ofTurbine_13 rfl rfl ?_
    refine zz_iconst F (v := (1 : Int32)) dX11_ofTurbine_14 (by decide) ?_
    refine zz_bind ?_
    refine zz_callVr F (ρ := [0, 1]) (so := fun q6 => [zi q6.1]) (Mo := fun q6 => [q6.2, s1]) (zfMO_no (1 : Int32) s0_1 s1) dX11_ofTurbine_15 wcRX11_40 wy_yX11_no rfl ⟨rel15, rfl, rfl, Nat.le_of_ble_eq_true rfl, Nat.le_of_ble_eq_true rfl, Nat.le_of_ble_eq_true rfl⟩ (⟨zlb rfl, zlb rfl, zlb rfl⟩) rfl rfl rfl (fun _ => rfl) (fun _ => rfl) fun q6 => ?_
    exact zz_ireturn F dX11_ofTurbine_18 rfl (hκ _)
theorem zfMO_ofTurbine (a1 : Int32) (a2 : Int32)  (s0 : zM) (s1 : zM) : ∀ a, fMO_ofTurbine a1 a2 s0 s1 = some a → zMet yX11_ofTurbine cX11_ofTurbine 3 (some .int) 5 124 [(4, [1]), (3, [])] [zr 0 0 0, zi a1, zi a2] [s0, s1] ((fun a => ((.inl ((fun q => some (zi q.1)) a), (fun q => [q.2, s1]) a) : zO)) a) := fun a ha => zMet_of (L0 := [some (zr 0 0 0), some (zi a1), some (zi a2)]) (φ := Option.bind (fMO_ofTurbine a1 a2 s0 s1) (fun a => some ((fun a => ((.inl ((fun q => some (zi q.1)) a), (fun q => [q.2, s1]) a) : zO)) a))) (by decide) (fun _ => Nat.le_of_ble_eq_true rfl) (zl0 0 rfl) (fun X F => bfMO_ofTurbine F a1 a2 s0 s1 (fun _ => rfl)) (by rw [ha]; rfl)

theorem dX11_wear_0 : decode cX11_wear 0 = .ok (.aload_n 0, 1) := by decide +kernel
theorem dX11_wear_1 : decode cX11_wear 1 = .ok (.iconst 0, 1) := by decide +kernel
theorem dX11_wear_2 : decode cX11_wear 2 = .ok (.putfield 16, 3) := by decide +kernel
theorem dX11_wear_5 : decode cX11_wear 5 = .ok (.aload_n 0, 1) := by decide +kernel
theorem dX11_wear_6 : decode cX11_wear 6 = .ok (.iload_n 1, 1) := by decide +kernel
theorem dX11_wear_7 : decode cX11_wear 7 = .ok (.invokevirtual 95, 3) := by decide +kernel
theorem dX11_wear_10 : decode cX11_wear 10 = .ok (.ifCond .eq 12, 3) := by decide +kernel
theorem dX11_wear_13 : decode cX11_wear 13 = .ok (.iload_n 2, 1) := by decide +kernel
theorem dX11_wear_14 : decode cX11_wear 14 = .ok (.iconst 0, 1) := by decide +kernel
theorem dX11_wear_15 : decode cX11_wear 15 = .ok (.iconst 2, 1) := by decide +kernel
theorem dX11_wear_16 : decode cX11_wear 16 = .ok (.invokestatic 20, 3) := by decide +kernel
theorem dX11_wear_19 : decode cX11_wear 19 = .ok (.ifCond .ne 9, 3) := by decide +kernel
theorem dX11_wear_22 : decode cX11_wear 22 = .ok (.aload_n 0, 1) := by decide +kernel
theorem dX11_wear_23 : decode cX11_wear 23 = .ok (.iconst 1, 1) := by decide +kernel
theorem dX11_wear_24 : decode cX11_wear 24 = .ok (.invokevirtual 40, 3) := by decide +kernel
theorem dX11_wear_27 : decode cX11_wear 27 = .ok (.ireturn, 1) := by decide +kernel
theorem dX11_wear_28 : decode cX11_wear 28 = .ok (.aload_n 0, 1) := by decide +kernel
theorem dX11_wear_29 : decode cX11_wear 29 = .ok (.getfield 10, 3) := by decide +kernel
theorem dX11_wear_32 : decode cX11_wear 32 = .ok (.getfield 36, 3) := by decide +kernel
theorem dX11_wear_35 : decode cX11_wear 35 = .ok (.iload_n 1, 1) := by decide +kernel
theorem dX11_wear_36 : decode cX11_wear 36 = .ok (.aaload, 1) := by decide +kernel
theorem dX11_wear_37 : decode cX11_wear 37 = .ok (.bipush 11, 2) := by decide +kernel
theorem dX11_wear_39 : decode cX11_wear 39 = .ok (.iload_n 2, 1) := by decide +kernel
theorem dX11_wear_40 : decode cX11_wear 40 = .ok (.iadd, 1) := by decide +kernel
theorem dX11_wear_41 : decode cX11_wear 41 = .ok (.iaload, 1) := by decide +kernel
theorem dX11_wear_42 : decode cX11_wear 42 = .ok (.ireturn, 1) := by decide +kernel
def fMO_wear (a1 : Int32) (a2 : Int32) (s0 : zM) (s1 : zM) : Option (Int32 × zM) :=
  zlet (zu s0 0 0 0 (0 : Int32)) fun s0_1 =>
  Option.bind (fMO_isTurbine a1 s0_1 s1) fun q2 =>
  if q2 = 0 then
  Option.bind (fMO_no (1 : Int32) s0_1 s1) fun q3 =>
    some (q3.1, q3.2)
else
  Option.bind (fMO_in a2 (0 : Int32) (2 : Int32)) fun q4 =>
    if q4 = 0 then
    Option.bind (fMO_no (1 : Int32) s0_1 s1) fun q7 =>
      some (q7.1, q7.2)
  else
    zix a1 8 fun j5 =>
      zix ((11 : Int32) + a2) 23 fun j6 =>
      some ((s1 8 j5 j6), s0_1)
set_option maxHeartbeats 4000000 in
set_option maxRecDepth 20000 in
theorem bfMO_wear {X : zX} (F : zFr X cX11_wear 3 RX11 (some .int)) (a1 : Int32) (a2 : Int32)  (s0 : zM) (s1 : zM) {κ : Int32 × zM → Option zO} (hκ : ∀ a, κ a = some ((fun a => ((.inl ((fun q => some (zi q.1)) a), (fun q => [q.2, s1]) a) : zO)) a)) : zZ X [(4, [1]), (3, [])] 2 43 3 0 [some (zr 0 0 0), some (zi a1), some (zi a2)] [] [s0, s1] (Option.bind (fMO_wear a1 a2 s0 s1) κ) := by
  unfold fMO_wear
  refine zz_aload_n F (i := 0) dX11_wear_0 rfl rfl ?_
  refine zz_iconst F (v := (0 : Int32)) dX11_wear_1 (by decide) ?_
  refine zz_put F (Ms' := [(zu s0 0 0 0 (0 : Int32)), s1]) dX11_wear_2 wpRX11_16 zCl_10 rfl (⟨zlb rfl, zlb rfl, zlb rfl⟩) rfl (by decide) rfl rfl rfl ?_
  refine zz_letm (Mf := fun s0_1 => [s0_1, s1]) fun s0_1 => ?_
  refine zz_aload_n F (i := 0) dX11_wear_5 rfl rfl ?_
  refine zz_iload_n F (i := 1) dX11_wear_6 rfl rfl ?_
  refine zz_bind ?_
  refine zz_callVr F (ρ := [0, 1]) (so := fun q2 => [zi q2]) (Mo := fun q2 => [s0_1, s1]) (zfMO_isTurbine a1 s0_1 s1) dX11_wear_7 wcRX11_95 wy_yX11_isTurbine rfl ⟨rel15, rfl, rfl, Nat.le_of_ble_eq_true rfl, Nat.le_of_ble_eq_true rfl, Nat.le_of_ble_eq_true rfl⟩ (⟨zlb rfl, zlb rfl, zlb rfl⟩) rfl rfl rfl (fun _ => rfl) (fun _ => rfl) fun q2 => ?_
  refine zz_if_eq F (tgt := 22) dX11_wear_10 (by decide) (fun h => zz_t h ?_) (fun h => zz_f h ?_)
  · refine zz_aload_n F (i := 0) dX11_wear_22 rfl rfl ?_
    refine zz_iconst F (v := (1 : Int32)) dX11_wear_23 (by decide) ?_
    refine zz_bind ?_
    refine zz_callVr F (ρ := [0, 1]) (so := fun q3 => [zi q3.1]) (Mo := fun q3 => [q3.2, s1]) (zfMO_no (1 : Int32) s0_1 s1) dX11_wear_24 wcRX11_40 wy_yX11_no rfl ⟨rel15, rfl, rfl, Nat.le_of_ble_eq_true rfl, Nat.le_of_ble_eq_true rfl, Nat.le_of_ble_eq_true rfl⟩ (⟨zlb rfl, zlb rfl, zlb rfl⟩) rfl rfl rfl (fun _ => rfl) (fun _ => rfl) fun q3 => ?_
    exact zz_ireturn F dX11_wear_27 rfl (hκ _)
  · refine zz_iload_n F (i := 2) dX11_wear_13 rfl rfl ?_
    refine zz_iconst F (v := (0 : Int32)) dX11_wear_14 (by decide) ?_
    refine zz_iconst F (v := (2 : Int32)) dX11_wear_15 (by decide) ?_
    refine zz_bind ?_
    refine zz_callSr F (ρ := []) (so := fun q4 => [zi q4]) (Mo := fun q4 => [s0_1, s1]) (zfMO_in a2 (0 : Int32) (2 : Int32)) dX11_wear_16 wcRX11_20 wy_yX11_in rfl ⟨rel14, rfl, rfl, Nat.le_of_ble_eq_true rfl, Nat.le_of_ble_eq_true rfl, Nat.le_of_ble_eq_true rfl⟩ rfl (fun _ => rfl) (fun _ => rfl) fun q4 => ?_
    refine zz_if_ne F (tgt := 28) dX11_wear_19 (by decide) (fun h => zz_f h ?_) (fun h => zz_t h ?_)
    · refine zz_aload_n F (i := 0) dX11_wear_28 rfl rfl ?_
      refine zz_getr F dX11_wear_29 wfRX11_10 zCl_10 rfl (⟨zlb rfl, zlb rfl, zlb rfl⟩) rfl (by decide) rfl (r' := 1) (by decide) ?_
      refine zz_getr F dX11_wear_32 wfRX11_36 zCl_9 rfl (⟨zlb rfl, zlb rfl, zlb rfl⟩) rfl (by decide) rfl (r' := 1) (by decide) ?_
      refine zz_iload_n F (i := 1) dX11_wear_35 rfl rfl ?_
      refine zz_ix fun j5 hj5 hinj5 hej5 => zz_aal F dX11_wear_36 rfl (⟨zlb rfl, zlb rfl, zlb rfl⟩) rfl (by decide) rfl hinj5 hej5 rfl ?_
      refine zz_bipush F (v := (11 : Int32)) dX11_wear_37 (by decide) ?_
      refine zz_iload_n F (i := 2) dX11_wear_39 rfl rfl ?_
      refine zz_iadd F dX11_wear_40 ?_
      refine zz_ix fun j6 hj6 hinj6 hej6 => zz_ial F dX11_wear_41 rfl (⟨zlb rfl, zlb rfl, hj5⟩) rfl hinj6 hej6 ?_
      exact zz_ireturn F dX11_wear_42 rfl (hκ _)
    · refine zz_aload_n F (i := 0) dX11_wear_22 rfl rfl ?_
      refine zz_iconst F (v := (1 : Int32)) dX11_wear_23 (by decide) ?_
      refine zz_bind ?_
      refine zz_callVr F (ρ := [0, 1]) (so := fun q7 => [zi q7.1]) (Mo := fun q7 => [q7.2, s1]) (zfMO_no (1 : Int32) s0_1 s1) dX11_wear_24 wcRX11_40 wy_yX11_no rfl ⟨rel15, rfl, rfl, Nat.le_of_ble_eq_true rfl, Nat.le_of_ble_eq_true rfl, Nat.le_of_ble_eq_true rfl⟩ (⟨zlb rfl, zlb rfl, zlb rfl⟩) rfl rfl rfl (fun _ => rfl) (fun _ => rfl) fun q7 => ?_
      exact zz_ireturn F dX11_wear_27 rfl (hκ _)
theorem zfMO_wear (a1 : Int32) (a2 : Int32)  (s0 : zM) (s1 : zM) : ∀ a, fMO_wear a1 a2 s0 s1 = some a → zMet yX11_wear cX11_wear 3 (some .int) 2 43 [(4, [1]), (3, [])] [zr 0 0 0, zi a1, zi a2] [s0, s1] ((fun a => ((.inl ((fun q => some (zi q.1)) a), (fun q => [q.2, s1]) a) : zO)) a) := fun a ha => zMet_of (L0 := [some (zr 0 0 0), some (zi a1), some (zi a2)]) (φ := Option.bind (fMO_wear a1 a2 s0 s1) (fun a => some ((fun a => ((.inl ((fun q => some (zi q.1)) a), (fun q => [q.2, s1]) a) : zO)) a))) (by decide) (fun _ => Nat.le_of_ble_eq_true rfl) (zl0 0 rfl) (fun X F => bfMO_wear F a1 a2 s0 s1 (fun _ => rfl)) (by rw [ha]; rfl)

theorem dX11_lost_0 : decode cX11_lost 0 = .ok (.aload_n 0, 1) := by decide +kernel
theorem dX11_lost_1 : decode cX11_lost 1 = .ok (.iconst 0, 1) := by decide +kernel
theorem dX11_lost_2 : decode cX11_lost 2 = .ok (.putfield 16, 3) := by decide +kernel
theorem dX11_lost_5 : decode cX11_lost 5 = .ok (.aload_n 0, 1) := by decide +kernel
theorem dX11_lost_6 : decode cX11_lost 6 = .ok (.iload_n 1, 1) := by decide +kernel
theorem dX11_lost_7 : decode cX11_lost 7 = .ok (.invokevirtual 95, 3) := by decide +kernel
theorem dX11_lost_10 : decode cX11_lost 10 = .ok (.ifCond .eq 13, 3) := by decide +kernel
theorem dX11_lost_13 : decode cX11_lost 13 = .ok (.iload_n 2, 1) := by decide +kernel
theorem dX11_lost_14 : decode cX11_lost 14 = .ok (.iconst 0, 1) := by decide +kernel
theorem dX11_lost_15 : decode cX11_lost 15 = .ok (.bipush 7, 2) := by decide +kernel
theorem dX11_lost_17 : decode cX11_lost 17 = .ok (.invokestatic 20, 3) := by decide +kernel
theorem dX11_lost_20 : decode cX11_lost 20 = .ok (.ifCond .ne 9, 3) := by decide +kernel
theorem dX11_lost_23 : decode cX11_lost 23 = .ok (.aload_n 0, 1) := by decide +kernel
theorem dX11_lost_24 : decode cX11_lost 24 = .ok (.iconst 1, 1) := by decide +kernel
theorem dX11_lost_25 : decode cX11_lost 25 = .ok (.invokevirtual 40, 3) := by decide +kernel
theorem dX11_lost_28 : decode cX11_lost 28 = .ok (.ireturn, 1) := by decide +kernel
theorem dX11_lost_29 : decode cX11_lost 29 = .ok (.aload_n 0, 1) := by decide +kernel
theorem dX11_lost_30 : decode cX11_lost 30 = .ok (.getfield 10, 3) := by decide +kernel
theorem dX11_lost_33 : decode cX11_lost 33 = .ok (.getfield 36, 3) := by decide +kernel
theorem dX11_lost_36 : decode cX11_lost 36 = .ok (.iload_n 1, 1) := by decide +kernel
theorem dX11_lost_37 : decode cX11_lost 37 = .ok (.aaload, 1) := by decide +kernel
theorem dX11_lost_38 : decode cX11_lost 38 = .ok (.bipush 14, 2) := by decide +kernel
theorem dX11_lost_40 : decode cX11_lost 40 = .ok (.iload_n 2, 1) := by decide +kernel
theorem dX11_lost_41 : decode cX11_lost 41 = .ok (.iadd, 1) := by decide +kernel
theorem dX11_lost_42 : decode cX11_lost 42 = .ok (.iaload, 1) := by decide +kernel
theorem dX11_lost_43 : decode cX11_lost 43 = .ok (.ireturn, 1) := by decide +kernel
def fMO_lost (a1 : Int32) (a2 : Int32) (s0 : zM) (s1 : zM) : Option (Int32 × zM) :=
  zlet (zu s0 0 0 0 (0 : Int32)) fun s0_1 =>
  Option.bind (fMO_isTurbine a1 s0_1 s1) fun q2 =>
  if q2 = 0 then
  Option.bind (fMO_no (1 : Int32) s0_1 s1) fun q3 =>
    some (q3.1, q3.2)
else
  Option.bind (fMO_in a2 (0 : Int32) (7 : Int32)) fun q4 =>
    if q4 = 0 then
    Option.bind (fMO_no (1 : Int32) s0_1 s1) fun q7 =>
      some (q7.1, q7.2)
  else
    zix a1 8 fun j5 =>
      zix ((14 : Int32) + a2) 23 fun j6 =>
      some ((s1 8 j5 j6), s0_1)
set_option maxHeartbeats 4000000 in
set_option maxRecDepth 20000 in
theorem bfMO_lost {X : zX} (F : zFr X cX11_lost 3 RX11 (some .int)) (a1 : Int32) (a2 : Int32)  (s0 : zM) (s1 : zM) {κ : Int32 × zM → Option zO} (hκ : ∀ a, κ a = some ((fun a => ((.inl ((fun q => some (zi q.1)) a), (fun q => [q.2, s1]) a) : zO)) a)) : zZ X [(4, [1]), (3, [])] 2 43 3 0 [some (zr 0 0 0), some (zi a1), some (zi a2)] [] [s0, s1] (Option.bind (fMO_lost a1 a2 s0 s1) κ) := by
  unfold fMO_lost
  refine zz_aload_n F (i := 0) dX11_lost_0 rfl rfl ?_
  refine zz_iconst F (v := (0 : Int32)) dX11_lost_1 (by decide) ?_
  refine zz_put F (Ms' := [(zu s0 0 0 0 (0 : Int32)), s1]) dX11_lost_2 wpRX11_16 zCl_10 rfl (⟨zlb rfl, zlb rfl, zlb rfl⟩) rfl (by decide) rfl rfl rfl ?_
  refine zz_letm (Mf := fun s0_1 => [s0_1, s1]) fun s0_1 => ?_
  refine zz_aload_n F (i := 0) dX11_lost_5 rfl rfl ?_
  refine zz_iload_n F (i := 1) dX11_lost_6 rfl rfl ?_
  refine zz_bind ?_
  refine zz_callVr F (ρ := [0, 1]) (so := fun q2 => [zi q2]) (Mo := fun q2 => [s0_1, s1]) (zfMO_isTurbine a1 s0_1 s1) dX11_lost_7 wcRX11_95 wy_yX11_isTurbine rfl ⟨rel15, rfl, rfl, Nat.le_of_ble_eq_true rfl, Nat.le_of_ble_eq_true rfl, Nat.le_of_ble_eq_true rfl⟩ (⟨zlb rfl, zlb rfl, zlb rfl⟩) rfl rfl rfl (fun _ => rfl) (fun _ => rfl) fun q2 => ?_
  refine zz_if_eq F (tgt := 23) dX11_lost_10 (by decide) (fun h => zz_t h ?_) (fun h => zz_f h ?_)
  · refine zz_aload_n F (i := 0) dX11_lost_23 rfl rfl ?_
    refine zz_iconst F (v := (1 : Int32)) dX11_lost_24 (by decide) ?_
    refine zz_bind ?_
    refine zz_callVr F (ρ := [0, 1]) (so := fun q3 => [zi q3.1]) (Mo := fun q3 => [q3.2, s1]) (zfMO_no (1 : Int32) s0_1 s1) dX11_lost_25 wcRX11_40 wy_yX11_no rfl ⟨rel15, rfl, rfl, Nat.le_of_ble_eq_true rfl, Nat.le_of_ble_eq_true rfl, Nat.le_of_ble_eq_true rfl⟩ (⟨zlb rfl, zlb rfl, zlb rfl⟩) rfl rfl rfl (fun _ => rfl) (fun _ => rfl) fun q3 => ?_
    exact zz_ireturn F dX11_lost_28 rfl (hκ _)
  · refine zz_iload_n F (i := 2) dX11_lost_13 rfl rfl ?_
    refine zz_iconst F (v := (0 : Int32)) dX11_lost_14 (by decide) ?_
    refine zz_bipush F (v := (7 : Int32)) dX11_lost_15 (by decide) ?_
    refine zz_bind ?_
    refine zz_callSr F (ρ := []) (so := fun q4 => [zi q4]) (Mo := fun q4 => [s0_1, s1]) (zfMO_in a2 (0 : Int32) (7 : Int32)) dX11_lost_17 wcRX11_20 wy_yX11_in rfl ⟨rel14, rfl, rfl, Nat.le_of_ble_eq_true rfl, Nat.le_of_ble_eq_true rfl, Nat.le_of_ble_eq_true rfl⟩ rfl (fun _ => rfl) (fun _ => rfl) fun q4 => ?_
    refine zz_if_ne F (tgt := 29) dX11_lost_20 (by decide) (fun h => zz_f h ?_) (fun h => zz_t h ?_)
    · refine zz_aload_n F (i := 0) dX11_lost_29 rfl rfl ?_
      refine zz_getr F dX11_lost_30 wfRX11_10 zCl_10 rfl (⟨zlb rfl, zlb rfl, zlb rfl⟩) rfl (by decide) rfl (r' := 1) (by decide) ?_
      refine zz_getr F dX11_lost_33 wfRX11_36 zCl_9 rfl (⟨zlb rfl, zlb rfl, zlb rfl⟩) rfl (by decide) rfl (r' := 1) (by decide) ?_
      refine zz_iload_n F (i := 1) dX11_lost_36 rfl rfl ?_
      refine zz_ix fun j5 hj5 hinj5 hej5 => zz_aal F dX11_lost_37 rfl (⟨zlb rfl, zlb rfl, zlb rfl⟩) rfl (by decide) rfl hinj5 hej5 rfl ?_
      refine zz_bipush F (v := (14 : Int32)) dX11_lost_38 (by decide) ?_
      refine zz_iload_n F (i := 2) dX11_lost_40 rfl rfl ?_
      refine zz_iadd F dX11_lost_41 ?_
      refine zz_ix fun j6 hj6 hinj6 hej6 => zz_ial F dX11_lost_42 rfl (⟨zlb rfl, zlb rfl, hj5⟩) rfl hinj6 hej6 ?_
      exact zz_ireturn F dX11_lost_43 rfl (hκ _)
    · refine zz_aload_n F (i := 0) dX11_lost_23 rfl rfl ?_
      refine zz_iconst F (v := (1 : Int32)) dX11_lost_24 (by decide) ?_
      refine zz_bind ?_
      refine zz_callVr F (ρ := [0, 1]) (so := fun q7 => [zi q7.1]) (Mo := fun q7 => [q7.2, s1]) (zfMO_no (1 : Int32) s0_1 s1) dX11_lost_25 wcRX11_40 wy_yX11_no rfl ⟨rel15, rfl, rfl, Nat.le_of_ble_eq_true rfl, Nat.le_of_ble_eq_true rfl, Nat.le_of_ble_eq_true rfl⟩ (⟨zlb rfl, zlb rfl, zlb rfl⟩) rfl rfl rfl (fun _ => rfl) (fun _ => rfl) fun q7 => ?_
      exact zz_ireturn F dX11_lost_28 rfl (hκ _)
theorem zfMO_lost (a1 : Int32) (a2 : Int32)  (s0 : zM) (s1 : zM) : ∀ a, fMO_lost a1 a2 s0 s1 = some a → zMet yX11_lost cX11_lost 3 (some .int) 2 43 [(4, [1]), (3, [])] [zr 0 0 0, zi a1, zi a2] [s0, s1] ((fun a => ((.inl ((fun q => some (zi q.1)) a), (fun q => [q.2, s1]) a) : zO)) a) := fun a ha => zMet_of (L0 := [some (zr 0 0 0), some (zi a1), some (zi a2)]) (φ := Option.bind (fMO_lost a1 a2 s0 s1) (fun a => some ((fun a => ((.inl ((fun q => some (zi q.1)) a), (fun q => [q.2, s1]) a) : zO)) a))) (by decide) (fun _ => Nat.le_of_ble_eq_true rfl) (zl0 0 rfl) (fun X F => bfMO_lost F a1 a2 s0 s1 (fun _ => rfl)) (by rw [ha]; rfl)

theorem dX11_wake_0 : decode cX11_wake 0 = .ok (.aload_n 0, 1) := by decide +kernel
theorem dX11_wake_1 : decode cX11_wake 1 = .ok (.iconst 0, 1) := by decide +kernel
theorem dX11_wake_2 : decode cX11_wake 2 = .ok (.putfield 16, 3) := by decide +kernel
theorem dX11_wake_5 : decode cX11_wake 5 = .ok (.aload_n 0, 1) := by decide +kernel
theorem dX11_wake_6 : decode cX11_wake 6 = .ok (.iload_n 1, 1) := by decide +kernel
theorem dX11_wake_7 : decode cX11_wake 7 = .ok (.invokevirtual 95, 3) := by decide +kernel
theorem dX11_wake_10 : decode cX11_wake 10 = .ok (.ifCond .eq 11, 3) := by decide +kernel
theorem dX11_wake_13 : decode cX11_wake 13 = .ok (.aload_n 0, 1) := by decide +kernel
theorem dX11_wake_14 : decode cX11_wake 14 = .ok (.iload_n 2, 1) := by decide +kernel
theorem dX11_wake_15 : decode cX11_wake 15 = .ok (.invokevirtual 95, 3) := by decide +kernel
theorem dX11_wake_18 : decode cX11_wake 18 = .ok (.ifCond .ne 9, 3) := by decide +kernel
theorem dX11_wake_21 : decode cX11_wake 21 = .ok (.aload_n 0, 1) := by decide +kernel
theorem dX11_wake_22 : decode cX11_wake 22 = .ok (.iconst 1, 1) := by decide +kernel
theorem dX11_wake_23 : decode cX11_wake 23 = .ok (.invokevirtual 40, 3) := by decide +kernel
theorem dX11_wake_26 : decode cX11_wake 26 = .ok (.ireturn, 1) := by decide +kernel
theorem dX11_wake_27 : decode cX11_wake 27 = .ok (.aload_n 0, 1) := by decide +kernel
theorem dX11_wake_28 : decode cX11_wake 28 = .ok (.getfield 10, 3) := by decide +kernel
theorem dX11_wake_31 : decode cX11_wake 31 = .ok (.iload_n 1, 1) := by decide +kernel
theorem dX11_wake_32 : decode cX11_wake 32 = .ok (.iload_n 2, 1) := by decide +kernel
theorem dX11_wake_33 : decode cX11_wake 33 = .ok (.invokevirtual 126, 3) := by decide +kernel
theorem dX11_wake_36 : decode cX11_wake 36 = .ok (.ireturn, 1) := by decide +kernel
theorem wcRX11_126 : Cond.methodLink RX11 126 yX10_wake ∈ zTg ∧ Cond.instanceMethod yX10_wake ∈ zTg ∧ Cond.selects RX10 yX10_wake yX10_wake ∈ zTg ∧ Cond.initialized RX10 ∈ zTg ∧ Cond.code yX10_wake cX10_wake 5 (some .int) ∈ zTg := ⟨zm_f 1242 (by decide +kernel) rfl, zm_f 1131 (by decide +kernel) rfl, zm_f 1132 (by decide +kernel) rfl, zm_f 47 (by decide +kernel) rfl, zm_f 1133 (by decide +kernel) rfl⟩
def fMO_wake (a1 : Int32) (a2 : Int32) (s0 : zM) (s1 : zM) : Option (Int32 × zM) :=
  zlet (zu s0 0 0 0 (0 : Int32)) fun s0_1 =>
  Option.bind (fMO_isTurbine a1 s0_1 s1) fun q2 =>
  if q2 = 0 then
  Option.bind (fMO_no (1 : Int32) s0_1 s1) fun q3 =>
    some (q3.1, q3.2)
else
  Option.bind (fMO_isTurbine a2 s0_1 s1) fun q4 =>
    if q4 = 0 then
    Option.bind (fMO_no (1 : Int32) s0_1 s1) fun q6 =>
      some (q6.1, q6.2)
  else
    Option.bind (fMS_wake a1 a2 s1) fun q5 =>
      some (q5, s0_1)
set_option maxHeartbeats 4000000 in
set_option maxRecDepth 20000 in
theorem bfMO_wake {X : zX} (F : zFr X cX11_wake 3 RX11 (some .int)) (a1 : Int32) (a2 : Int32)  (s0 : zM) (s1 : zM) {κ : Int32 × zM → Option zO} (hκ : ∀ a, κ a = some ((fun a => ((.inl ((fun q => some (zi q.1)) a), (fun q => [q.2, s1]) a) : zO)) a)) : zZ X [(4, [1]), (3, [])] 3 76 3 0 [some (zr 0 0 0), some (zi a1), some (zi a2)] [] [s0, s1] (Option.bind (fMO_wake a1 a2 s0 s1) κ) := by
  unfold fMO_wake
  refine zz_aload_n F (i := 0) dX11_wake_0 rfl rfl ?_
  refine zz_iconst F (v := (0 : Int32)) dX11_wake_1 (by decide) ?_
  refine zz_put F (Ms' := [(zu s0 0 0 0 (0 : Int32)), s1]) dX11_wake_2 wpRX11_16 zCl_10 rfl (⟨zlb rfl, zlb rfl, zlb rfl⟩) rfl (by decide) rfl rfl rfl ?_
  refine zz_letm (Mf := fun s0_1 => [s0_1, s1]) fun s0_1 => ?_
  refine zz_aload_n F (i := 0) dX11_wake_5 rfl rfl ?_
  refine zz_iload_n F (i := 1) dX11_wake_6 rfl rfl ?_
  refine zz_bind ?_
  refine zz_callVr F (ρ := [0, 1]) (so := fun q2 => [zi q2]) (Mo := fun q2 => [s0_1, s1]) (zfMO_isTurbine a1 s0_1 s1) dX11_wake_7 wcRX11_95 wy_yX11_isTurbine rfl ⟨rel15, rfl, rfl, Nat.le_of_ble_eq_true rfl, Nat.le_of_ble_eq_true rfl, Nat.le_of_ble_eq_true rfl⟩ (⟨zlb rfl, zlb rfl, zlb rfl⟩) rfl rfl rfl (fun _ => rfl) (fun _ => rfl) fun q2 => ?_
  refine zz_if_eq F (tgt := 21) dX11_wake_10 (by decide) (fun h => zz_t h ?_) (fun h => zz_f h ?_)
  · refine zz_aload_n F (i := 0) dX11_wake_21 rfl rfl ?_
    refine zz_iconst F (v := (1 : Int32)) dX11_wake_22 (by decide) ?_
    refine zz_bind ?_
    refine zz_callVr F (ρ := [0, 1]) (so := fun q3 => [zi q3.1]) (Mo := fun q3 => [q3.2, s1]) (zfMO_no (1 : Int32) s0_1 s1) dX11_wake_23 wcRX11_40 wy_yX11_no rfl ⟨rel15, rfl, rfl, Nat.le_of_ble_eq_true rfl, Nat.le_of_ble_eq_true rfl, Nat.le_of_ble_eq_true rfl⟩ (⟨zlb rfl, zlb rfl, zlb rfl⟩) rfl rfl rfl (fun _ => rfl) (fun _ => rfl) fun q3 => ?_
    exact zz_ireturn F dX11_wake_26 rfl (hκ _)
  · refine zz_aload_n F (i := 0) dX11_wake_13 rfl rfl ?_
    refine zz_iload_n F (i := 2) dX11_wake_14 rfl rfl ?_
    refine zz_bind ?_
    refine zz_callVr F (ρ := [0, 1]) (so := fun q4 => [zi q4]) (Mo := fun q4 => [s0_1, s1]) (zfMO_isTurbine a2 s0_1 s1) dX11_wake_15 wcRX11_95 wy_yX11_isTurbine rfl ⟨rel15, rfl, rfl, Nat.le_of_ble_eq_true rfl, Nat.le_of_ble_eq_true rfl, Nat.le_of_ble_eq_true rfl⟩ (⟨zlb rfl, zlb rfl, zlb rfl⟩) rfl rfl rfl (fun _ => rfl) (fun _ => rfl) fun q4 => ?_
    refine zz_if_ne F (tgt := 27) dX11_wake_18 (by decide) (fun h => zz_f h ?_) (fun h => zz_t h ?_)
    · refine zz_aload_n F (i := 0) dX11_wake_27 rfl rfl ?_
      refine zz_getr F dX11_wake_28 wfRX11_10 zCl_10 rfl (⟨zlb rfl, zlb rfl, zlb rfl⟩) rfl (by decide) rfl (r' := 1) (by decide) ?_
      refine zz_iload_n F (i := 1) dX11_wake_31 rfl rfl ?_
      refine zz_iload_n F (i := 2) dX11_wake_32 rfl rfl ?_
      refine zz_bind ?_
      refine zz_callVr F (ρ := [1]) (so := fun q5 => [zi q5]) (Mo := fun q5 => [s0_1, s1]) (zfMS_wake a1 a2 s1) dX11_wake_33 wcRX11_126 wy_yX10_wake rfl ⟨rel16, rfl, rfl, Nat.le_of_ble_eq_true rfl, Nat.le_of_ble_eq_true rfl, Nat.le_of_ble_eq_true rfl⟩ (⟨zlb rfl, zlb rfl, zlb rfl⟩) rfl rfl rfl (fun _ => rfl) (fun _ => rfl) fun q5 => ?_
      exact zz_ireturn F dX11_wake_36 rfl (hκ _)
    · refine zz_aload_n F (i := 0) dX11_wake_21 rfl rfl ?_
      refine zz_iconst F (v := (1 : Int32)) dX11_wake_22 (by decide) ?_
      refine zz_bind ?_
      refine zz_callVr F (ρ := [0, 1]) (so := fun q6 => [zi q6.1]) (Mo := fun q6 => [q6.2, s1]) (zfMO_no (1 : Int32) s0_1 s1) dX11_wake_23 wcRX11_40 wy_yX11_no rfl ⟨rel15, rfl, rfl, Nat.le_of_ble_eq_true rfl, Nat.le_of_ble_eq_true rfl, Nat.le_of_ble_eq_true rfl⟩ (⟨zlb rfl, zlb rfl, zlb rfl⟩) rfl rfl rfl (fun _ => rfl) (fun _ => rfl) fun q6 => ?_
      exact zz_ireturn F dX11_wake_26 rfl (hκ _)
theorem zfMO_wake (a1 : Int32) (a2 : Int32)  (s0 : zM) (s1 : zM) : ∀ a, fMO_wake a1 a2 s0 s1 = some a → zMet yX11_wake cX11_wake 3 (some .int) 3 76 [(4, [1]), (3, [])] [zr 0 0 0, zi a1, zi a2] [s0, s1] ((fun a => ((.inl ((fun q => some (zi q.1)) a), (fun q => [q.2, s1]) a) : zO)) a) := fun a ha => zMet_of (L0 := [some (zr 0 0 0), some (zi a1), some (zi a2)]) (φ := Option.bind (fMO_wake a1 a2 s0 s1) (fun a => some ((fun a => ((.inl ((fun q => some (zi q.1)) a), (fun q => [q.2, s1]) a) : zO)) a))) (by decide) (fun _ => Nat.le_of_ble_eq_true rfl) (zl0 0 rfl) (fun X F => bfMO_wake F a1 a2 s0 s1 (fun _ => rfl)) (by rw [ha]; rfl)

theorem dX11_extreme_0 : decode cX11_extreme 0 = .ok (.aload_n 0, 1) := by decide +kernel
theorem dX11_extreme_1 : decode cX11_extreme 1 = .ok (.iconst 0, 1) := by decide +kernel
theorem dX11_extreme_2 : decode cX11_extreme 2 = .ok (.putfield 16, 3) := by decide +kernel
theorem dX11_extreme_5 : decode cX11_extreme 5 = .ok (.aload_n 0, 1) := by decide +kernel
theorem dX11_extreme_6 : decode cX11_extreme 6 = .ok (.iload_n 1, 1) := by decide +kernel
theorem dX11_extreme_7 : decode cX11_extreme 7 = .ok (.invokevirtual 95, 3) := by decide +kernel
theorem dX11_extreme_10 : decode cX11_extreme 10 = .ok (.ifCond .eq 25, 3) := by decide +kernel
theorem dX11_extreme_13 : decode cX11_extreme 13 = .ok (.iload_n 2, 1) := by decide +kernel
theorem dX11_extreme_14 : decode cX11_extreme 14 = .ok (.iconst 0, 1) := by decide +kernel
theorem dX11_extreme_15 : decode cX11_extreme 15 = .ok (.aload_n 0, 1) := by decide +kernel
theorem dX11_extreme_16 : decode cX11_extreme 16 = .ok (.getfield 10, 3) := by decide +kernel
theorem dX11_extreme_19 : decode cX11_extreme 19 = .ok (.getfield 116, 3) := by decide +kernel
theorem dX11_extreme_22 : decode cX11_extreme 22 = .ok (.iload_n 1, 1) := by decide +kernel
theorem dX11_extreme_23 : decode cX11_extreme 23 = .ok (.aaload, 1) := by decide +kernel
theorem dX11_extreme_24 : decode cX11_extreme 24 = .ok (.invokestatic 119, 3) := by decide +kernel
theorem dX11_extreme_27 : decode cX11_extreme 27 = .ok (.iconst 1, 1) := by decide +kernel
theorem dX11_extreme_28 : decode cX11_extreme 28 = .ok (.isub, 1) := by decide +kernel
theorem dX11_extreme_29 : decode cX11_extreme 29 = .ok (.invokestatic 20, 3) := by decide +kernel
theorem dX11_extreme_32 : decode cX11_extreme 32 = .ok (.ifCond .ne 9, 3) := by decide +kernel
theorem dX11_extreme_35 : decode cX11_extreme 35 = .ok (.aload_n 0, 1) := by decide +kernel
theorem dX11_extreme_36 : decode cX11_extreme 36 = .ok (.iconst 1, 1) := by decide +kernel
theorem dX11_extreme_37 : decode cX11_extreme 37 = .ok (.invokevirtual 40, 3) := by decide +kernel
theorem dX11_extreme_40 : decode cX11_extreme 40 = .ok (.ireturn, 1) := by decide +kernel
theorem dX11_extreme_41 : decode cX11_extreme 41 = .ok (.aload_n 0, 1) := by decide +kernel
theorem dX11_extreme_42 : decode cX11_extreme 42 = .ok (.getfield 10, 3) := by decide +kernel
theorem dX11_extreme_45 : decode cX11_extreme 45 = .ok (.getfield 116, 3) := by decide +kernel
theorem dX11_extreme_48 : decode cX11_extreme 48 = .ok (.iload_n 1, 1) := by decide +kernel
theorem dX11_extreme_49 : decode cX11_extreme 49 = .ok (.aaload, 1) := by decide +kernel
theorem dX11_extreme_50 : decode cX11_extreme 50 = .ok (.iload_n 2, 1) := by decide +kernel
theorem dX11_extreme_51 : decode cX11_extreme 51 = .ok (.iaload, 1) := by decide +kernel
theorem dX11_extreme_52 : decode cX11_extreme 52 = .ok (.iconst 1, 1) := by decide +kernel
theorem dX11_extreme_53 : decode cX11_extreme 53 = .ok (.isub, 1) := by decide +kernel
theorem dX11_extreme_54 : decode cX11_extreme 54 = .ok (.ireturn, 1) := by decide +kernel
def fMO_extreme (a1 : Int32) (a2 : Int32) (s0 : zM) (s1 : zM) : Option (Int32 × zM) :=
  zlet (zu s0 0 0 0 (0 : Int32)) fun s0_1 =>
  Option.bind (fMO_isTurbine a1 s0_1 s1) fun q2 =>
  if q2 = 0 then
  Option.bind (fMO_no (1 : Int32) s0_1 s1) fun q3 =>
    some (q3.1, q3.2)
else
  zix a1 8 fun j4 =>
    Option.bind (fMS_rows j4 s1) fun q5 =>
    Option.bind (fMO_in a2 (0 : Int32) (q5 - (1 : Int32))) fun q6 =>
    if q6 = 0 then
    Option.bind (fMO_no (1 : Int32) s0_1 s1) fun q9 =>
      some (q9.1, q9.2)
  else
    zix a1 8 fun j7 =>
      zix a2 30 fun j8 =>
      some (((s1 9 j7 j8) - (1 : Int32)), s0_1)
set_option maxHeartbeats 4000000 in
set_option maxRecDepth 20000 in
theorem bfMO_extreme {X : zX} (F : zFr X cX11_extreme 3 RX11 (some .int)) (a1 : Int32) (a2 : Int32)  (s0 : zM) (s1 : zM) {κ : Int32 × zM → Option zO} (hκ : ∀ a, κ a = some ((fun a => ((.inl ((fun q => some (zi q.1)) a), (fun q => [q.2, s1]) a) : zO)) a)) : zZ X [(4, [1]), (3, [])] 2 43 3 0 [some (zr 0 0 0), some (zi a1), some (zi a2)] [] [s0, s1] (Option.bind (fMO_extreme a1 a2 s0 s1) κ) := by
  unfold fMO_extreme
  refine zz_aload_n F (i := 0) dX11_extreme_0 rfl rfl ?_
  refine zz_iconst F (v := (0 : Int32)) dX11_extreme_1 (by decide) ?_
  refine zz_put F (Ms' := [(zu s0 0 0 0 (0 : Int32)), s1]) dX11_extreme_2 wpRX11_16 zCl_10 rfl (⟨zlb rfl, zlb rfl, zlb rfl⟩) rfl (by decide) rfl rfl rfl ?_
  refine zz_letm (Mf := fun s0_1 => [s0_1, s1]) fun s0_1 => ?_
  refine zz_aload_n F (i := 0) dX11_extreme_5 rfl rfl ?_
  refine zz_iload_n F (i := 1) dX11_extreme_6 rfl rfl ?_
  refine zz_bind ?_
  refine zz_callVr F (ρ := [0, 1]) (so := fun q2 => [zi q2]) (Mo := fun q2 => [s0_1, s1]) (zfMO_isTurbine a1 s0_1 s1) dX11_extreme_7 wcRX11_95 wy_yX11_isTurbine rfl ⟨rel15, rfl, rfl, Nat.le_of_ble_eq_true rfl, Nat.le_of_ble_eq_true rfl, Nat.le_of_ble_eq_true rfl⟩ (⟨zlb rfl, zlb rfl, zlb rfl⟩) rfl rfl rfl (fun _ => rfl) (fun _ => rfl) fun q2 => ?_
  refine zz_if_eq F (tgt := 35) dX11_extreme_10 (by decide) (fun h => zz_t h ?_) (fun h => zz_f h ?_)
  · refine zz_aload_n F (i := 0) dX11_extreme_35 rfl rfl ?_
    refine zz_iconst F (v := (1 : Int32)) dX11_extreme_36 (by decide) ?_
    refine zz_bind ?_
    refine zz_callVr F (ρ := [0, 1]) (so := fun q3 => [zi q3.1]) (Mo := fun q3 => [q3.2, s1]) (zfMO_no (1 : Int32) s0_1 s1) dX11_extreme_37 wcRX11_40 wy_yX11_no rfl ⟨rel15, rfl, rfl, Nat.le_of_ble_eq_true rfl, Nat.le_of_ble_eq_true rfl, Nat.le_of_ble_eq_true rfl⟩ (⟨zlb rfl, zlb rfl, zlb rfl⟩) rfl rfl rfl (fun _ => rfl) (fun _ => rfl) fun q3 => ?_
    exact zz_ireturn F dX11_extreme_40 rfl (hκ _)
  · refine zz_iload_n F (i := 2) dX11_extreme_13 rfl rfl ?_
    refine zz_iconst F (v := (0 : Int32)) dX11_extreme_14 (by decide) ?_
    refine zz_aload_n F (i := 0) dX11_extreme_15 rfl rfl ?_
    refine zz_getr F dX11_extreme_16 wfRX11_10 zCl_10 rfl (⟨zlb rfl, zlb rfl, zlb rfl⟩) rfl (by decide) rfl (r' := 1) (by decide) ?_
    refine zz_getr F dX11_extreme_19 wfRX11_116 zCl_9 rfl (⟨zlb rfl, zlb rfl, zlb rfl⟩) rfl (by decide) rfl (r' := 1) (by decide) ?_
    refine zz_iload_n F (i := 1) dX11_extreme_22 rfl rfl ?_
    refine zz_ix fun j4 hj4 hinj4 hej4 => zz_aal F dX11_extreme_23 rfl (⟨zlb rfl, zlb rfl, zlb rfl⟩) rfl (by decide) rfl hinj4 hej4 rfl ?_
    refine zz_bind ?_
    refine zz_callSr F (ρ := [1]) (so := fun q5 => [zi q5, zi (0 : Int32), zi a2]) (Mo := fun q5 => [s0_1, s1]) (zfMS_rows j4 hj4 s1) dX11_extreme_24 wcRX11_119 wy_yX10_rows rfl ⟨rel16, rfl, rfl, Nat.le_of_ble_eq_true rfl, Nat.le_of_ble_eq_true rfl, Nat.le_of_ble_eq_true rfl⟩ rfl (fun _ => rfl) (fun _ => rfl) fun q5 => ?_
    refine zz_iconst F (v := (1 : Int32)) dX11_extreme_27 (by decide) ?_
    refine zz_isub F dX11_extreme_28 ?_
    refine zz_bind ?_
    refine zz_callSr F (ρ := []) (so := fun q6 => [zi q6]) (Mo := fun q6 => [s0_1, s1]) (zfMO_in a2 (0 : Int32) (q5 - (1 : Int32))) dX11_extreme_29 wcRX11_20 wy_yX11_in rfl ⟨rel14, rfl, rfl, Nat.le_of_ble_eq_true rfl, Nat.le_of_ble_eq_true rfl, Nat.le_of_ble_eq_true rfl⟩ rfl (fun _ => rfl) (fun _ => rfl) fun q6 => ?_
    refine zz_if_ne F (tgt := 41) dX11_extreme_32 (by decide) (fun h => zz_f h ?_) (fun h => zz_t h ?_)
    · refine zz_aload_n F (i := 0) dX11_extreme_41 rfl rfl ?_
      refine zz_getr F dX11_extreme_42 wfRX11_10 zCl_10 rfl (⟨zlb rfl, zlb rfl, zlb rfl⟩) rfl (by decide) rfl (r' := 1) (by decide) ?_
      refine zz_getr F dX11_extreme_45 wfRX11_116 zCl_9 rfl (⟨zlb rfl, zlb rfl, zlb rfl⟩) rfl (by decide) rfl (r' := 1) (by decide) ?_
      refine zz_iload_n F (i := 1) dX11_extreme_48 rfl rfl ?_
      refine zz_ix fun j7 hj7 hinj7 hej7 => zz_aal F dX11_extreme_49 rfl (⟨zlb rfl, zlb rfl, zlb rfl⟩) rfl (by decide) rfl hinj7 hej7 rfl ?_
      refine zz_iload_n F (i := 2) dX11_extreme_50 rfl rfl ?_
      refine zz_ix fun j8 hj8 hinj8 hej8 => zz_ial F dX11_extreme_51 rfl (⟨zlb rfl, zlb rfl, hj7⟩) rfl hinj8 hej8 ?_
      refine zz_iconst F (v := (1 : Int32)) dX11_extreme_52 (by decide) ?_
      refine zz_isub F dX11_extreme_53 ?_
      exact zz_ireturn F dX11_extreme_54 rfl (hκ _)
    · refine zz_aload_n F (i := 0) dX11_extreme_35 rfl rfl ?_
      refine zz_iconst F (v := (1 : Int32)) dX11_extreme_36 (by decide) ?_
      refine zz_bind ?_
      refine zz_callVr F (ρ := [0, 1]) (so := fun q9 => [zi q9.1]) (Mo := fun q9 => [q9.2, s1]) (zfMO_no (1 : Int32) s0_1 s1) dX11_extreme_37 wcRX11_40 wy_yX11_no rfl ⟨rel15, rfl, rfl, Nat.le_of_ble_eq_true rfl, Nat.le_of_ble_eq_true rfl, Nat.le_of_ble_eq_true rfl⟩ (⟨zlb rfl, zlb rfl, zlb rfl⟩) rfl rfl rfl (fun _ => rfl) (fun _ => rfl) fun q9 => ?_
      exact zz_ireturn F dX11_extreme_40 rfl (hκ _)
theorem zfMO_extreme (a1 : Int32) (a2 : Int32)  (s0 : zM) (s1 : zM) : ∀ a, fMO_extreme a1 a2 s0 s1 = some a → zMet yX11_extreme cX11_extreme 3 (some .int) 2 43 [(4, [1]), (3, [])] [zr 0 0 0, zi a1, zi a2] [s0, s1] ((fun a => ((.inl ((fun q => some (zi q.1)) a), (fun q => [q.2, s1]) a) : zO)) a) := fun a ha => zMet_of (L0 := [some (zr 0 0 0), some (zi a1), some (zi a2)]) (φ := Option.bind (fMO_extreme a1 a2 s0 s1) (fun a => some ((fun a => ((.inl ((fun q => some (zi q.1)) a), (fun q => [q.2, s1]) a) : zO)) a))) (by decide) (fun _ => Nat.le_of_ble_eq_true rfl) (zl0 0 rfl) (fun X F => bfMO_extreme F a1 a2 s0 s1 (fun _ => rfl)) (by rw [ha]; rfl)

theorem dX11_stringNow_0 : decode cX11_stringNow 0 = .ok (.aload_n 0, 1) := by decide +kernel
theorem dX11_stringNow_1 : decode cX11_stringNow 1 = .ok (.getfield 10, 3) := by decide +kernel
theorem dX11_stringNow_4 : decode cX11_stringNow 4 = .ok (.getfield 47, 3) := by decide +kernel
theorem dX11_stringNow_7 : decode cX11_stringNow 7 = .ok (.iload_n 1, 1) := by decide +kernel
theorem dX11_stringNow_8 : decode cX11_stringNow 8 = .ok (.aaload, 1) := by decide +kernel
theorem dX11_stringNow_9 : decode cX11_stringNow 9 = .ok (.astore_n 3, 1) := by decide +kernel
theorem dX11_stringNow_10 : decode cX11_stringNow 10 = .ok (.iload_n 2, 1) := by decide +kernel
theorem dX11_stringNow_11 : decode cX11_stringNow 11 = .ok (.iconst 2, 1) := by decide +kernel
theorem dX11_stringNow_12 : decode cX11_stringNow 12 = .ok (.if_icmp .ge 9, 3) := by decide +kernel
theorem dX11_stringNow_15 : decode cX11_stringNow 15 = .ok (.aload_n 3, 1) := by decide +kernel
theorem dX11_stringNow_16 : decode cX11_stringNow 16 = .ok (.iload_n 2, 1) := by decide +kernel
theorem dX11_stringNow_17 : decode cX11_stringNow 17 = .ok (.iaload, 1) := by decide +kernel
theorem dX11_stringNow_18 : decode cX11_stringNow 18 = .ok (.goto 24, 3) := by decide +kernel
theorem dX11_stringNow_21 : decode cX11_stringNow 21 = .ok (.iload_n 2, 1) := by decide +kernel
theorem dX11_stringNow_22 : decode cX11_stringNow 22 = .ok (.iconst 2, 1) := by decide +kernel
theorem dX11_stringNow_23 : decode cX11_stringNow 23 = .ok (.if_icmp .ne 16, 3) := by decide +kernel
theorem dX11_stringNow_26 : decode cX11_stringNow 26 = .ok (.aload_n 3, 1) := by decide +kernel
theorem dX11_stringNow_27 : decode cX11_stringNow 27 = .ok (.iconst 0, 1) := by decide +kernel
theorem dX11_stringNow_28 : decode cX11_stringNow 28 = .ok (.iaload, 1) := by decide +kernel
theorem dX11_stringNow_29 : decode cX11_stringNow 29 = .ok (.aload_n 3, 1) := by decide +kernel
theorem dX11_stringNow_30 : decode cX11_stringNow 30 = .ok (.iconst 1, 1) := by decide +kernel
theorem dX11_stringNow_31 : decode cX11_stringNow 31 = .ok (.iaload, 1) := by decide +kernel
theorem dX11_stringNow_32 : decode cX11_stringNow 32 = .ok (.bipush 10, 2) := by decide +kernel
theorem dX11_stringNow_34 : decode cX11_stringNow 34 = .ok (.idiv, 1) := by decide +kernel
theorem dX11_stringNow_35 : decode cX11_stringNow 35 = .ok (.isub, 1) := by decide +kernel
theorem dX11_stringNow_36 : decode cX11_stringNow 36 = .ok (.goto 6, 3) := by decide +kernel
theorem dX11_stringNow_39 : decode cX11_stringNow 39 = .ok (.aload_n 3, 1) := by decide +kernel
theorem dX11_stringNow_40 : decode cX11_stringNow 40 = .ok (.iconst 2, 1) := by decide +kernel
theorem dX11_stringNow_41 : decode cX11_stringNow 41 = .ok (.iaload, 1) := by decide +kernel
theorem dX11_stringNow_42 : decode cX11_stringNow 42 = .ok (.ireturn, 1) := by decide +kernel
def fMO_stringNow (a1 : Int32) (a2 : Int32) (s0 : zM) (s1 : zM) : Option (Int32) :=
  zix a1 3 fun j1 =>
  if (2 : Int32) ≤ a2 then
  if a2 = (2 : Int32) then
    zix (0 : Int32) 3 fun j3 =>
      zix (1 : Int32) 3 fun j4 =>
      some ((s1 10 j1 j3) - ((s1 10 j1 j4) / (10 : Int32)))
  else
    zix (2 : Int32) 3 fun j2 =>
      some (s1 10 j1 j2)
else
  zix a2 3 fun j5 =>
    some (s1 10 j1 j5)
set_option maxHeartbeats 4000000 in
set_option maxRecDepth 20000 in
theorem bfMO_stringNow {X : zX} (F : zFr X cX11_stringNow 4 RX11 (some .int)) (a1 : Int32) (a2 : Int32)  (s0 : zM) (s1 : zM) {κ : Int32 → Option zO} (hκ : ∀ a, κ a = some ((fun a => ((.inl ((fun q => some (zi q)) a), (fun _ => [s0, s1]) a) : zO)) a)) : zZ X [(4, [1]), (3, [])] 0 0 4 0 [some (zr 0 0 0), some (zi a1), some (zi a2), none] [] [s0, s1] (Option.bind (fMO_stringNow a1 a2 s0 s1) κ) := by
  unfold fMO_stringNow
  refine zz_aload_n F (i := 0) dX11_stringNow_0 rfl rfl ?_
  refine zz_getr F dX11_stringNow_1 wfRX11_10 zCl_10 rfl (⟨zlb rfl, zlb rfl, zlb rfl⟩) rfl (by decide) rfl (r' := 1) (by decide) ?_
  refine zz_getr F dX11_stringNow_4 wfRX11_47 zCl_9 rfl (⟨zlb rfl, zlb rfl, zlb rfl⟩) rfl (by decide) rfl (r' := 1) (by decide) ?_
  refine zz_iload_n F (i := 1) dX11_stringNow_7 rfl rfl ?_
  refine zz_ix fun j1 hj1 hinj1 hej1 => zz_aal F dX11_stringNow_8 rfl (⟨zlb rfl, zlb rfl, zlb rfl⟩) rfl (by decide) rfl hinj1 hej1 rfl ?_
  refine zz_astore_n F (i := 3) (L' := [some (zr 0 0 0), some (zi a1), some (zi a2), some (zr 1 10 j1)]) dX11_stringNow_9 rfl (by decide) rfl rfl ?_
  refine zz_iload_n F (i := 2) dX11_stringNow_10 rfl rfl ?_
  refine zz_iconst F (v := (2 : Int32)) dX11_stringNow_11 (by decide) ?_
  refine zz_icmp_ge F (tgt := 21) dX11_stringNow_12 (by decide) (fun h => zz_t h ?_) (fun h => zz_f h ?_)
  · refine zz_iload_n F (i := 2) dX11_stringNow_21 rfl rfl ?_
    refine zz_iconst F (v := (2 : Int32)) dX11_stringNow_22 (by decide) ?_
    refine zz_icmp_ne F (tgt := 39) dX11_stringNow_23 (by decide) (fun h => zz_f h ?_) (fun h => zz_t h ?_)
    · refine zz_aload_n F (i := 3) dX11_stringNow_39 rfl rfl ?_
      refine zz_iconst F (v := (2 : Int32)) dX11_stringNow_40 (by decide) ?_
      refine zz_ix fun j2 hj2 hinj2 hej2 => zz_ial F dX11_stringNow_41 rfl (⟨zlb rfl, zlb rfl, hj1⟩) rfl hinj2 hej2 ?_
      exact zz_ireturn F dX11_stringNow_42 rfl (hκ _)
    · refine zz_aload_n F (i := 3) dX11_stringNow_26 rfl rfl ?_
      refine zz_iconst F (v := (0 : Int32)) dX11_stringNow_27 (by decide) ?_
      refine zz_ix fun j3 hj3 hinj3 hej3 => zz_ial F dX11_stringNow_28 rfl (⟨zlb rfl, zlb rfl, hj1⟩) rfl hinj3 hej3 ?_
      refine zz_aload_n F (i := 3) dX11_stringNow_29 rfl rfl ?_
      refine zz_iconst F (v := (1 : Int32)) dX11_stringNow_30 (by decide) ?_
      refine zz_ix fun j4 hj4 hinj4 hej4 => zz_ial F dX11_stringNow_31 rfl (⟨zlb rfl, zlb rfl, hj1⟩) rfl hinj4 hej4 ?_
      refine zz_bipush F (v := (10 : Int32)) dX11_stringNow_32 (by decide) ?_
      refine zz_idiv F dX11_stringNow_34 (by decide) ?_
      refine zz_isub F dX11_stringNow_35 ?_
      refine zz_goto F (tgt := 42) dX11_stringNow_36 (by decide) ?_
      exact zz_ireturn F dX11_stringNow_42 rfl (hκ _)
  · refine zz_aload_n F (i := 3) dX11_stringNow_15 rfl rfl ?_
    refine zz_iload_n F (i := 2) dX11_stringNow_16 rfl rfl ?_
    refine zz_ix fun j5 hj5 hinj5 hej5 => zz_ial F dX11_stringNow_17 rfl (⟨zlb rfl, zlb rfl, hj1⟩) rfl hinj5 hej5 ?_
    refine zz_goto F (tgt := 42) dX11_stringNow_18 (by decide) ?_
    exact zz_ireturn F dX11_stringNow_42 rfl (hκ _)
theorem zfMO_stringNow (a1 : Int32) (a2 : Int32)  (s0 : zM) (s1 : zM) : ∀ a, fMO_stringNow a1 a2 s0 s1 = some a → zMet yX11_stringNow cX11_stringNow 4 (some .int) 0 0 [(4, [1]), (3, [])] [zr 0 0 0, zi a1, zi a2] [s0, s1] ((fun a => ((.inl ((fun q => some (zi q)) a), (fun _ => [s0, s1]) a) : zO)) a) := fun a ha => zMet_of (L0 := [some (zr 0 0 0), some (zi a1), some (zi a2), none]) (φ := Option.bind (fMO_stringNow a1 a2 s0 s1) (fun a => some ((fun a => ((.inl ((fun q => some (zi q)) a), (fun _ => [s0, s1]) a) : zO)) a))) (by decide) (fun _ => Nat.le_of_ble_eq_true rfl) (zl0 1 rfl) (fun X F => bfMO_stringNow F a1 a2 s0 s1 (fun _ => rfl)) (by rw [ha]; rfl)

theorem dX11_ofString_0 : decode cX11_ofString 0 = .ok (.aload_n 0, 1) := by decide +kernel
theorem dX11_ofString_1 : decode cX11_ofString 1 = .ok (.iconst 0, 1) := by decide +kernel
theorem dX11_ofString_2 : decode cX11_ofString 2 = .ok (.putfield 16, 3) := by decide +kernel
theorem dX11_ofString_5 : decode cX11_ofString 5 = .ok (.iload_n 1, 1) := by decide +kernel
theorem dX11_ofString_6 : decode cX11_ofString 6 = .ok (.iconst 0, 1) := by decide +kernel
theorem dX11_ofString_7 : decode cX11_ofString 7 = .ok (.aload_n 0, 1) := by decide +kernel
theorem dX11_ofString_8 : decode cX11_ofString 8 = .ok (.getfield 10, 3) := by decide +kernel
theorem dX11_ofString_11 : decode cX11_ofString 11 = .ok (.getfield 44, 3) := by decide +kernel
theorem dX11_ofString_14 : decode cX11_ofString 14 = .ok (.iconst 1, 1) := by decide +kernel
theorem dX11_ofString_15 : decode cX11_ofString 15 = .ok (.isub, 1) := by decide +kernel
theorem dX11_ofString_16 : decode cX11_ofString 16 = .ok (.invokestatic 20, 3) := by decide +kernel
theorem dX11_ofString_19 : decode cX11_ofString 19 = .ok (.ifCond .ne 9, 3) := by decide +kernel
theorem dX11_ofString_22 : decode cX11_ofString 22 = .ok (.aload_n 0, 1) := by decide +kernel
theorem dX11_ofString_23 : decode cX11_ofString 23 = .ok (.iconst 1, 1) := by decide +kernel
theorem dX11_ofString_24 : decode cX11_ofString 24 = .ok (.invokevirtual 40, 3) := by decide +kernel
theorem dX11_ofString_27 : decode cX11_ofString 27 = .ok (.ireturn, 1) := by decide +kernel
theorem dX11_ofString_28 : decode cX11_ofString 28 = .ok (.iload_n 2, 1) := by decide +kernel
theorem dX11_ofString_29 : decode cX11_ofString 29 = .ok (.iconst 0, 1) := by decide +kernel
theorem dX11_ofString_30 : decode cX11_ofString 30 = .ok (.iconst 3, 1) := by decide +kernel
theorem dX11_ofString_31 : decode cX11_ofString 31 = .ok (.invokestatic 20, 3) := by decide +kernel
theorem dX11_ofString_34 : decode cX11_ofString 34 = .ok (.ifCond .ne 9, 3) := by decide +kernel
theorem dX11_ofString_37 : decode cX11_ofString 37 = .ok (.aload_n 0, 1) := by decide +kernel
theorem dX11_ofString_38 : decode cX11_ofString 38 = .ok (.iconst 2, 1) := by decide +kernel
theorem dX11_ofString_39 : decode cX11_ofString 39 = .ok (.invokevirtual 40, 3) := by decide +kernel
theorem dX11_ofString_42 : decode cX11_ofString 42 = .ok (.ireturn, 1) := by decide +kernel
theorem dX11_ofString_43 : decode cX11_ofString 43 = .ok (.aload_n 0, 1) := by decide +kernel
theorem dX11_ofString_44 : decode cX11_ofString 44 = .ok (.iload_n 1, 1) := by decide +kernel
theorem dX11_ofString_45 : decode cX11_ofString 45 = .ok (.iload_n 2, 1) := by decide +kernel
theorem dX11_ofString_46 : decode cX11_ofString 46 = .ok (.invokevirtual 129, 3) := by decide +kernel
theorem dX11_ofString_49 : decode cX11_ofString 49 = .ok (.ireturn, 1) := by decide +kernel
theorem wcRX11_129 : Cond.methodLink RX11 129 yX11_stringNow ∈ zTg ∧ Cond.instanceMethod yX11_stringNow ∈ zTg ∧ Cond.selects RX11 yX11_stringNow yX11_stringNow ∈ zTg ∧ Cond.initialized RX11 ∈ zTg ∧ Cond.code yX11_stringNow cX11_stringNow 4 (some .int) ∈ zTg := ⟨zm_f 1251 (by decide +kernel) rfl, zm_f 1253 (by decide +kernel) rfl, zm_f 32 (by decide +kernel) rfl, zm_f 46 (by decide +kernel) rfl, zm_f 1254 (by decide +kernel) rfl⟩
theorem wy_yX11_stringNow : yX11_stringNow.cls = RX11 ∧ yX11_stringNow.cls ≠ "java/lang/invoke/MethodHandle" ∧ yX11_stringNow.cls ≠ "java/lang/invoke/VarHandle" ∧ (parseMethodDescriptor yX11_stringNow.desc).map (fun d => d.parameters.length) = some 2 := by decide +kernel
def fMO_ofString (a1 : Int32) (a2 : Int32) (s0 : zM) (s1 : zM) : Option (Int32 × zM) :=
  zlet (zu s0 0 0 0 (0 : Int32)) fun s0_1 =>
  Option.bind (fMO_in a1 (0 : Int32) ((s1 0 0 8) - (1 : Int32))) fun q2 =>
  if q2 = 0 then
  Option.bind (fMO_no (1 : Int32) s0_1 s1) fun q6 =>
    some (q6.1, q6.2)
else
  Option.bind (fMO_in a2 (0 : Int32) (3 : Int32)) fun q3 =>
    if q3 = 0 then
    Option.bind (fMO_no (2 : Int32) s0_1 s1) fun q5 =>
      some (q5.1, q5.2)
  else
    Option.bind (fMO_stringNow a1 a2 s0_1 s1) fun q4 =>
      some (q4, s0_1)
set_option maxHeartbeats 4000000 in
set_option maxRecDepth 20000 in
theorem bfMO_ofString {X : zX} (F : zFr X cX11_ofString 3 RX11 (some .int)) (a1 : Int32) (a2 : Int32)  (s0 : zM) (s1 : zM) {κ : Int32 × zM → Option zO} (hκ : ∀ a, κ a = some ((fun a => ((.inl ((fun q => some (zi q.1)) a), (fun q => [q.2, s1]) a) : zO)) a)) : zZ X [(4, [1]), (3, [])] 1 23 3 0 [some (zr 0 0 0), some (zi a1), some (zi a2)] [] [s0, s1] (Option.bind (fMO_ofString a1 a2 s0 s1) κ) := by
  unfold fMO_ofString
  refine zz_aload_n F (i := 0) dX11_ofString_0 rfl rfl ?_
  refine zz_iconst F (v := (0 : Int32)) dX11_ofString_1 (by decide) ?_
  refine zz_put F (Ms' := [(zu s0 0 0 0 (0 : Int32)), s1]) dX11_ofString_2 wpRX11_16 zCl_10 rfl (⟨zlb rfl, zlb rfl, zlb rfl⟩) rfl (by decide) rfl rfl rfl ?_
  refine zz_letm (Mf := fun s0_1 => [s0_1, s1]) fun s0_1 => ?_
  refine zz_iload_n F (i := 1) dX11_ofString_5 rfl rfl ?_
  refine zz_iconst F (v := (0 : Int32)) dX11_ofString_6 (by decide) ?_
  refine zz_aload_n F (i := 0) dX11_ofString_7 rfl rfl ?_
  refine zz_getr F dX11_ofString_8 wfRX11_10 zCl_10 rfl (⟨zlb rfl, zlb rfl, zlb rfl⟩) rfl (by decide) rfl (r' := 1) (by decide) ?_
  refine zz_getf F dX11_ofString_11 wfRX11_44 zCl_9 rfl (⟨zlb rfl, zlb rfl, zlb rfl⟩) rfl (by decide) rfl rfl ?_
  refine zz_iconst F (v := (1 : Int32)) dX11_ofString_14 (by decide) ?_
  refine zz_isub F dX11_ofString_15 ?_
  refine zz_bind ?_
  refine zz_callSr F (ρ := []) (so := fun q2 => [zi q2]) (Mo := fun q2 => [s0_1, s1]) (zfMO_in a1 (0 : Int32) ((s1 0 0 8) - (1 : Int32))) dX11_ofString_16 wcRX11_20 wy_yX11_in rfl ⟨rel14, rfl, rfl, Nat.le_of_ble_eq_true rfl, Nat.le_of_ble_eq_true rfl, Nat.le_of_ble_eq_true rfl⟩ rfl (fun _ => rfl) (fun _ => rfl) fun q2 => ?_
  refine zz_if_ne F (tgt := 28) dX11_ofString_19 (by decide) (fun h => zz_f h ?_) (fun h => zz_t h ?_)
  · refine zz_iload_n F (i := 2) dX11_ofString_28 rfl rfl ?_
    refine zz_iconst F (v := (0 : Int32)) dX11_ofString_29 (by decide) ?_
    refine zz_iconst F (v := (3 : Int32)) dX11_ofString_30 (by decide) ?_
    refine zz_bind ?_
    refine zz_callSr F (ρ := []) (so := fun q3 => [zi q3]) (Mo := fun q3 => [s0_1, s1]) (zfMO_in a2 (0 : Int32) (3 : Int32)) dX11_ofString_31 wcRX11_20 wy_yX11_in rfl ⟨rel14, rfl, rfl, Nat.le_of_ble_eq_true rfl, Nat.le_of_ble_eq_true rfl, Nat.le_of_ble_eq_true rfl⟩ rfl (fun _ => rfl) (fun _ => rfl) fun q3 => ?_
    refine zz_if_ne F (tgt := 43) dX11_ofString_34 (by decide) (fun h => zz_f h ?_) (fun h => zz_t h ?_)
    · refine zz_aload_n F (i := 0) dX11_ofString_43 rfl rfl ?_
      refine zz_iload_n F (i := 1) dX11_ofString_44 rfl rfl ?_
      refine zz_iload_n F (i := 2) dX11_ofString_45 rfl rfl ?_
      refine zz_bind ?_
      refine zz_callVr F (ρ := [0, 1]) (so := fun q4 => [zi q4]) (Mo := fun q4 => [s0_1, s1]) (zfMO_stringNow a1 a2 s0_1 s1) dX11_ofString_46 wcRX11_129 wy_yX11_stringNow rfl ⟨rel15, rfl, rfl, Nat.le_of_ble_eq_true rfl, Nat.le_of_ble_eq_true rfl, Nat.le_of_ble_eq_true rfl⟩ (⟨zlb rfl, zlb rfl, zlb rfl⟩) rfl rfl rfl (fun _ => rfl) (fun _ => rfl) fun q4 => ?_
      exact zz_ireturn F dX11_ofString_49 rfl (hκ _)
    · refine zz_aload_n F (i := 0) dX11_ofString_37 rfl rfl ?_
      refine zz_iconst F (v := (2 : Int32)) dX11_ofString_38 (by decide) ?_
      refine zz_bind ?_
      refine zz_callVr F (ρ := [0, 1]) (so := fun q5 => [zi q5.1]) (Mo := fun q5 => [q5.2, s1]) (zfMO_no (2 : Int32) s0_1 s1) dX11_ofString_39 wcRX11_40 wy_yX11_no rfl ⟨rel15, rfl, rfl, Nat.le_of_ble_eq_true rfl, Nat.le_of_ble_eq_true rfl, Nat.le_of_ble_eq_true rfl⟩ (⟨zlb rfl, zlb rfl, zlb rfl⟩) rfl rfl rfl (fun _ => rfl) (fun _ => rfl) fun q5 => ?_
      exact zz_ireturn F dX11_ofString_42 rfl (hκ _)
  · refine zz_aload_n F (i := 0) dX11_ofString_22 rfl rfl ?_
    refine zz_iconst F (v := (1 : Int32)) dX11_ofString_23 (by decide) ?_
    refine zz_bind ?_
    refine zz_callVr F (ρ := [0, 1]) (so := fun q6 => [zi q6.1]) (Mo := fun q6 => [q6.2, s1]) (zfMO_no (1 : Int32) s0_1 s1) dX11_ofString_24 wcRX11_40 wy_yX11_no rfl ⟨rel15, rfl, rfl, Nat.le_of_ble_eq_true rfl, Nat.le_of_ble_eq_true rfl, Nat.le_of_ble_eq_true rfl⟩ (⟨zlb rfl, zlb rfl, zlb rfl⟩) rfl rfl rfl (fun _ => rfl) (fun _ => rfl) fun q6 => ?_
    exact zz_ireturn F dX11_ofString_27 rfl (hκ _)
theorem zfMO_ofString (a1 : Int32) (a2 : Int32)  (s0 : zM) (s1 : zM) : ∀ a, fMO_ofString a1 a2 s0 s1 = some a → zMet yX11_ofString cX11_ofString 3 (some .int) 1 23 [(4, [1]), (3, [])] [zr 0 0 0, zi a1, zi a2] [s0, s1] ((fun a => ((.inl ((fun q => some (zi q.1)) a), (fun q => [q.2, s1]) a) : zO)) a) := fun a ha => zMet_of (L0 := [some (zr 0 0 0), some (zi a1), some (zi a2)]) (φ := Option.bind (fMO_ofString a1 a2 s0 s1) (fun a => some ((fun a => ((.inl ((fun q => some (zi q.1)) a), (fun q => [q.2, s1]) a) : zO)) a))) (by decide) (fun _ => Nat.le_of_ble_eq_true rfl) (zl0 0 rfl) (fun X F => bfMO_ofString F a1 a2 s0 s1 (fun _ => rfl)) (by rw [ha]; rfl)

theorem dX11_ofVessel_0 : decode cX11_ofVessel 0 = .ok (.aload_n 0, 1) := by decide +kernel
theorem dX11_ofVessel_1 : decode cX11_ofVessel 1 = .ok (.iconst 0, 1) := by decide +kernel
theorem dX11_ofVessel_2 : decode cX11_ofVessel 2 = .ok (.putfield 16, 3) := by decide +kernel
theorem dX11_ofVessel_5 : decode cX11_ofVessel 5 = .ok (.aload_n 0, 1) := by decide +kernel
theorem dX11_ofVessel_6 : decode cX11_ofVessel 6 = .ok (.iload_n 1, 1) := by decide +kernel
theorem dX11_ofVessel_7 : decode cX11_ofVessel 7 = .ok (.invokevirtual 110, 3) := by decide +kernel
theorem dX11_ofVessel_10 : decode cX11_ofVessel 10 = .ok (.ifCond .ne 9, 3) := by decide +kernel
theorem dX11_ofVessel_13 : decode cX11_ofVessel 13 = .ok (.aload_n 0, 1) := by decide +kernel
theorem dX11_ofVessel_14 : decode cX11_ofVessel 14 = .ok (.iconst 1, 1) := by decide +kernel
theorem dX11_ofVessel_15 : decode cX11_ofVessel 15 = .ok (.invokevirtual 40, 3) := by decide +kernel
theorem dX11_ofVessel_18 : decode cX11_ofVessel 18 = .ok (.ireturn, 1) := by decide +kernel
theorem dX11_ofVessel_19 : decode cX11_ofVessel 19 = .ok (.iload_n 2, 1) := by decide +kernel
theorem dX11_ofVessel_20 : decode cX11_ofVessel 20 = .ok (.iconst 0, 1) := by decide +kernel
theorem dX11_ofVessel_21 : decode cX11_ofVessel 21 = .ok (.iconst 4, 1) := by decide +kernel
theorem dX11_ofVessel_22 : decode cX11_ofVessel 22 = .ok (.invokestatic 20, 3) := by decide +kernel
theorem dX11_ofVessel_25 : decode cX11_ofVessel 25 = .ok (.ifCond .ne 9, 3) := by decide +kernel
theorem dX11_ofVessel_28 : decode cX11_ofVessel 28 = .ok (.aload_n 0, 1) := by decide +kernel
theorem dX11_ofVessel_29 : decode cX11_ofVessel 29 = .ok (.iconst 2, 1) := by decide +kernel
theorem dX11_ofVessel_30 : decode cX11_ofVessel 30 = .ok (.invokevirtual 40, 3) := by decide +kernel
theorem dX11_ofVessel_33 : decode cX11_ofVessel 33 = .ok (.ireturn, 1) := by decide +kernel
theorem dX11_ofVessel_34 : decode cX11_ofVessel 34 = .ok (.aload_n 0, 1) := by decide +kernel
theorem dX11_ofVessel_35 : decode cX11_ofVessel 35 = .ok (.getfield 10, 3) := by decide +kernel
theorem dX11_ofVessel_38 : decode cX11_ofVessel 38 = .ok (.getfield 54, 3) := by decide +kernel
theorem dX11_ofVessel_41 : decode cX11_ofVessel 41 = .ok (.iload_n 1, 1) := by decide +kernel
theorem dX11_ofVessel_42 : decode cX11_ofVessel 42 = .ok (.aaload, 1) := by decide +kernel
theorem dX11_ofVessel_43 : decode cX11_ofVessel 43 = .ok (.iconst 1, 1) := by decide +kernel
theorem dX11_ofVessel_44 : decode cX11_ofVessel 44 = .ok (.iload_n 2, 1) := by decide +kernel
theorem dX11_ofVessel_45 : decode cX11_ofVessel 45 = .ok (.iadd, 1) := by decide +kernel
theorem dX11_ofVessel_46 : decode cX11_ofVessel 46 = .ok (.iaload, 1) := by decide +kernel
theorem dX11_ofVessel_47 : decode cX11_ofVessel 47 = .ok (.ireturn, 1) := by decide +kernel
def fMO_ofVessel (a1 : Int32) (a2 : Int32) (s0 : zM) (s1 : zM) : Option (Int32 × zM) :=
  zlet (zu s0 0 0 0 (0 : Int32)) fun s0_1 =>
  Option.bind (fMO_isVessel a1 s0_1 s1) fun q2 =>
  if q2 = 0 then
  Option.bind (fMO_no (1 : Int32) s0_1 s1) fun q7 =>
    some (q7.1, q7.2)
else
  Option.bind (fMO_in a2 (0 : Int32) (4 : Int32)) fun q3 =>
    if q3 = 0 then
    Option.bind (fMO_no (2 : Int32) s0_1 s1) fun q6 =>
      some (q6.1, q6.2)
  else
    zix a1 3 fun j4 =>
      zix ((1 : Int32) + a2) 6 fun j5 =>
      some ((s1 11 j4 j5), s0_1)
set_option maxHeartbeats 4000000 in
set_option maxRecDepth 20000 in
theorem bfMO_ofVessel {X : zX} (F : zFr X cX11_ofVessel 3 RX11 (some .int)) (a1 : Int32) (a2 : Int32)  (s0 : zM) (s1 : zM) {κ : Int32 × zM → Option zO} (hκ : ∀ a, κ a = some ((fun a => ((.inl ((fun q => some (zi q.1)) a), (fun q => [q.2, s1]) a) : zO)) a)) : zZ X [(4, [1]), (3, [])] 2 43 3 0 [some (zr 0 0 0), some (zi a1), some (zi a2)] [] [s0, s1] (Option.bind (fMO_ofVessel a1 a2 s0 s1) κ) := by
  unfold fMO_ofVessel
  refine zz_aload_n F (i := 0) dX11_ofVessel_0 rfl rfl ?_
  refine zz_iconst F (v := (0 : Int32)) dX11_ofVessel_1 (by decide) ?_
  refine zz_put F (Ms' := [(zu s0 0 0 0 (0 : Int32)), s1]) dX11_ofVessel_2 wpRX11_16 zCl_10 rfl (⟨zlb rfl, zlb rfl, zlb rfl⟩) rfl (by decide) rfl rfl rfl ?_
  refine zz_letm (Mf := fun s0_1 => [s0_1, s1]) fun s0_1 => ?_
  refine zz_aload_n F (i := 0) dX11_ofVessel_5 rfl rfl ?_
  refine zz_iload_n F (i := 1) dX11_ofVessel_6 rfl rfl ?_
  refine zz_bind ?_
  refine zz_callVr F (ρ := [0, 1]) (so := fun q2 => [zi q2]) (Mo := fun q2 => [s0_1, s1]) (zfMO_isVessel a1 s0_1 s1) dX11_ofVessel_7 wcRX11_110 wy_yX11_isVessel rfl ⟨rel15, rfl, rfl, Nat.le_of_ble_eq_true rfl, Nat.le_of_ble_eq_true rfl, Nat.le_of_ble_eq_true rfl⟩ (⟨zlb rfl, zlb rfl, zlb rfl⟩) rfl rfl rfl (fun _ => rfl) (fun _ => rfl) fun q2 => ?_
  refine zz_if_ne F (tgt := 19) dX11_ofVessel_10 (by decide) (fun h => zz_f h ?_) (fun h => zz_t h ?_)
  · refine zz_iload_n F (i := 2) dX11_ofVessel_19 rfl rfl ?_
    refine zz_iconst F (v := (0 : Int32)) dX11_ofVessel_20 (by decide) ?_
    refine zz_iconst F (v := (4 : Int32)) dX11_ofVessel_21 (by decide) ?_
    refine zz_bind ?_
    refine zz_callSr F (ρ := []) (so := fun q3 => [zi q3]) (Mo := fun q3 => [s0_1, s1]) (zfMO_in a2 (0 : Int32) (4 : Int32)) dX11_ofVessel_22 wcRX11_20 wy_yX11_in rfl ⟨rel14, rfl, rfl, Nat.le_of_ble_eq_true rfl, Nat.le_of_ble_eq_true rfl, Nat.le_of_ble_eq_true rfl⟩ rfl (fun _ => rfl) (fun _ => rfl) fun q3 => ?_
    refine zz_if_ne F (tgt := 34) dX11_ofVessel_25 (by decide) (fun h => zz_f h ?_) (fun h => zz_t h ?_)
    · refine zz_aload_n F (i := 0) dX11_ofVessel_34 rfl rfl ?_
      refine zz_getr F dX11_ofVessel_35 wfRX11_10 zCl_10 rfl (⟨zlb rfl, zlb rfl, zlb rfl⟩) rfl (by decide) rfl (r' := 1) (by decide) ?_
      refine zz_getr F dX11_ofVessel_38 wfRX11_54 zCl_9 rfl (⟨zlb rfl, zlb rfl, zlb rfl⟩) rfl (by decide) rfl (r' := 1) (by decide) ?_
      refine zz_iload_n F (i := 1) dX11_ofVessel_41 rfl rfl ?_
      refine zz_ix fun j4 hj4 hinj4 hej4 => zz_aal F dX11_ofVessel_42 rfl (⟨zlb rfl, zlb rfl, zlb rfl⟩) rfl (by decide) rfl hinj4 hej4 rfl ?_
      refine zz_iconst F (v := (1 : Int32)) dX11_ofVessel_43 (by decide) ?_
      refine zz_iload_n F (i := 2) dX11_ofVessel_44 rfl rfl ?_
      refine zz_iadd F dX11_ofVessel_45 ?_
      refine zz_ix fun j5 hj5 hinj5 hej5 => zz_ial F dX11_ofVessel_46 rfl (⟨zlb rfl, zlb rfl, hj4⟩) rfl hinj5 hej5 ?_
      exact zz_ireturn F dX11_ofVessel_47 rfl (hκ _)
    · refine zz_aload_n F (i := 0) dX11_ofVessel_28 rfl rfl ?_
      refine zz_iconst F (v := (2 : Int32)) dX11_ofVessel_29 (by decide) ?_
      refine zz_bind ?_
      refine zz_callVr F (ρ := [0, 1]) (so := fun q6 => [zi q6.1]) (Mo := fun q6 => [q6.2, s1]) (zfMO_no (2 : Int32) s0_1 s1) dX11_ofVessel_30 wcRX11_40 wy_yX11_no rfl ⟨rel15, rfl, rfl, Nat.le_of_ble_eq_true rfl, Nat.le_of_ble_eq_true rfl, Nat.le_of_ble_eq_true rfl⟩ (⟨zlb rfl, zlb rfl, zlb rfl⟩) rfl rfl rfl (fun _ => rfl) (fun _ => rfl) fun q6 => ?_
      exact zz_ireturn F dX11_ofVessel_33 rfl (hκ _)
  · refine zz_aload_n F (i := 0) dX11_ofVessel_13 rfl rfl ?_
    refine zz_iconst F (v := (1 : Int32)) dX11_ofVessel_14 (by decide) ?_
    refine zz_bind ?_
    refine zz_callVr F (ρ := [0, 1]) (so := fun q7 => [zi q7.1]) (Mo := fun q7 => [q7.2, s1]) (zfMO_no (1 : Int32) s0_1 s1) dX11_ofVessel_15 wcRX11_40 wy_yX11_no rfl ⟨rel15, rfl, rfl, Nat.le_of_ble_eq_true rfl, Nat.le_of_ble_eq_true rfl, Nat.le_of_ble_eq_true rfl⟩ (⟨zlb rfl, zlb rfl, zlb rfl⟩) rfl rfl rfl (fun _ => rfl) (fun _ => rfl) fun q7 => ?_
    exact zz_ireturn F dX11_ofVessel_18 rfl (hκ _)
theorem zfMO_ofVessel (a1 : Int32) (a2 : Int32)  (s0 : zM) (s1 : zM) : ∀ a, fMO_ofVessel a1 a2 s0 s1 = some a → zMet yX11_ofVessel cX11_ofVessel 3 (some .int) 2 43 [(4, [1]), (3, [])] [zr 0 0 0, zi a1, zi a2] [s0, s1] ((fun a => ((.inl ((fun q => some (zi q.1)) a), (fun q => [q.2, s1]) a) : zO)) a) := fun a ha => zMet_of (L0 := [some (zr 0 0 0), some (zi a1), some (zi a2)]) (φ := Option.bind (fMO_ofVessel a1 a2 s0 s1) (fun a => some ((fun a => ((.inl ((fun q => some (zi q.1)) a), (fun q => [q.2, s1]) a) : zO)) a))) (by decide) (fun _ => Nat.le_of_ble_eq_true rfl) (zl0 0 rfl) (fun X F => bfMO_ofVessel F a1 a2 s0 s1 (fun _ => rfl)) (by rw [ha]; rfl)

theorem dX11_inState_0 : decode cX11_inState 0 = .ok (.iconst 0, 1) := by decide +kernel
theorem dX11_inState_1 : decode cX11_inState 1 = .ok (.istore_n 2, 1) := by decide +kernel
theorem dX11_inState_2 : decode cX11_inState 2 = .ok (.iconst 0, 1) := by decide +kernel
theorem dX11_inState_3 : decode cX11_inState 3 = .ok (.istore_n 3, 1) := by decide +kernel
theorem dX11_inState_4 : decode cX11_inState 4 = .ok (.iload_n 3, 1) := by decide +kernel
theorem dX11_inState_5 : decode cX11_inState 5 = .ok (.aload_n 0, 1) := by decide +kernel
theorem dX11_inState_6 : decode cX11_inState 6 = .ok (.getfield 10, 3) := by decide +kernel
theorem dX11_inState_9 : decode cX11_inState 9 = .ok (.getfield 30, 3) := by decide +kernel
theorem dX11_inState_12 : decode cX11_inState 12 = .ok (.if_icmp .ge 32, 3) := by decide +kernel
theorem dX11_inState_15 : decode cX11_inState 15 = .ok (.iload_n 2, 1) := by decide +kernel
theorem dX11_inState_16 : decode cX11_inState 16 = .ok (.aload_n 0, 1) := by decide +kernel
theorem dX11_inState_17 : decode cX11_inState 17 = .ok (.getfield 10, 3) := by decide +kernel
theorem dX11_inState_20 : decode cX11_inState 20 = .ok (.getfield 36, 3) := by decide +kernel
theorem dX11_inState_23 : decode cX11_inState 23 = .ok (.iload_n 3, 1) := by decide +kernel
theorem dX11_inState_24 : decode cX11_inState 24 = .ok (.aaload, 1) := by decide +kernel
theorem dX11_inState_25 : decode cX11_inState 25 = .ok (.iconst 3, 1) := by decide +kernel
theorem dX11_inState_26 : decode cX11_inState 26 = .ok (.iaload, 1) := by decide +kernel
theorem dX11_inState_27 : decode cX11_inState 27 = .ok (.iload_n 1, 1) := by decide +kernel
theorem dX11_inState_28 : decode cX11_inState 28 = .ok (.if_icmp .ne 7, 3) := by decide +kernel
theorem dX11_inState_31 : decode cX11_inState 31 = .ok (.iconst 1, 1) := by decide +kernel
theorem dX11_inState_32 : decode cX11_inState 32 = .ok (.goto 4, 3) := by decide +kernel
theorem dX11_inState_35 : decode cX11_inState 35 = .ok (.iconst 0, 1) := by decide +kernel
theorem dX11_inState_36 : decode cX11_inState 36 = .ok (.iadd, 1) := by decide +kernel
theorem dX11_inState_37 : decode cX11_inState 37 = .ok (.istore_n 2, 1) := by decide +kernel
theorem dX11_inState_38 : decode cX11_inState 38 = .ok (.iinc 3 1, 3) := by decide +kernel
theorem dX11_inState_41 : decode cX11_inState 41 = .ok (.goto (-37), 3) := by decide +kernel
theorem dX11_inState_44 : decode cX11_inState 44 = .ok (.iload_n 2, 1) := by decide +kernel
theorem dX11_inState_45 : decode cX11_inState 45 = .ok (.ireturn, 1) := by decide +kernel
def fMO_inState_l4 (a1 : Int32) (s1 : zM) (q1 : Int32 × Int32) : Option ((Int32 × Int32) ⊕ ((Int32))) :=
  if (s1 0 0 7) ≤ q1.2 then
  some (.inr q1.1)
else
  zix q1.2 8 fun j3 =>
    zix (3 : Int32) 23 fun j4 =>
    Option.bind (if (s1 8 j3 j4) = a1 then
    some (1 : Int32)
  else
    some (0 : Int32)) fun q5 =>
    zlet ((q1.1 + q5)) fun v9 =>
    zlet (q1.2 + 1) fun v10 =>
    some (.inl (v9, v10))
def fMO_inState (a1 : Int32) (s0 : zM) (s1 : zM) : Option (Int32) :=
  Option.bind (ziter (fMO_inState_l4 a1 s1) 1000 ((0 : Int32), (0 : Int32))) fun q2 =>
  some q2
set_option maxHeartbeats 4000000 in
set_option maxRecDepth 20000 in
theorem bfMO_inState_l4 {X : zX} (F : zFr X cX11_inState 4 RX11 (some .int)) (a1 : Int32) (s1 : zM) (s0 : zM)  {ψ : (Int32 × Int32) ⊕ ((Int32)) → Option zO} (h1 : ∀ q1 : Int32 × Int32, zZ X [(4, [1]), (3, [])] 0 0 4 4 [some (zr 0 0 0), some (zi a1), some (zi q1.1), some (zi q1.2)] [] [s0, s1] (ψ (.inl q1))) (h2 : ∀ q2 : Int32, zZ X [(4, [1]), (3, [])] 0 0 4 44 [none, none, some (zi q2), none] [] [s0, s1] (ψ (.inr q2))) (q1 : Int32 × Int32) : zZ X [(4, [1]), (3, [])] 0 0 4 4 [some (zr 0 0 0), some (zi a1), some (zi q1.1), some (zi q1.2)] [] [s0, s1] (Option.bind (fMO_inState_l4 a1 s1 q1) ψ) := by
  unfold fMO_inState_l4
  refine zz_iload_n F (i := 3) dX11_inState_4 rfl rfl ?_
  refine zz_aload_n F (i := 0) dX11_inState_5 rfl rfl ?_
  refine zz_getr F dX11_inState_6 wfRX11_10 zCl_10 rfl (⟨zlb rfl, zlb rfl, zlb rfl⟩) rfl (by decide) rfl (r' := 1) (by decide) ?_
  refine zz_getf F dX11_inState_9 wfRX11_30 zCl_9 rfl (⟨zlb rfl, zlb rfl, zlb rfl⟩) rfl (by decide) rfl rfl ?_
  refine zz_icmp_ge F (tgt := 44) dX11_inState_12 (by decide) (fun h => zz_t h ?_) (fun h => zz_f h ?_)
  · exact zz_sub (zs_n (zs_n (zs_k (zs_n zs_z)))) (h2 q1.1)
  · refine zz_iload_n F (i := 2) dX11_inState_15 rfl rfl ?_
    refine zz_aload_n F (i := 0) dX11_inState_16 rfl rfl ?_
    refine zz_getr F dX11_inState_17 wfRX11_10 zCl_10 rfl (⟨zlb rfl, zlb rfl, zlb rfl⟩) rfl (by decide) rfl (r' := 1) (by decide) ?_
    refine zz_getr F dX11_inState_20 wfRX11_36 zCl_9 rfl (⟨zlb rfl, zlb rfl, zlb rfl⟩) rfl (by decide) rfl (r' := 1) (by decide) ?_
    refine zz_iload_n F (i := 3) dX11_inState_23 rfl rfl ?_
    refine zz_ix fun j3 hj3 hinj3 hej3 => zz_aal F dX11_inState_24 rfl (⟨zlb rfl, zlb rfl, zlb rfl⟩) rfl (by decide) rfl hinj3 hej3 rfl ?_
    refine zz_iconst F (v := (3 : Int32)) dX11_inState_25 (by decide) ?_
    refine zz_ix fun j4 hj4 hinj4 hej4 => zz_ial F dX11_inState_26 rfl (⟨zlb rfl, zlb rfl, hj3⟩) rfl hinj4 hej4 ?_
    refine zz_iload_n F (i := 1) dX11_inState_27 rfl rfl ?_
    refine zz_join (pj := 36) (Lj := fun q5 => [some (zr 0 0 0), some (zi a1), none, some (zi q1.2)]) (Sj := fun q5 => [zi q5, zi q1.1]) (Mj := fun q5 => [s0, s1]) (fun q5 => ?_) (fun κ7 hj6 => ?_)
    · refine zz_iadd F dX11_inState_36 ?_
      refine zz_istore_n F (i := 2) (L' := [some (zr 0 0 0), some (zi a1), some (zi (q1.1 + q5)), some (zi q1.2)]) dX11_inState_37 rfl (by decide) rfl rfl ?_
      refine zz_letl (Lf := fun v9 => [some (zr 0 0 0), some (zi a1), some (zi v9), some (zi q1.2)]) fun v9 => ?_
      refine zz_iinc F (i := 3) (v := q1.2 + 1) (L' := [some (zr 0 0 0), some (zi a1), some (zi v9), some (zi (q1.2 + 1))]) dX11_inState_38 rfl (by first | rfl | decide) (by decide) rfl rfl ?_
      refine zz_letl (Lf := fun v10 => [some (zr 0 0 0), some (zi a1), some (zi v9), some (zi v10)]) fun v10 => ?_
      refine zz_goto F (tgt := 4) dX11_inState_41 (by decide) ?_
      exact zz_sub (zs_k (zs_k (zs_k (zs_k zs_z)))) (h1 (v9, v10))
    · refine zz_icmp_ne F (tgt := 35) dX11_inState_28 (by decide) (fun h => zz_f h ?_) (fun h => zz_t h ?_)
      · refine zz_iconst F (v := (0 : Int32)) dX11_inState_35 (by decide) ?_
        exact zz_sub (zs_k (zs_k (zs_n (zs_k zs_z)))) (hj6 (0 : Int32))
      · refine zz_iconst F (v := (1 : Int32)) dX11_inState_31 (by decide) ?_
        refine zz_goto F (tgt := 36) dX11_inState_32 (by decide) ?_
        exact zz_sub (zs_k (zs_k (zs_n (zs_k zs_z)))) (hj6 (1 : Int32))
set_option maxHeartbeats 4000000 in
set_option maxRecDepth 20000 in
theorem bfMO_inState {X : zX} (F : zFr X cX11_inState 4 RX11 (some .int)) (a1 : Int32)  (s0 : zM) (s1 : zM) {κ : Int32 → Option zO} (hκ : ∀ a, κ a = some ((fun a => ((.inl ((fun q => some (zi q)) a), (fun _ => [s0, s1]) a) : zO)) a)) : zZ X [(4, [1]), (3, [])] 0 0 4 0 [some (zr 0 0 0), some (zi a1), none, none] [] [s0, s1] (Option.bind (fMO_inState a1 s0 s1) κ) := by
  unfold fMO_inState
  refine zz_iconst F (v := (0 : Int32)) dX11_inState_0 (by decide) ?_
  refine zz_istore_n F (i := 2) (L' := [some (zr 0 0 0), some (zi a1), some (zi (0 : Int32)), none]) dX11_inState_1 rfl (by decide) rfl rfl ?_
  refine zz_iconst F (v := (0 : Int32)) dX11_inState_2 (by decide) ?_
  refine zz_istore_n F (i := 3) (L' := [some (zr 0 0 0), some (zi a1), some (zi (0 : Int32)), some (zi (0 : Int32))]) dX11_inState_3 rfl (by decide) rfl rfl ?_
  refine zz_sub (zs_k (zs_k (zs_k (zs_k zs_z)))) ?_
  refine zz_bind ?_
  refine zz_iter (Lf := fun q1 => [some (zr 0 0 0), some (zi a1), some (zi q1.1), some (zi q1.2)]) (Mf := fun q1 => [s0, s1]) (fun q1 _ e11 e12 => bfMO_inState_l4 F a1 s1 s0  e11 (fun q2 => ?_)  q1) 1000 ((0 : Int32), (0 : Int32))
  rw [e12]
  refine zz_iload_n F (i := 2) dX11_inState_44 rfl rfl ?_
  exact zz_ireturn F dX11_inState_45 rfl (hκ _)
theorem zfMO_inState (a1 : Int32)  (s0 : zM) (s1 : zM) : ∀ a, fMO_inState a1 s0 s1 = some a → zMet yX11_inState cX11_inState 4 (some .int) 0 0 [(4, [1]), (3, [])] [zr 0 0 0, zi a1] [s0, s1] ((fun a => ((.inl ((fun q => some (zi q)) a), (fun _ => [s0, s1]) a) : zO)) a) := fun a ha => zMet_of (L0 := [some (zr 0 0 0), some (zi a1), none, none]) (φ := Option.bind (fMO_inState a1 s0 s1) (fun a => some ((fun a => ((.inl ((fun q => some (zi q)) a), (fun _ => [s0, s1]) a) : zO)) a))) (by decide) (fun _ => Nat.le_of_ble_eq_true rfl) (zl0 2 rfl) (fun X F => bfMO_inState F a1 s0 s1 (fun _ => rfl)) (by rw [ha]; rfl)

theorem dX11_manyNow_0 : decode cX11_manyNow 0 = .ok (.iload_n 1, 1) := by decide +kernel
theorem dX11_manyNow_1 : decode cX11_manyNow 1 = .ok (.tableswitch 155 0 12 #[67, 75, 83, 91, 99, 99, 99, 107, 115, 123, 131, 139, 147], 67) := by decide +kernel
theorem dX11_manyNow_68 : decode cX11_manyNow 68 = .ok (.aload_n 0, 1) := by decide +kernel
theorem dX11_manyNow_69 : decode cX11_manyNow 69 = .ok (.getfield 10, 3) := by decide +kernel
theorem dX11_manyNow_72 : decode cX11_manyNow 72 = .ok (.getfield 30, 3) := by decide +kernel
theorem dX11_manyNow_75 : decode cX11_manyNow 75 = .ok (.ireturn, 1) := by decide +kernel
theorem dX11_manyNow_76 : decode cX11_manyNow 76 = .ok (.aload_n 0, 1) := by decide +kernel
theorem dX11_manyNow_77 : decode cX11_manyNow 77 = .ok (.getfield 10, 3) := by decide +kernel
theorem dX11_manyNow_80 : decode cX11_manyNow 80 = .ok (.getfield 44, 3) := by decide +kernel
theorem dX11_manyNow_83 : decode cX11_manyNow 83 = .ok (.ireturn, 1) := by decide +kernel
theorem dX11_manyNow_84 : decode cX11_manyNow 84 = .ok (.aload_n 0, 1) := by decide +kernel
theorem dX11_manyNow_85 : decode cX11_manyNow 85 = .ok (.getfield 10, 3) := by decide +kernel
theorem dX11_manyNow_88 : decode cX11_manyNow 88 = .ok (.getfield 33, 3) := by decide +kernel
theorem dX11_manyNow_91 : decode cX11_manyNow 91 = .ok (.ireturn, 1) := by decide +kernel
theorem dX11_manyNow_92 : decode cX11_manyNow 92 = .ok (.aload_n 0, 1) := by decide +kernel
theorem dX11_manyNow_93 : decode cX11_manyNow 93 = .ok (.getfield 10, 3) := by decide +kernel
theorem dX11_manyNow_96 : decode cX11_manyNow 96 = .ok (.getfield 63, 3) := by decide +kernel
theorem dX11_manyNow_99 : decode cX11_manyNow 99 = .ok (.ireturn, 1) := by decide +kernel
theorem dX11_manyNow_100 : decode cX11_manyNow 100 = .ok (.aload_n 0, 1) := by decide +kernel
theorem dX11_manyNow_101 : decode cX11_manyNow 101 = .ok (.iload_n 1, 1) := by decide +kernel
theorem dX11_manyNow_102 : decode cX11_manyNow 102 = .ok (.iconst 2, 1) := by decide +kernel
theorem dX11_manyNow_103 : decode cX11_manyNow 103 = .ok (.isub, 1) := by decide +kernel
theorem dX11_manyNow_104 : decode cX11_manyNow 104 = .ok (.invokevirtual 132, 3) := by decide +kernel
theorem dX11_manyNow_107 : decode cX11_manyNow 107 = .ok (.ireturn, 1) := by decide +kernel
theorem dX11_manyNow_108 : decode cX11_manyNow 108 = .ok (.aload_n 0, 1) := by decide +kernel
theorem dX11_manyNow_109 : decode cX11_manyNow 109 = .ok (.getfield 10, 3) := by decide +kernel
theorem dX11_manyNow_112 : decode cX11_manyNow 112 = .ok (.getfield 135, 3) := by decide +kernel
theorem dX11_manyNow_115 : decode cX11_manyNow 115 = .ok (.ireturn, 1) := by decide +kernel
theorem dX11_manyNow_116 : decode cX11_manyNow 116 = .ok (.aload_n 0, 1) := by decide +kernel
theorem dX11_manyNow_117 : decode cX11_manyNow 117 = .ok (.getfield 10, 3) := by decide +kernel
theorem dX11_manyNow_120 : decode cX11_manyNow 120 = .ok (.getfield 138, 3) := by decide +kernel
theorem dX11_manyNow_123 : decode cX11_manyNow 123 = .ok (.ireturn, 1) := by decide +kernel
theorem dX11_manyNow_124 : decode cX11_manyNow 124 = .ok (.aload_n 0, 1) := by decide +kernel
theorem dX11_manyNow_125 : decode cX11_manyNow 125 = .ok (.getfield 10, 3) := by decide +kernel
theorem dX11_manyNow_128 : decode cX11_manyNow 128 = .ok (.getfield 141, 3) := by decide +kernel
theorem dX11_manyNow_131 : decode cX11_manyNow 131 = .ok (.ireturn, 1) := by decide +kernel
theorem dX11_manyNow_132 : decode cX11_manyNow 132 = .ok (.aload_n 0, 1) := by decide +kernel
theorem dX11_manyNow_133 : decode cX11_manyNow 133 = .ok (.getfield 10, 3) := by decide +kernel
theorem dX11_manyNow_136 : decode cX11_manyNow 136 = .ok (.invokevirtual 73, 3) := by decide +kernel
theorem dX11_manyNow_139 : decode cX11_manyNow 139 = .ok (.ireturn, 1) := by decide +kernel
theorem dX11_manyNow_140 : decode cX11_manyNow 140 = .ok (.aload_n 0, 1) := by decide +kernel
theorem dX11_manyNow_141 : decode cX11_manyNow 141 = .ok (.getfield 10, 3) := by decide +kernel
theorem dX11_manyNow_144 : decode cX11_manyNow 144 = .ok (.getfield 144, 3) := by decide +kernel
theorem dX11_manyNow_147 : decode cX11_manyNow 147 = .ok (.ireturn, 1) := by decide +kernel
theorem dX11_manyNow_148 : decode cX11_manyNow 148 = .ok (.aload_n 0, 1) := by decide +kernel
theorem dX11_manyNow_149 : decode cX11_manyNow 149 = .ok (.getfield 10, 3) := by decide +kernel
theorem dX11_manyNow_152 : decode cX11_manyNow 152 = .ok (.getfield 147, 3) := by decide +kernel
theorem dX11_manyNow_155 : decode cX11_manyNow 155 = .ok (.ireturn, 1) := by decide +kernel
theorem dX11_manyNow_156 : decode cX11_manyNow 156 = .ok (.aload_n 0, 1) := by decide +kernel
theorem dX11_manyNow_157 : decode cX11_manyNow 157 = .ok (.getfield 10, 3) := by decide +kernel
theorem dX11_manyNow_160 : decode cX11_manyNow 160 = .ok (.getfield 150, 3) := by decide +kernel
theorem dX11_manyNow_163 : decode cX11_manyNow 163 = .ok (.ireturn, 1) := by decide +kernel
theorem wfRX11_150 : zFl RX11 150 9 19 := ⟨_, rfl, by decide, zm_f 1006 (by decide +kernel) rfl⟩
theorem wcRX11_132 : Cond.methodLink RX11 132 yX11_inState ∈ zTg ∧ Cond.instanceMethod yX11_inState ∈ zTg ∧ Cond.selects RX11 yX11_inState yX11_inState ∈ zTg ∧ Cond.initialized RX11 ∈ zTg ∧ Cond.code yX11_inState cX11_inState 4 (some .int) ∈ zTg := ⟨zm_f 1267 (by decide +kernel) rfl, zm_f 1269 (by decide +kernel) rfl, zm_f 34 (by decide +kernel) rfl, zm_f 46 (by decide +kernel) rfl, zm_f 1270 (by decide +kernel) rfl⟩
theorem wy_yX11_inState : yX11_inState.cls = RX11 ∧ yX11_inState.cls ≠ "java/lang/invoke/MethodHandle" ∧ yX11_inState.cls ≠ "java/lang/invoke/VarHandle" ∧ (parseMethodDescriptor yX11_inState.desc).map (fun d => d.parameters.length) = some 1 := by decide +kernel
theorem wfRX11_135 : zFl RX11 135 9 17 := ⟨_, rfl, by decide, zm_f 1002 (by decide +kernel) rfl⟩
theorem wfRX11_138 : zFl RX11 138 9 18 := ⟨_, rfl, by decide, zm_f 1004 (by decide +kernel) rfl⟩
theorem wfRX11_141 : zFl RX11 141 9 20 := ⟨_, rfl, by decide, zm_f 1008 (by decide +kernel) rfl⟩
theorem wfRX11_144 : zFl RX11 144 9 21 := ⟨_, rfl, by decide, zm_f 1010 (by decide +kernel) rfl⟩
theorem wfRX11_147 : zFl RX11 147 9 22 := ⟨_, rfl, by decide, zm_f 1012 (by decide +kernel) rfl⟩
def fMO_manyNow (a1 : Int32) (s0 : zM) (s1 : zM) : Option (Int32) :=
  if a1 < 0 ∨ 12 < a1 then
  some (s1 0 0 19)
else
  if a1 = 0 then
    some (s1 0 0 7)
  else
    if a1 = 1 then
      some (s1 0 0 8)
    else
      if a1 = 2 then
        some (s1 0 0 9)
      else
        if a1 = 3 then
          some (s1 0 0 10)
        else
          if a1 = 4 then
            Option.bind (fMO_inState (a1 - (2 : Int32)) s0 s1) fun q1 =>
              some q1
          else
            if a1 = 5 then
              Option.bind (fMO_inState (a1 - (2 : Int32)) s0 s1) fun q2 =>
                some q2
            else
              if a1 = 6 then
                Option.bind (fMO_inState (a1 - (2 : Int32)) s0 s1) fun q3 =>
                  some q3
              else
                if a1 = 7 then
                  some (s1 0 0 17)
                else
                  if a1 = 8 then
                    some (s1 0 0 18)
                  else
                    if a1 = 9 then
                      some (s1 0 0 20)
                    else
                      if a1 = 10 then
                        Option.bind (fMS_toCome s1) fun q4 =>
                          some q4
                      else
                        if a1 = 11 then
                          some (s1 0 0 21)
                        else
                          some (s1 0 0 22)
set_option maxHeartbeats 4000000 in
set_option maxRecDepth 20000 in
theorem bfMO_manyNow {X : zX} (F : zFr X cX11_manyNow 2 RX11 (some .int)) (a1 : Int32)  (s0 : zM) (s1 : zM) {κ : Int32 → Option zO} (hκ : ∀ a, κ a = some ((fun a => ((.inl ((fun q => some (zi q)) a), (fun _ => [s0, s1]) a) : zO)) a)) : zZ X [(4, [1]), (3, [])] 1 23 2 0 [some (zr 0 0 0), some (zi a1)] [] [s0, s1] (Option.bind (fMO_manyNow a1 s0 s1) κ) := by
  unfold fMO_manyNow
  refine zz_iload_n F (i := 1) dX11_manyNow_0 rfl rfl ?_
  refine zz_sw (c := a1 < 0 ∨ 12 < a1) (fun h => ?_) (fun h => ?_)
  · refine zz_tableOut F (tgt := 156) dX11_manyNow_1 (zsw_out (lw := 0) (hi := 12) (a := 0) (b := 12) (by decide) (by decide) h) (by decide) ?_
    refine zz_aload_n F (i := 0) dX11_manyNow_156 rfl rfl ?_
    refine zz_getr F dX11_manyNow_157 wfRX11_10 zCl_10 rfl (⟨zlb rfl, zlb rfl, zlb rfl⟩) rfl (by decide) rfl (r' := 1) (by decide) ?_
    refine zz_getf F dX11_manyNow_160 wfRX11_150 zCl_9 rfl (⟨zlb rfl, zlb rfl, zlb rfl⟩) rfl (by decide) rfl rfl ?_
    exact zz_ireturn F dX11_manyNow_163 rfl (hκ _)
  · refine zz_sw (c := a1 = 0) (fun hv => ?_) (fun hn0 => ?_)
    · refine zz_tableIn F (tgt := 68) (off := 67) dX11_manyNow_1 (by rw [zsw_at (k := 0) (a := 0) hv (by decide)]; decide) (by rw [zsw_at (k := 0) (a := 0) hv (by decide)]; decide) (by rw [zsw_at (k := 0) (a := 0) hv (by decide)]; rfl) (by decide) ?_
      refine zz_aload_n F (i := 0) dX11_manyNow_68 rfl rfl ?_
      refine zz_getr F dX11_manyNow_69 wfRX11_10 zCl_10 rfl (⟨zlb rfl, zlb rfl, zlb rfl⟩) rfl (by decide) rfl (r' := 1) (by decide) ?_
      refine zz_getf F dX11_manyNow_72 wfRX11_30 zCl_9 rfl (⟨zlb rfl, zlb rfl, zlb rfl⟩) rfl (by decide) rfl rfl ?_
      exact zz_ireturn F dX11_manyNow_75 rfl (hκ _)
    · refine zz_sw (c := a1 = 1) (fun hv => ?_) (fun hn1 => ?_)
      · refine zz_tableIn F (tgt := 76) (off := 75) dX11_manyNow_1 (by rw [zsw_at (k := 1) (a := 1) hv (by decide)]; decide) (by rw [zsw_at (k := 1) (a := 1) hv (by decide)]; decide) (by rw [zsw_at (k := 1) (a := 1) hv (by decide)]; rfl) (by decide) ?_
        refine zz_aload_n F (i := 0) dX11_manyNow_76 rfl rfl ?_
        refine zz_getr F dX11_manyNow_77 wfRX11_10 zCl_10 rfl (⟨zlb rfl, zlb rfl, zlb rfl⟩) rfl (by decide) rfl (r' := 1) (by decide) ?_
        refine zz_getf F dX11_manyNow_80 wfRX11_44 zCl_9 rfl (⟨zlb rfl, zlb rfl, zlb rfl⟩) rfl (by decide) rfl rfl ?_
        exact zz_ireturn F dX11_manyNow_83 rfl (hκ _)
      · refine zz_sw (c := a1 = 2) (fun hv => ?_) (fun hn2 => ?_)
        · refine zz_tableIn F (tgt := 84) (off := 83) dX11_manyNow_1 (by rw [zsw_at (k := 2) (a := 2) hv (by decide)]; decide) (by rw [zsw_at (k := 2) (a := 2) hv (by decide)]; decide) (by rw [zsw_at (k := 2) (a := 2) hv (by decide)]; rfl) (by decide) ?_
          refine zz_aload_n F (i := 0) dX11_manyNow_84 rfl rfl ?_
          refine zz_getr F dX11_manyNow_85 wfRX11_10 zCl_10 rfl (⟨zlb rfl, zlb rfl, zlb rfl⟩) rfl (by decide) rfl (r' := 1) (by decide) ?_
          refine zz_getf F dX11_manyNow_88 wfRX11_33 zCl_9 rfl (⟨zlb rfl, zlb rfl, zlb rfl⟩) rfl (by decide) rfl rfl ?_
          exact zz_ireturn F dX11_manyNow_91 rfl (hκ _)
        · refine zz_sw (c := a1 = 3) (fun hv => ?_) (fun hn3 => ?_)
          · refine zz_tableIn F (tgt := 92) (off := 91) dX11_manyNow_1 (by rw [zsw_at (k := 3) (a := 3) hv (by decide)]; decide) (by rw [zsw_at (k := 3) (a := 3) hv (by decide)]; decide) (by rw [zsw_at (k := 3) (a := 3) hv (by decide)]; rfl) (by decide) ?_
            refine zz_aload_n F (i := 0) dX11_manyNow_92 rfl rfl ?_
            refine zz_getr F dX11_manyNow_93 wfRX11_10 zCl_10 rfl (⟨zlb rfl, zlb rfl, zlb rfl⟩) rfl (by decide) rfl (r' := 1) (by decide) ?_
            refine zz_getf F dX11_manyNow_96 wfRX11_63 zCl_9 rfl (⟨zlb rfl, zlb rfl, zlb rfl⟩) rfl (by decide) rfl rfl ?_
            exact zz_ireturn F dX11_manyNow_99 rfl (hκ _)
          · refine zz_sw (c := a1 = 4) (fun hv => ?_) (fun hn4 => ?_)
            · refine zz_tableIn F (tgt := 100) (off := 99) dX11_manyNow_1 (by rw [zsw_at (k := 4) (a := 4) hv (by decide)]; decide) (by rw [zsw_at (k := 4) (a := 4) hv (by decide)]; decide) (by rw [zsw_at (k := 4) (a := 4) hv (by decide)]; rfl) (by decide) ?_
              refine zz_aload_n F (i := 0) dX11_manyNow_100 rfl rfl ?_
              refine zz_iload_n F (i := 1) dX11_manyNow_101 rfl rfl ?_
              refine zz_iconst F (v := (2 : Int32)) dX11_manyNow_102 (by decide) ?_
              refine zz_isub F dX11_manyNow_103 ?_
              refine zz_bind ?_
              refine zz_callVr F (ρ := [0, 1]) (so := fun q1 => [zi q1]) (Mo := fun q1 => [s0, s1]) (zfMO_inState (a1 - (2 : Int32)) s0 s1) dX11_manyNow_104 wcRX11_132 wy_yX11_inState rfl ⟨rel15, rfl, rfl, Nat.le_of_ble_eq_true rfl, Nat.le_of_ble_eq_true rfl, Nat.le_of_ble_eq_true rfl⟩ (⟨zlb rfl, zlb rfl, zlb rfl⟩) rfl rfl rfl (fun _ => rfl) (fun _ => rfl) fun q1 => ?_
              exact zz_ireturn F dX11_manyNow_107 rfl (hκ _)
            · refine zz_sw (c := a1 = 5) (fun hv => ?_) (fun hn5 => ?_)
              · refine zz_tableIn F (tgt := 100) (off := 99) dX11_manyNow_1 (by rw [zsw_at (k := 5) (a := 5) hv (by decide)]; decide) (by rw [zsw_at (k := 5) (a := 5) hv (by decide)]; decide) (by rw [zsw_at (k := 5) (a := 5) hv (by decide)]; rfl) (by decide) ?_
                refine zz_aload_n F (i := 0) dX11_manyNow_100 rfl rfl ?_
                refine zz_iload_n F (i := 1) dX11_manyNow_101 rfl rfl ?_
                refine zz_iconst F (v := (2 : Int32)) dX11_manyNow_102 (by decide) ?_
                refine zz_isub F dX11_manyNow_103 ?_
                refine zz_bind ?_
                refine zz_callVr F (ρ := [0, 1]) (so := fun q2 => [zi q2]) (Mo := fun q2 => [s0, s1]) (zfMO_inState (a1 - (2 : Int32)) s0 s1) dX11_manyNow_104 wcRX11_132 wy_yX11_inState rfl ⟨rel15, rfl, rfl, Nat.le_of_ble_eq_true rfl, Nat.le_of_ble_eq_true rfl, Nat.le_of_ble_eq_true rfl⟩ (⟨zlb rfl, zlb rfl, zlb rfl⟩) rfl rfl rfl (fun _ => rfl) (fun _ => rfl) fun q2 => ?_
                exact zz_ireturn F dX11_manyNow_107 rfl (hκ _)
              · refine zz_sw (c := a1 = 6) (fun hv => ?_) (fun hn6 => ?_)
                · refine zz_tableIn F (tgt := 100) (off := 99) dX11_manyNow_1 (by rw [zsw_at (k := 6) (a := 6) hv (by decide)]; decide) (by rw [zsw_at (k := 6) (a := 6) hv (by decide)]; decide) (by rw [zsw_at (k := 6) (a := 6) hv (by decide)]; rfl) (by decide) ?_
                  refine zz_aload_n F (i := 0) dX11_manyNow_100 rfl rfl ?_
                  refine zz_iload_n F (i := 1) dX11_manyNow_101 rfl rfl ?_
                  refine zz_iconst F (v := (2 : Int32)) dX11_manyNow_102 (by decide) ?_
                  refine zz_isub F dX11_manyNow_103 ?_
                  refine zz_bind ?_
                  refine zz_callVr F (ρ := [0, 1]) (so := fun q3 => [zi q3]) (Mo := fun q3 => [s0, s1]) (zfMO_inState (a1 - (2 : Int32)) s0 s1) dX11_manyNow_104 wcRX11_132 wy_yX11_inState rfl ⟨rel15, rfl, rfl, Nat.le_of_ble_eq_true rfl, Nat.le_of_ble_eq_true rfl, Nat.le_of_ble_eq_true rfl⟩ (⟨zlb rfl, zlb rfl, zlb rfl⟩) rfl rfl rfl (fun _ => rfl) (fun _ => rfl) fun q3 => ?_
                  exact zz_ireturn F dX11_manyNow_107 rfl (hκ _)
                · refine zz_sw (c := a1 = 7) (fun hv => ?_) (fun hn7 => ?_)
                  · refine zz_tableIn F (tgt := 108) (off := 107) dX11_manyNow_1 (by rw [zsw_at (k := 7) (a := 7) hv (by decide)]; decide) (by rw [zsw_at (k := 7) (a := 7) hv (by decide)]; decide) (by rw [zsw_at (k := 7) (a := 7) hv (by decide)]; rfl) (by decide) ?_
                    refine zz_aload_n F (i := 0) dX11_manyNow_108 rfl rfl ?_
                    refine zz_getr F dX11_manyNow_109 wfRX11_10 zCl_10 rfl (⟨zlb rfl, zlb rfl, zlb rfl⟩) rfl (by decide) rfl (r' := 1) (by decide) ?_
                    refine zz_getf F dX11_manyNow_112 wfRX11_135 zCl_9 rfl (⟨zlb rfl, zlb rfl, zlb rfl⟩) rfl (by decide) rfl rfl ?_
                    exact zz_ireturn F dX11_manyNow_115 rfl (hκ _)
                  · refine zz_sw (c := a1 = 8) (fun hv => ?_) (fun hn8 => ?_)
                    · refine zz_tableIn F (tgt := 116) (off := 115) dX11_manyNow_1 (by rw [zsw_at (k := 8) (a := 8) hv (by decide)]; decide) (by rw [zsw_at (k := 8) (a := 8) hv (by decide)]; decide) (by rw [zsw_at (k := 8) (a := 8) hv (by decide)]; rfl) (by decide) ?_
                      refine zz_aload_n F (i := 0) dX11_manyNow_116 rfl rfl ?_
                      refine zz_getr F dX11_manyNow_117 wfRX11_10 zCl_10 rfl (⟨zlb rfl, zlb rfl, zlb rfl⟩) rfl (by decide) rfl (r' := 1) (by decide) ?_
                      refine zz_getf F dX11_manyNow_120 wfRX11_138 zCl_9 rfl (⟨zlb rfl, zlb rfl, zlb rfl⟩) rfl (by decide) rfl rfl ?_
                      exact zz_ireturn F dX11_manyNow_123 rfl (hκ _)
                    · refine zz_sw (c := a1 = 9) (fun hv => ?_) (fun hn9 => ?_)
                      · refine zz_tableIn F (tgt := 124) (off := 123) dX11_manyNow_1 (by rw [zsw_at (k := 9) (a := 9) hv (by decide)]; decide) (by rw [zsw_at (k := 9) (a := 9) hv (by decide)]; decide) (by rw [zsw_at (k := 9) (a := 9) hv (by decide)]; rfl) (by decide) ?_
                        refine zz_aload_n F (i := 0) dX11_manyNow_124 rfl rfl ?_
                        refine zz_getr F dX11_manyNow_125 wfRX11_10 zCl_10 rfl (⟨zlb rfl, zlb rfl, zlb rfl⟩) rfl (by decide) rfl (r' := 1) (by decide) ?_
                        refine zz_getf F dX11_manyNow_128 wfRX11_141 zCl_9 rfl (⟨zlb rfl, zlb rfl, zlb rfl⟩) rfl (by decide) rfl rfl ?_
                        exact zz_ireturn F dX11_manyNow_131 rfl (hκ _)
                      · refine zz_sw (c := a1 = 10) (fun hv => ?_) (fun hn10 => ?_)
                        · refine zz_tableIn F (tgt := 132) (off := 131) dX11_manyNow_1 (by rw [zsw_at (k := 10) (a := 10) hv (by decide)]; decide) (by rw [zsw_at (k := 10) (a := 10) hv (by decide)]; decide) (by rw [zsw_at (k := 10) (a := 10) hv (by decide)]; rfl) (by decide) ?_
                          refine zz_aload_n F (i := 0) dX11_manyNow_132 rfl rfl ?_
                          refine zz_getr F dX11_manyNow_133 wfRX11_10 zCl_10 rfl (⟨zlb rfl, zlb rfl, zlb rfl⟩) rfl (by decide) rfl (r' := 1) (by decide) ?_
                          refine zz_bind ?_
                          refine zz_callVr F (ρ := [1]) (so := fun q4 => [zi q4]) (Mo := fun q4 => [s0, s1]) (zfMS_toCome s1) dX11_manyNow_136 wcRX11_73 wy_yX10_toCome rfl ⟨rel16, rfl, rfl, Nat.le_of_ble_eq_true rfl, Nat.le_of_ble_eq_true rfl, Nat.le_of_ble_eq_true rfl⟩ (⟨zlb rfl, zlb rfl, zlb rfl⟩) rfl rfl rfl (fun _ => rfl) (fun _ => rfl) fun q4 => ?_
                          exact zz_ireturn F dX11_manyNow_139 rfl (hκ _)
                        · refine zz_sw (c := a1 = 11) (fun hv => ?_) (fun hn11 => ?_)
                          · refine zz_tableIn F (tgt := 140) (off := 139) dX11_manyNow_1 (by rw [zsw_at (k := 11) (a := 11) hv (by decide)]; decide) (by rw [zsw_at (k := 11) (a := 11) hv (by decide)]; decide) (by rw [zsw_at (k := 11) (a := 11) hv (by decide)]; rfl) (by decide) ?_
                            refine zz_aload_n F (i := 0) dX11_manyNow_140 rfl rfl ?_
                            refine zz_getr F dX11_manyNow_141 wfRX11_10 zCl_10 rfl (⟨zlb rfl, zlb rfl, zlb rfl⟩) rfl (by decide) rfl (r' := 1) (by decide) ?_
                            refine zz_getf F dX11_manyNow_144 wfRX11_144 zCl_9 rfl (⟨zlb rfl, zlb rfl, zlb rfl⟩) rfl (by decide) rfl rfl ?_
                            exact zz_ireturn F dX11_manyNow_147 rfl (hκ _)
                          · have hv : a1 = 12 := zsw_eq (a := 12) (by decide) (by have h1 := zsw_in (lw := 0) (hi := 12) (a := 0) (b := 12) (by decide) (by decide) h; have e0 := zsw_ne (a := 0) (by decide) hn0; have e1 := zsw_ne (a := 1) (by decide) hn1; have e2 := zsw_ne (a := 2) (by decide) hn2; have e3 := zsw_ne (a := 3) (by decide) hn3; have e4 := zsw_ne (a := 4) (by decide) hn4; have e5 := zsw_ne (a := 5) (by decide) hn5; have e6 := zsw_ne (a := 6) (by decide) hn6; have e7 := zsw_ne (a := 7) (by decide) hn7; have e8 := zsw_ne (a := 8) (by decide) hn8; have e9 := zsw_ne (a := 9) (by decide) hn9; have e10 := zsw_ne (a := 10) (by decide) hn10; have e11 := zsw_ne (a := 11) (by decide) hn11; omega)
                            refine zz_tableIn F (tgt := 148) (off := 147) dX11_manyNow_1 (by rw [zsw_at (k := 12) (a := 12) hv (by decide)]; decide) (by rw [zsw_at (k := 12) (a := 12) hv (by decide)]; decide) (by rw [zsw_at (k := 12) (a := 12) hv (by decide)]; rfl) (by decide) ?_
                            refine zz_aload_n F (i := 0) dX11_manyNow_148 rfl rfl ?_
                            refine zz_getr F dX11_manyNow_149 wfRX11_10 zCl_10 rfl (⟨zlb rfl, zlb rfl, zlb rfl⟩) rfl (by decide) rfl (r' := 1) (by decide) ?_
                            refine zz_getf F dX11_manyNow_152 wfRX11_147 zCl_9 rfl (⟨zlb rfl, zlb rfl, zlb rfl⟩) rfl (by decide) rfl rfl ?_
                            exact zz_ireturn F dX11_manyNow_155 rfl (hκ _)
theorem zfMO_manyNow (a1 : Int32)  (s0 : zM) (s1 : zM) : ∀ a, fMO_manyNow a1 s0 s1 = some a → zMet yX11_manyNow cX11_manyNow 2 (some .int) 1 23 [(4, [1]), (3, [])] [zr 0 0 0, zi a1] [s0, s1] ((fun a => ((.inl ((fun q => some (zi q)) a), (fun _ => [s0, s1]) a) : zO)) a) := fun a ha => zMet_of (L0 := [some (zr 0 0 0), some (zi a1)]) (φ := Option.bind (fMO_manyNow a1 s0 s1) (fun a => some ((fun a => ((.inl ((fun q => some (zi q)) a), (fun _ => [s0, s1]) a) : zO)) a))) (by decide) (fun _ => Nat.le_of_ble_eq_true rfl) (zl0 0 rfl) (fun X F => bfMO_manyNow F a1 s0 s1 (fun _ => rfl)) (by rw [ha]; rfl)
