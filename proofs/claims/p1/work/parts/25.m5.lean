theorem dX9_checkTurbine_0 : decode cX9_checkTurbine 0 = .ok (.aload_n 0, 1) := by decide +kernel
theorem dX9_checkTurbine_1 : decode cX9_checkTurbine 1 = .ok (.getfield 10, 3) := by decide +kernel
theorem dX9_checkTurbine_4 : decode cX9_checkTurbine 4 = .ok (.iload_n 1, 1) := by decide +kernel
theorem dX9_checkTurbine_5 : decode cX9_checkTurbine 5 = .ok (.invokevirtual 168, 3) := by decide +kernel
theorem dX9_checkTurbine_8 : decode cX9_checkTurbine 8 = .ok (.ifCond .ne 14, 3) := by decide +kernel
theorem dX9_checkTurbine_11 : decode cX9_checkTurbine 11 = .ok (.new 238, 3) := by decide +kernel
theorem dX9_checkTurbine_14 : decode cX9_checkTurbine 14 = .ok (.dup, 1) := by decide +kernel
theorem dX9_checkTurbine_15 : decode cX9_checkTurbine 15 = .ok (.ldc_w 362, 3) := by decide +kernel
theorem dX9_checkTurbine_18 : decode cX9_checkTurbine 18 = .ok (.invokespecial 242, 3) := by decide +kernel
theorem dX9_checkTurbine_21 : decode cX9_checkTurbine 21 = .ok (.athrow, 1) := by decide +kernel
theorem dX9_checkTurbine_22 : decode cX9_checkTurbine 22 = .ok (.return_, 1) := by decide +kernel
theorem wcRX9_168 : Cond.methodLink RX9 168 yX3_hasTurbine ∈ zTg ∧ Cond.instanceMethod yX3_hasTurbine ∈ zTg ∧ Cond.selects RX3 yX3_hasTurbine yX3_hasTurbine ∈ zTg ∧ Cond.initialized RX3 ∈ zTg ∧ Cond.code yX3_hasTurbine cX3_hasTurbine 2 (some .boolean) ∈ zTg := ⟨zm_f 500 (by decide +kernel) rfl, zm_f 501 (by decide +kernel) rfl, zm_f 502 (by decide +kernel) rfl, zm_f 38 (by decide +kernel) rfl, zm_f 503 (by decide +kernel) rfl⟩
theorem wsRX9_362 : (RX9, 362, "no such TURBINE") ∈ zstr := by decide +kernel
def fWB_checkTurbine (a1 : Int32) (s0 : zM) (s1 : zM) (s2 : zM) (s3 : zM) : Option ((Unit) ⊕ (String)) :=
  Option.bind (fSe_hasTurbine a1 s1) fun q1 =>
  if q1 = 0 then
  some (.inr "java/lang/IndexOutOfBoundsException")
else
  some (.inl ())
set_option maxHeartbeats 4000000 in
set_option maxRecDepth 20000 in
theorem bfWB_checkTurbine {X : zX} (F : zFr X cX9_checkTurbine 2 RX9 none) (a1 : Int32)  (s0 : zM) (s1 : zM) (s2 : zM) (s3 : zM) {κ : (Unit) ⊕ (String) → Option zO} (hκ : ∀ a, κ a = some ((zts (fun _ => (none : Option zV)) (fun _ => [s0, s1, s2, s3]) (fun b => b) (fun _ => [s0, s1, s2, s3])) a)) : zZ X [(2, [1, 2, 3]), (0, []), (0, []), (1, [])] 6 90 2 0 [some (zr 0 0 0), some (zi a1)] [] [s0, s1, s2, s3] (Option.bind (fWB_checkTurbine a1 s0 s1 s2 s3) κ) := by
  unfold fWB_checkTurbine
  refine zz_aload_n F (i := 0) dX9_checkTurbine_0 rfl rfl ?_
  refine zz_getr F dX9_checkTurbine_1 wfRX9_10 zCl_8 rfl (⟨zlb rfl, zlb rfl, zlb rfl⟩) rfl (by decide) rfl (r' := 1) (by decide) ?_
  refine zz_iload_n F (i := 1) dX9_checkTurbine_4 rfl rfl ?_
  refine zz_bind ?_
  refine zz_callVr F (ρ := [1]) (so := fun q1 => [zi q1]) (Mo := fun q1 => [s0, s1, s2, s3]) (zfSe_hasTurbine a1 s1) dX9_checkTurbine_5 wcRX9_168 wy_yX3_hasTurbine rfl ⟨rel1, rfl, rfl, Nat.le_of_ble_eq_true rfl, Nat.le_of_ble_eq_true rfl, Nat.le_of_ble_eq_true rfl⟩ (⟨zlb rfl, zlb rfl, zlb rfl⟩) rfl rfl rfl (fun _ => rfl) (fun _ => rfl) fun q1 => ?_
  refine zz_if_ne F (tgt := 22) dX9_checkTurbine_8 (by decide) (fun h => zz_f h ?_) (fun h => zz_t h ?_)
  · exact zz_return F dX9_checkTurbine_22 rfl (hκ _)
  · exact zz_throwW F (cls := "java/lang/IndexOutOfBoundsException") dX9_checkTurbine_11 dX9_checkTurbine_14 dX9_checkTurbine_15 dX9_checkTurbine_18 dX9_checkTurbine_21 (by decide) wtRX9_238_242k wsRX9_362 wtRX9_238_242g wtRX9_238_242n wtRX9_238_242o (Nat.le_of_ble_eq_true rfl) (Nat.le_of_ble_eq_true rfl) (hκ _)
theorem zfWB_checkTurbine (a1 : Int32)  (s0 : zM) (s1 : zM) (s2 : zM) (s3 : zM) : ∀ a, fWB_checkTurbine a1 s0 s1 s2 s3 = some a → zMet yX9_checkTurbine cX9_checkTurbine 2 none 6 90 [(2, [1, 2, 3]), (0, []), (0, []), (1, [])] [zr 0 0 0, zi a1] [s0, s1, s2, s3] ((zts (fun _ => (none : Option zV)) (fun _ => [s0, s1, s2, s3]) (fun b => b) (fun _ => [s0, s1, s2, s3])) a) := fun a ha => zMet_of (L0 := [some (zr 0 0 0), some (zi a1)]) (φ := Option.bind (fWB_checkTurbine a1 s0 s1 s2 s3) (fun a => some ((zts (fun _ => (none : Option zV)) (fun _ => [s0, s1, s2, s3]) (fun b => b) (fun _ => [s0, s1, s2, s3])) a))) (by decide) (fun _ => Nat.le_of_ble_eq_true rfl) (zl0 0 rfl) (fun X F => bfWB_checkTurbine F a1 s0 s1 s2 s3 (fun _ => rfl)) (by rw [ha]; rfl)

theorem dX9_turn_0 : decode cX9_turn 0 = .ok (.aload_n 0, 1) := by decide +kernel
theorem dX9_turn_1 : decode cX9_turn 1 = .ok (.iload_n 1, 1) := by decide +kernel
theorem dX9_turn_2 : decode cX9_turn 2 = .ok (.invokevirtual 113, 3) := by decide +kernel
theorem dX9_turn_5 : decode cX9_turn 5 = .ok (.iload_n 2, 1) := by decide +kernel
theorem dX9_turn_6 : decode cX9_turn 6 = .ok (.bipush (-2), 2) := by decide +kernel
theorem dX9_turn_8 : decode cX9_turn 8 = .ok (.iconst 2, 1) := by decide +kernel
theorem dX9_turn_9 : decode cX9_turn 9 = .ok (.invokestatic 26, 3) := by decide +kernel
theorem dX9_turn_12 : decode cX9_turn 12 = .ok (.ifCond .eq 13, 3) := by decide +kernel
theorem dX9_turn_15 : decode cX9_turn 15 = .ok (.new 30, 3) := by decide +kernel
theorem dX9_turn_18 : decode cX9_turn 18 = .ok (.dup, 1) := by decide +kernel
theorem dX9_turn_19 : decode cX9_turn 19 = .ok (.ldc 116, 2) := by decide +kernel
theorem dX9_turn_21 : decode cX9_turn 21 = .ok (.invokespecial 34, 3) := by decide +kernel
theorem dX9_turn_24 : decode cX9_turn 24 = .ok (.athrow, 1) := by decide +kernel
theorem dX9_turn_25 : decode cX9_turn 25 = .ok (.aload_n 0, 1) := by decide +kernel
theorem dX9_turn_26 : decode cX9_turn 26 = .ok (.getfield 10, 3) := by decide +kernel
theorem dX9_turn_29 : decode cX9_turn 29 = .ok (.getfield 118, 3) := by decide +kernel
theorem dX9_turn_32 : decode cX9_turn 32 = .ok (.iload_n 1, 1) := by decide +kernel
theorem dX9_turn_33 : decode cX9_turn 33 = .ok (.aaload, 1) := by decide +kernel
theorem dX9_turn_34 : decode cX9_turn 34 = .ok (.astore_n 3, 1) := by decide +kernel
theorem dX9_turn_35 : decode cX9_turn 35 = .ok (.aload_n 3, 1) := by decide +kernel
theorem dX9_turn_36 : decode cX9_turn 36 = .ok (.getfield 122, 3) := by decide +kernel
theorem dX9_turn_39 : decode cX9_turn 39 = .ok (.istore 4, 2) := by decide +kernel
theorem dX9_turn_41 : decode cX9_turn 41 = .ok (.aload_n 3, 1) := by decide +kernel
theorem dX9_turn_42 : decode cX9_turn 42 = .ok (.iload_n 2, 1) := by decide +kernel
theorem dX9_turn_43 : decode cX9_turn 43 = .ok (.putfield 122, 3) := by decide +kernel
theorem dX9_turn_46 : decode cX9_turn 46 = .ok (.iload 4, 2) := by decide +kernel
theorem dX9_turn_48 : decode cX9_turn 48 = .ok (.ireturn, 1) := by decide +kernel
theorem wcRX9_113 : Cond.methodLink RX9 113 yX9_checkTurbine ∈ zTg ∧ Cond.instanceMethod yX9_checkTurbine ∈ zTg ∧ Cond.selects RX9 yX9_checkTurbine yX9_checkTurbine ∈ zTg ∧ Cond.initialized RX9 ∈ zTg ∧ Cond.code yX9_checkTurbine cX9_checkTurbine 2 none ∈ zTg := ⟨zm_f 496 (by decide +kernel) rfl, zm_f 498 (by decide +kernel) rfl, zm_f 4 (by decide +kernel) rfl, zm_f 37 (by decide +kernel) rfl, zm_f 499 (by decide +kernel) rfl⟩
theorem wy_yX9_checkTurbine : yX9_checkTurbine.cls = RX9 ∧ yX9_checkTurbine.cls ≠ "java/lang/invoke/MethodHandle" ∧ yX9_checkTurbine.cls ≠ "java/lang/invoke/VarHandle" ∧ (parseMethodDescriptor yX9_checkTurbine.desc).map (fun d => d.parameters.length) = some 1 := by decide +kernel
theorem wfRX9_118 : zFl RX9 118 3 0 := ⟨_, rfl, by decide, zm_f 281 (by decide +kernel) rfl⟩
theorem wfRX9_122 : zFl RX9 122 5 7 := ⟨_, rfl, by decide, zm_f 180 (by decide +kernel) rfl⟩
theorem wpRX9_122 : zFw RX9 122 5 7 .int := ⟨_, rfl, by decide, zm_f 180 (by decide +kernel) rfl, rfl, by decide +kernel⟩
theorem wsRX9_116 : (RX9, 116, "a TURN is -2 to 2") ∈ zstr := by decide +kernel
def fWB_turn (a1 : Int32) (a2 : Int32) (s0 : zM) (s1 : zM) (s2 : zM) (s3 : zM) : Option ((Int32 × zM) ⊕ (String × zM)) :=
  Option.bind (fWB_checkTurbine a1 s0 s1 s2 s3) (Sum.elim (fun (_ : Unit) =>
  Option.bind (fWB_outside a2 (-2 : Int32) (2 : Int32)) fun q2 =>
  if q2 = 0 then
  zix a1 8 fun j3 =>
    zlet ((s1 7 j3 7)) fun v4 =>
    zlet (zu s1 7 j3 7 a2) fun s1_5 =>
    some (.inl (v4, s1_5))
else
  some (.inr ("java/lang/IllegalArgumentException", s1))) (fun b => some (.inr (b, s1))))
set_option maxHeartbeats 4000000 in
set_option maxRecDepth 20000 in
theorem bfWB_turn {X : zX} (F : zFr X cX9_turn 5 RX9 (some .int)) (a1 : Int32) (a2 : Int32)  (s0 : zM) (s1 : zM) (s2 : zM) (s3 : zM) {κ : (Int32 × zM) ⊕ (String × zM) → Option zO} (hκ : ∀ a, κ a = some ((zts (fun q => some (zi q.1)) (fun q => [s0, q.2, s2, s3]) (fun b => b.1) (fun b => [s0, b.2, s2, s3])) a)) : zZ X [(2, [1, 2, 3]), (0, []), (0, []), (1, [])] 7 111 5 0 [some (zr 0 0 0), some (zi a1), some (zi a2), none, none] [] [s0, s1, s2, s3] (Option.bind (fWB_turn a1 a2 s0 s1 s2 s3) κ) := by
  unfold fWB_turn
  refine zz_aload_n F (i := 0) dX9_turn_0 rfl rfl ?_
  refine zz_iload_n F (i := 1) dX9_turn_1 rfl rfl ?_
  refine zz_bind ?_
  refine zz_callVx F (ρ := [0, 1, 2, 3]) (so := fun _ => []) (Mo := fun _ => [s0, s1, s2, s3]) (Xo := fun _ => [s0, s1, s2, s3]) (zfWB_checkTurbine a1 s0 s1 s2 s3) dX9_turn_2 wcRX9_113 wy_yX9_checkTurbine rfl ⟨rel2, rfl, rfl, Nat.le_of_ble_eq_true rfl, Nat.le_of_ble_eq_true rfl, Nat.le_of_ble_eq_true rfl⟩ (⟨zlb rfl, zlb rfl, zlb rfl⟩) rfl rfl rfl (fun _ => rfl) (fun _ => rfl) (fun _ => rfl) (fun _ => (hκ _)) fun _ => ?_
  dsimp only [Sum.elim_inl]
  refine zz_iload_n F (i := 2) dX9_turn_5 rfl rfl ?_
  refine zz_bipush F (v := (-2 : Int32)) dX9_turn_6 (by decide) ?_
  refine zz_iconst F (v := (2 : Int32)) dX9_turn_8 (by decide) ?_
  refine zz_bind ?_
  refine zz_callSr F (ρ := []) (so := fun q2 => [zi q2]) (Mo := fun q2 => [s0, s1, s2, s3]) (zfWB_outside a2 (-2 : Int32) (2 : Int32)) dX9_turn_9 wcRX9_26 wy_yX9_outside rfl ⟨rel0, rfl, rfl, Nat.le_of_ble_eq_true rfl, Nat.le_of_ble_eq_true rfl, Nat.le_of_ble_eq_true rfl⟩ rfl (fun _ => rfl) (fun _ => rfl) fun q2 => ?_
  refine zz_if_eq F (tgt := 25) dX9_turn_12 (by decide) (fun h => zz_t h ?_) (fun h => zz_f h ?_)
  · refine zz_aload_n F (i := 0) dX9_turn_25 rfl rfl ?_
    refine zz_getr F dX9_turn_26 wfRX9_10 zCl_8 rfl (⟨zlb rfl, zlb rfl, zlb rfl⟩) rfl (by decide) rfl (r' := 1) (by decide) ?_
    refine zz_getr F dX9_turn_29 wfRX9_118 zCl_3 rfl (⟨zlb rfl, zlb rfl, zlb rfl⟩) rfl (by decide) rfl (r' := 1) (by decide) ?_
    refine zz_iload_n F (i := 1) dX9_turn_32 rfl rfl ?_
    refine zz_ix fun j3 hj3 hinj3 hej3 => zz_aal F dX9_turn_33 rfl (⟨zlb rfl, zlb rfl, zlb rfl⟩) rfl (by decide) rfl hinj3 hej3 rfl ?_
    refine zz_astore_n F (i := 3) (L' := [some (zr 0 0 0), some (zi a1), some (zi a2), some (zr 1 7 j3), none]) dX9_turn_34 rfl (by decide) rfl rfl ?_
    refine zz_aload_n F (i := 3) dX9_turn_35 rfl rfl ?_
    refine zz_getf F dX9_turn_36 wfRX9_122 zCl_5 rfl (⟨zlb rfl, zlb rfl, hj3⟩) rfl (by decide) rfl rfl ?_
    refine zz_istore F (i := 4) (L' := [some (zr 0 0 0), some (zi a1), some (zi a2), some (zr 1 7 j3), some (zi (s1 7 j3 7))]) dX9_turn_39 (by decide) rfl rfl ?_
    refine zz_letl (Lf := fun v4 => [some (zr 0 0 0), some (zi a1), some (zi a2), some (zr 1 7 j3), some (zi v4)]) fun v4 => ?_
    refine zz_aload_n F (i := 3) dX9_turn_41 rfl rfl ?_
    refine zz_iload_n F (i := 2) dX9_turn_42 rfl rfl ?_
    refine zz_put F (Ms' := [s0, (zu s1 7 j3 7 a2), s2, s3]) dX9_turn_43 wpRX9_122 zCl_5 rfl (⟨zlb rfl, zlb rfl, hj3⟩) rfl (by decide) rfl rfl rfl ?_
    refine zz_letm (Mf := fun s1_5 => [s0, s1_5, s2, s3]) fun s1_5 => ?_
    refine zz_iload F (i := 4) dX9_turn_46 rfl ?_
    exact zz_ireturn F dX9_turn_48 rfl (hκ _)
  · exact zz_throw F (cls := "java/lang/IllegalArgumentException") dX9_turn_15 dX9_turn_18 dX9_turn_19 dX9_turn_21 dX9_turn_24 (by decide) wtRX9_30_34k wsRX9_116 wtRX9_30_34g wtRX9_30_34n wtRX9_30_34o (Nat.le_of_ble_eq_true rfl) (Nat.le_of_ble_eq_true rfl) (hκ _)
theorem zfWB_turn (a1 : Int32) (a2 : Int32)  (s0 : zM) (s1 : zM) (s2 : zM) (s3 : zM) : ∀ a, fWB_turn a1 a2 s0 s1 s2 s3 = some a → zMet yX9_turn cX9_turn 5 (some .int) 7 111 [(2, [1, 2, 3]), (0, []), (0, []), (1, [])] [zr 0 0 0, zi a1, zi a2] [s0, s1, s2, s3] ((zts (fun q => some (zi q.1)) (fun q => [s0, q.2, s2, s3]) (fun b => b.1) (fun b => [s0, b.2, s2, s3])) a) := fun a ha => zMet_of (L0 := [some (zr 0 0 0), some (zi a1), some (zi a2), none, none]) (φ := Option.bind (fWB_turn a1 a2 s0 s1 s2 s3) (fun a => some ((zts (fun q => some (zi q.1)) (fun q => [s0, q.2, s2, s3]) (fun b => b.1) (fun b => [s0, b.2, s2, s3])) a))) (by decide) (fun _ => Nat.le_of_ble_eq_true rfl) (zl0 2 rfl) (fun X F => bfWB_turn F a1 a2 s0 s1 s2 s3 (fun _ => rfl)) (by rw [ha]; rfl)

theorem dX5_isStoppedByCall_0 : decode cX5_isStoppedByCall 0 = .ok (.aload_n 0, 1) := by decide +kernel
theorem dX5_isStoppedByCall_1 : decode cX5_isStoppedByCall 1 = .ok (.getfield 9, 3) := by decide +kernel
theorem dX5_isStoppedByCall_4 : decode cX5_isStoppedByCall 4 = .ok (.ifCond .ne 15, 3) := by decide +kernel
theorem dX5_isStoppedByCall_7 : decode cX5_isStoppedByCall 7 = .ok (.aload_n 0, 1) := by decide +kernel
theorem dX5_isStoppedByCall_8 : decode cX5_isStoppedByCall 8 = .ok (.getfield 15, 3) := by decide +kernel
theorem dX5_isStoppedByCall_11 : decode cX5_isStoppedByCall 11 = .ok (.iconst 1, 1) := by decide +kernel
theorem dX5_isStoppedByCall_12 : decode cX5_isStoppedByCall 12 = .ok (.if_icmp .ne 7, 3) := by decide +kernel
theorem dX5_isStoppedByCall_15 : decode cX5_isStoppedByCall 15 = .ok (.iconst 1, 1) := by decide +kernel
theorem dX5_isStoppedByCall_16 : decode cX5_isStoppedByCall 16 = .ok (.goto 4, 3) := by decide +kernel
theorem dX5_isStoppedByCall_19 : decode cX5_isStoppedByCall 19 = .ok (.iconst 0, 1) := by decide +kernel
theorem dX5_isStoppedByCall_20 : decode cX5_isStoppedByCall 20 = .ok (.ireturn, 1) := by decide +kernel
def fTu_isStoppedByCall (i : Nat) (s0 : zM) : Option (Int32) :=
  if (s0 7 i 3) = 0 then
  if (s0 7 i 4) = (1 : Int32) then
    some (1 : Int32)
  else
    some (0 : Int32)
else
  some (0 : Int32)
set_option maxHeartbeats 4000000 in
set_option maxRecDepth 20000 in
theorem bfTu_isStoppedByCall {X : zX} (F : zFr X cX5_isStoppedByCall 1 RX5 (some .boolean)) (i : Nat) (hi : i < 8) (s0 : zM) {κ : Int32 → Option zO} (hκ : ∀ a, κ a = some ((fun a => ((.inl ((fun q => some (zi q)) a), (fun _ => [s0]) a) : zO)) a)) : zZ X [(0, [])] 0 0 1 0 [some (zr 0 7 i)] [] [s0] (Option.bind (fTu_isStoppedByCall i s0) κ) := by
  unfold fTu_isStoppedByCall
  refine zz_aload_n F (i := 0) dX5_isStoppedByCall_0 rfl rfl ?_
  refine zz_getf F dX5_isStoppedByCall_1 wfRX5_9 zCl_5 rfl (⟨zlb rfl, zlb rfl, hi⟩) rfl (by decide) rfl rfl ?_
  refine zz_if_ne F (tgt := 19) dX5_isStoppedByCall_4 (by decide) (fun h => zz_f h ?_) (fun h => zz_t h ?_)
  · refine zz_iconst F (v := (0 : Int32)) dX5_isStoppedByCall_19 (by decide) ?_
    exact zz_zreturn F dX5_isStoppedByCall_20 rfl rfl (hκ _)
  · refine zz_aload_n F (i := 0) dX5_isStoppedByCall_7 rfl rfl ?_
    refine zz_getf F dX5_isStoppedByCall_8 wfRX5_15 zCl_5 rfl (⟨zlb rfl, zlb rfl, hi⟩) rfl (by decide) rfl rfl ?_
    refine zz_iconst F (v := (1 : Int32)) dX5_isStoppedByCall_11 (by decide) ?_
    refine zz_icmp_ne F (tgt := 19) dX5_isStoppedByCall_12 (by decide) (fun h => zz_f h ?_) (fun h => zz_t h ?_)
    · refine zz_iconst F (v := (0 : Int32)) dX5_isStoppedByCall_19 (by decide) ?_
      exact zz_zreturn F dX5_isStoppedByCall_20 rfl rfl (hκ _)
    · refine zz_iconst F (v := (1 : Int32)) dX5_isStoppedByCall_15 (by decide) ?_
      refine zz_goto F (tgt := 20) dX5_isStoppedByCall_16 (by decide) ?_
      exact zz_zreturn F dX5_isStoppedByCall_20 rfl rfl (hκ _)
theorem zfTu_isStoppedByCall (i : Nat) (hi : i < 8) (s0 : zM) : ∀ a, fTu_isStoppedByCall i s0 = some a → zMet yX5_isStoppedByCall cX5_isStoppedByCall 1 (some .boolean) 0 0 [(0, [])] [zr 0 7 i] [s0] ((fun a => ((.inl ((fun q => some (zi q)) a), (fun _ => [s0]) a) : zO)) a) := fun a ha => zMet_of (L0 := [some (zr 0 7 i)]) (φ := Option.bind (fTu_isStoppedByCall i s0) (fun a => some ((fun a => ((.inl ((fun q => some (zi q)) a), (fun _ => [s0]) a) : zO)) a))) (by decide) (fun _ => Nat.le_of_ble_eq_true rfl) (zl0 0 rfl) (fun X F => bfTu_isStoppedByCall F i hi s0 (fun _ => rfl)) (by rw [ha]; rfl)

theorem dX9_call_0 : decode cX9_call 0 = .ok (.aload_n 0, 1) := by decide +kernel
theorem dX9_call_1 : decode cX9_call 1 = .ok (.iload_n 1, 1) := by decide +kernel
theorem dX9_call_2 : decode cX9_call 2 = .ok (.invokevirtual 113, 3) := by decide +kernel
theorem dX9_call_5 : decode cX9_call 5 = .ok (.aload_n 0, 1) := by decide +kernel
theorem dX9_call_6 : decode cX9_call 6 = .ok (.getfield 10, 3) := by decide +kernel
theorem dX9_call_9 : decode cX9_call 9 = .ok (.getfield 118, 3) := by decide +kernel
theorem dX9_call_12 : decode cX9_call 12 = .ok (.iload_n 1, 1) := by decide +kernel
theorem dX9_call_13 : decode cX9_call 13 = .ok (.aaload, 1) := by decide +kernel
theorem dX9_call_14 : decode cX9_call 14 = .ok (.astore_n 3, 1) := by decide +kernel
theorem dX9_call_15 : decode cX9_call 15 = .ok (.aload_n 3, 1) := by decide +kernel
theorem dX9_call_16 : decode cX9_call 16 = .ok (.getfield 127, 3) := by decide +kernel
theorem dX9_call_19 : decode cX9_call 19 = .ok (.istore 4, 2) := by decide +kernel
theorem dX9_call_21 : decode cX9_call 21 = .ok (.iload 4, 2) := by decide +kernel
theorem dX9_call_23 : decode cX9_call 23 = .ok (.iconst 3, 1) := by decide +kernel
theorem dX9_call_24 : decode cX9_call 24 = .ok (.if_icmp .eq 17, 3) := by decide +kernel
theorem dX9_call_27 : decode cX9_call 27 = .ok (.iload 4, 2) := by decide +kernel
theorem dX9_call_29 : decode cX9_call 29 = .ok (.iconst 4, 1) := by decide +kernel
theorem dX9_call_30 : decode cX9_call 30 = .ok (.if_icmp .eq 11, 3) := by decide +kernel
theorem dX9_call_33 : decode cX9_call 33 = .ok (.aload_n 3, 1) := by decide +kernel
theorem dX9_call_34 : decode cX9_call 34 = .ok (.invokevirtual 130, 3) := by decide +kernel
theorem dX9_call_37 : decode cX9_call 37 = .ok (.iload_n 2, 1) := by decide +kernel
theorem dX9_call_38 : decode cX9_call 38 = .ok (.if_icmp .eq 13, 3) := by decide +kernel
theorem dX9_call_41 : decode cX9_call 41 = .ok (.new 41, 3) := by decide +kernel
theorem dX9_call_44 : decode cX9_call 44 = .ok (.dup, 1) := by decide +kernel
theorem dX9_call_45 : decode cX9_call 45 = .ok (.ldc 134, 2) := by decide +kernel
theorem dX9_call_47 : decode cX9_call 47 = .ok (.invokespecial 45, 3) := by decide +kernel
theorem dX9_call_50 : decode cX9_call 50 = .ok (.athrow, 1) := by decide +kernel
theorem dX9_call_51 : decode cX9_call 51 = .ok (.iload_n 2, 1) := by decide +kernel
theorem dX9_call_52 : decode cX9_call 52 = .ok (.ifCond .eq 11, 3) := by decide +kernel
theorem dX9_call_55 : decode cX9_call 55 = .ok (.aload_n 3, 1) := by decide +kernel
theorem dX9_call_56 : decode cX9_call 56 = .ok (.iconst 1, 1) := by decide +kernel
theorem dX9_call_57 : decode cX9_call 57 = .ok (.invokevirtual 136, 3) := by decide +kernel
theorem dX9_call_60 : decode cX9_call 60 = .ok (.goto 8, 3) := by decide +kernel
theorem dX9_call_63 : decode cX9_call 63 = .ok (.aload_n 3, 1) := by decide +kernel
theorem dX9_call_64 : decode cX9_call 64 = .ok (.iconst 1, 1) := by decide +kernel
theorem dX9_call_65 : decode cX9_call 65 = .ok (.invokevirtual 139, 3) := by decide +kernel
theorem dX9_call_68 : decode cX9_call 68 = .ok (.iload 4, 2) := by decide +kernel
theorem dX9_call_70 : decode cX9_call 70 = .ok (.ireturn, 1) := by decide +kernel
theorem wfRX9_127 : zFl RX9 127 5 3 := ⟨_, rfl, by decide, zm_f 171 (by decide +kernel) rfl⟩
theorem wsRX9_134 : (RX9, 134, "FAULTED, LOCKED, or so already") ∈ zstr := by decide +kernel
theorem wcRX9_130 : Cond.methodLink RX9 130 yX5_isStoppedByCall ∈ zTg ∧ Cond.instanceMethod yX5_isStoppedByCall ∈ zTg ∧ Cond.selects RX5 yX5_isStoppedByCall yX5_isStoppedByCall ∈ zTg ∧ Cond.initialized RX5 ∈ zTg ∧ Cond.code yX5_isStoppedByCall cX5_isStoppedByCall 1 (some .boolean) ∈ zTg := ⟨zm_f 841 (by decide +kernel) rfl, zm_f 842 (by decide +kernel) rfl, zm_f 843 (by decide +kernel) rfl, zm_f 41 (by decide +kernel) rfl, zm_f 844 (by decide +kernel) rfl⟩
theorem wy_yX5_isStoppedByCall : yX5_isStoppedByCall.cls = RX5 ∧ yX5_isStoppedByCall.cls ≠ "java/lang/invoke/MethodHandle" ∧ yX5_isStoppedByCall.cls ≠ "java/lang/invoke/VarHandle" ∧ (parseMethodDescriptor yX5_isStoppedByCall.desc).map (fun d => d.parameters.length) = some 0 := by decide +kernel
theorem wcRX9_139 : Cond.methodLink RX9 139 yX5_stop ∈ zTg ∧ Cond.instanceMethod yX5_stop ∈ zTg ∧ Cond.selects RX5 yX5_stop yX5_stop ∈ zTg ∧ Cond.initialized RX5 ∈ zTg ∧ Cond.code yX5_stop cX5_stop 2 none ∈ zTg := ⟨zm_f 847 (by decide +kernel) rfl, zm_f 610 (by decide +kernel) rfl, zm_f 611 (by decide +kernel) rfl, zm_f 41 (by decide +kernel) rfl, zm_f 612 (by decide +kernel) rfl⟩
theorem wcRX9_136 : Cond.methodLink RX9 136 yX5_become ∈ zTg ∧ Cond.instanceMethod yX5_become ∈ zTg ∧ Cond.selects RX5 yX5_become yX5_become ∈ zTg ∧ Cond.initialized RX5 ∈ zTg ∧ Cond.code yX5_become cX5_become 2 none ∈ zTg := ⟨zm_f 846 (by decide +kernel) rfl, zm_f 614 (by decide +kernel) rfl, zm_f 615 (by decide +kernel) rfl, zm_f 41 (by decide +kernel) rfl, zm_f 616 (by decide +kernel) rfl⟩
def fWB_call (a1 : Int32) (a2 : Int32) (s0 : zM) (s1 : zM) (s2 : zM) (s3 : zM) : Option ((Int32 × zM) ⊕ (String × zM)) :=
  Option.bind (fWB_checkTurbine a1 s0 s1 s2 s3) (Sum.elim (fun (_ : Unit) =>
  zix a1 8 fun j2 =>
  zlet ((s1 7 j2 3)) fun v3 =>
  if v3 = (3 : Int32) then
  some (.inr ("java/lang/IllegalStateException", s1))
else
  if v3 = (4 : Int32) then
    some (.inr ("java/lang/IllegalStateException", s1))
  else
    Option.bind (fTu_isStoppedByCall j2 s1) fun q4 =>
      if q4 = a2 then
      Option.bind (if a2 = 0 then
        Option.bind (fTu_stop j2 (1 : Int32) s1) fun q9 =>
          some q9
      else
        Option.bind (fTu_become j2 (1 : Int32) s1) fun q10 =>
          some q10) fun q5 =>
        some (.inl (v3, q5))
    else
      some (.inr ("java/lang/IllegalStateException", s1))) (fun b => some (.inr (b, s1))))
set_option maxHeartbeats 4000000 in
set_option maxRecDepth 20000 in
theorem bfWB_call {X : zX} (F : zFr X cX9_call 5 RX9 (some .int)) (a1 : Int32) (a2 : Int32)  (s0 : zM) (s1 : zM) (s2 : zM) (s3 : zM) {κ : (Int32 × zM) ⊕ (String × zM) → Option zO} (hκ : ∀ a, κ a = some ((zts (fun q => some (zi q.1)) (fun q => [s0, q.2, s2, s3]) (fun b => b.1) (fun b => [s0, b.2, s2, s3])) a)) : zZ X [(2, [1, 2, 3]), (0, []), (0, []), (1, [])] 7 111 5 0 [some (zr 0 0 0), some (zi a1), some (zi a2), none, none] [] [s0, s1, s2, s3] (Option.bind (fWB_call a1 a2 s0 s1 s2 s3) κ) := by
  unfold fWB_call
  refine zz_aload_n F (i := 0) dX9_call_0 rfl rfl ?_
  refine zz_iload_n F (i := 1) dX9_call_1 rfl rfl ?_
  refine zz_bind ?_
  refine zz_callVx F (ρ := [0, 1, 2, 3]) (so := fun _ => []) (Mo := fun _ => [s0, s1, s2, s3]) (Xo := fun _ => [s0, s1, s2, s3]) (zfWB_checkTurbine a1 s0 s1 s2 s3) dX9_call_2 wcRX9_113 wy_yX9_checkTurbine rfl ⟨rel2, rfl, rfl, Nat.le_of_ble_eq_true rfl, Nat.le_of_ble_eq_true rfl, Nat.le_of_ble_eq_true rfl⟩ (⟨zlb rfl, zlb rfl, zlb rfl⟩) rfl rfl rfl (fun _ => rfl) (fun _ => rfl) (fun _ => rfl) (fun _ => (hκ _)) fun _ => ?_
  dsimp only [Sum.elim_inl]
  refine zz_aload_n F (i := 0) dX9_call_5 rfl rfl ?_
  refine zz_getr F dX9_call_6 wfRX9_10 zCl_8 rfl (⟨zlb rfl, zlb rfl, zlb rfl⟩) rfl (by decide) rfl (r' := 1) (by decide) ?_
  refine zz_getr F dX9_call_9 wfRX9_118 zCl_3 rfl (⟨zlb rfl, zlb rfl, zlb rfl⟩) rfl (by decide) rfl (r' := 1) (by decide) ?_
  refine zz_iload_n F (i := 1) dX9_call_12 rfl rfl ?_
  refine zz_ix fun j2 hj2 hinj2 hej2 => zz_aal F dX9_call_13 rfl (⟨zlb rfl, zlb rfl, zlb rfl⟩) rfl (by decide) rfl hinj2 hej2 rfl ?_
  refine zz_astore_n F (i := 3) (L' := [some (zr 0 0 0), some (zi a1), some (zi a2), some (zr 1 7 j2), none]) dX9_call_14 rfl (by decide) rfl rfl ?_
  refine zz_aload_n F (i := 3) dX9_call_15 rfl rfl ?_
  refine zz_getf F dX9_call_16 wfRX9_127 zCl_5 rfl (⟨zlb rfl, zlb rfl, hj2⟩) rfl (by decide) rfl rfl ?_
  refine zz_istore F (i := 4) (L' := [some (zr 0 0 0), some (zi a1), some (zi a2), some (zr 1 7 j2), some (zi (s1 7 j2 3))]) dX9_call_19 (by decide) rfl rfl ?_
  refine zz_letl (Lf := fun v3 => [some (zr 0 0 0), some (zi a1), some (zi a2), some (zr 1 7 j2), some (zi v3)]) fun v3 => ?_
  refine zz_iload F (i := 4) dX9_call_21 rfl ?_
  refine zz_iconst F (v := (3 : Int32)) dX9_call_23 (by decide) ?_
  refine zz_icmp_eq F (tgt := 41) dX9_call_24 (by decide) (fun h => zz_t h ?_) (fun h => zz_f h ?_)
  · exact zz_throw F (cls := "java/lang/IllegalStateException") dX9_call_41 dX9_call_44 dX9_call_45 dX9_call_47 dX9_call_50 (by decide) wtRX9_41_45k wsRX9_134 wtRX9_41_45g wtRX9_41_45n wtRX9_41_45o (Nat.le_of_ble_eq_true rfl) (Nat.le_of_ble_eq_true rfl) (hκ _)
  · refine zz_iload F (i := 4) dX9_call_27 rfl ?_
    refine zz_iconst F (v := (4 : Int32)) dX9_call_29 (by decide) ?_
    refine zz_icmp_eq F (tgt := 41) dX9_call_30 (by decide) (fun h => zz_t h ?_) (fun h => zz_f h ?_)
    · exact zz_throw F (cls := "java/lang/IllegalStateException") dX9_call_41 dX9_call_44 dX9_call_45 dX9_call_47 dX9_call_50 (by decide) wtRX9_41_45k wsRX9_134 wtRX9_41_45g wtRX9_41_45n wtRX9_41_45o (Nat.le_of_ble_eq_true rfl) (Nat.le_of_ble_eq_true rfl) (hκ _)
    · refine zz_aload_n F (i := 3) dX9_call_33 rfl rfl ?_
      refine zz_bind ?_
      refine zz_callVr F (ρ := [1]) (so := fun q4 => [zi q4]) (Mo := fun q4 => [s0, s1, s2, s3]) (zfTu_isStoppedByCall j2 hj2 s1) dX9_call_34 wcRX9_130 wy_yX5_isStoppedByCall rfl ⟨rel1, rfl, rfl, Nat.le_of_ble_eq_true rfl, Nat.le_of_ble_eq_true rfl, Nat.le_of_ble_eq_true rfl⟩ (⟨zlb rfl, zlb rfl, hj2⟩) rfl rfl rfl (fun _ => rfl) (fun _ => rfl) fun q4 => ?_
      refine zz_iload_n F (i := 2) dX9_call_37 rfl rfl ?_
      refine zz_icmp_eq F (tgt := 51) dX9_call_38 (by decide) (fun h => zz_t h ?_) (fun h => zz_f h ?_)
      · refine zz_iload_n F (i := 2) dX9_call_51 rfl rfl ?_
        refine zz_join (pj := 68) (Lj := fun q5 => [none, none, none, none, some (zi v3)]) (Sj := fun q5 => []) (Mj := fun q5 => [s0, q5, s2, s3]) (fun q5 => ?_) (fun κ7 hj6 => ?_)
        · refine zz_iload F (i := 4) dX9_call_68 rfl ?_
          exact zz_ireturn F dX9_call_70 rfl (hκ _)
        · refine zz_if_eq F (tgt := 63) dX9_call_52 (by decide) (fun h => zz_t h ?_) (fun h => zz_f h ?_)
          · refine zz_aload_n F (i := 3) dX9_call_63 rfl rfl ?_
            refine zz_iconst F (v := (1 : Int32)) dX9_call_64 (by decide) ?_
            refine zz_bind ?_
            refine zz_callVr F (ρ := [1]) (so := fun q9 => []) (Mo := fun q9 => [s0, q9, s2, s3]) (zfTu_stop j2 (1 : Int32) hj2 s1) dX9_call_65 wcRX9_139 wy_yX5_stop rfl ⟨rel1, rfl, rfl, Nat.le_of_ble_eq_true rfl, Nat.le_of_ble_eq_true rfl, Nat.le_of_ble_eq_true rfl⟩ (⟨zlb rfl, zlb rfl, hj2⟩) rfl rfl rfl (fun _ => rfl) (fun _ => rfl) fun q9 => ?_
            exact zz_sub (zs_n (zs_n (zs_n (zs_n (zs_k zs_z))))) (hj6 q9)
          · refine zz_aload_n F (i := 3) dX9_call_55 rfl rfl ?_
            refine zz_iconst F (v := (1 : Int32)) dX9_call_56 (by decide) ?_
            refine zz_bind ?_
            refine zz_callVr F (ρ := [1]) (so := fun q10 => []) (Mo := fun q10 => [s0, q10, s2, s3]) (zfTu_become j2 (1 : Int32) hj2 s1) dX9_call_57 wcRX9_136 wy_yX5_become rfl ⟨rel1, rfl, rfl, Nat.le_of_ble_eq_true rfl, Nat.le_of_ble_eq_true rfl, Nat.le_of_ble_eq_true rfl⟩ (⟨zlb rfl, zlb rfl, hj2⟩) rfl rfl rfl (fun _ => rfl) (fun _ => rfl) fun q10 => ?_
            refine zz_goto F (tgt := 68) dX9_call_60 (by decide) ?_
            exact zz_sub (zs_n (zs_n (zs_n (zs_n (zs_k zs_z))))) (hj6 q10)
      · exact zz_throw F (cls := "java/lang/IllegalStateException") dX9_call_41 dX9_call_44 dX9_call_45 dX9_call_47 dX9_call_50 (by decide) wtRX9_41_45k wsRX9_134 wtRX9_41_45g wtRX9_41_45n wtRX9_41_45o (Nat.le_of_ble_eq_true rfl) (Nat.le_of_ble_eq_true rfl) (hκ _)
theorem zfWB_call (a1 : Int32) (a2 : Int32)  (s0 : zM) (s1 : zM) (s2 : zM) (s3 : zM) : ∀ a, fWB_call a1 a2 s0 s1 s2 s3 = some a → zMet yX9_call cX9_call 5 (some .int) 7 111 [(2, [1, 2, 3]), (0, []), (0, []), (1, [])] [zr 0 0 0, zi a1, zi a2] [s0, s1, s2, s3] ((zts (fun q => some (zi q.1)) (fun q => [s0, q.2, s2, s3]) (fun b => b.1) (fun b => [s0, b.2, s2, s3])) a) := fun a ha => zMet_of (L0 := [some (zr 0 0 0), some (zi a1), some (zi a2), none, none]) (φ := Option.bind (fWB_call a1 a2 s0 s1 s2 s3) (fun a => some ((zts (fun q => some (zi q.1)) (fun q => [s0, q.2, s2, s3]) (fun b => b.1) (fun b => [s0, b.2, s2, s3])) a))) (by decide) (fun _ => Nat.le_of_ble_eq_true rfl) (zl0 2 rfl) (fun X F => bfWB_call F a1 a2 s0 s1 s2 s3 (fun _ => rfl)) (by rw [ha]; rfl)

theorem dX9_floor_0 : decode cX9_floor 0 = .ok (.iload_n 1, 1) := by decide +kernel
theorem dX9_floor_1 : decode cX9_floor 1 = .ok (.bipush (-51), 2) := by decide +kernel
theorem dX9_floor_3 : decode cX9_floor 3 = .ok (.bipush 50, 2) := by decide +kernel
theorem dX9_floor_5 : decode cX9_floor 5 = .ok (.invokestatic 26, 3) := by decide +kernel
theorem dX9_floor_8 : decode cX9_floor 8 = .ok (.ifCond .eq 13, 3) := by decide +kernel
theorem dX9_floor_11 : decode cX9_floor 11 = .ok (.new 30, 3) := by decide +kernel
theorem dX9_floor_14 : decode cX9_floor 14 = .ok (.dup, 1) := by decide +kernel
theorem dX9_floor_15 : decode cX9_floor 15 = .ok (.ldc 142, 2) := by decide +kernel
theorem dX9_floor_17 : decode cX9_floor 17 = .ok (.invokespecial 34, 3) := by decide +kernel
theorem dX9_floor_20 : decode cX9_floor 20 = .ok (.athrow, 1) := by decide +kernel
theorem dX9_floor_21 : decode cX9_floor 21 = .ok (.aload_n 0, 1) := by decide +kernel
theorem dX9_floor_22 : decode cX9_floor 22 = .ok (.getfield 10, 3) := by decide +kernel
theorem dX9_floor_25 : decode cX9_floor 25 = .ok (.getfield 144, 3) := by decide +kernel
theorem dX9_floor_28 : decode cX9_floor 28 = .ok (.istore_n 2, 1) := by decide +kernel
theorem dX9_floor_29 : decode cX9_floor 29 = .ok (.aload_n 0, 1) := by decide +kernel
theorem dX9_floor_30 : decode cX9_floor 30 = .ok (.getfield 10, 3) := by decide +kernel
theorem dX9_floor_33 : decode cX9_floor 33 = .ok (.iload_n 1, 1) := by decide +kernel
theorem dX9_floor_34 : decode cX9_floor 34 = .ok (.putfield 144, 3) := by decide +kernel
theorem dX9_floor_37 : decode cX9_floor 37 = .ok (.iload_n 2, 1) := by decide +kernel
theorem dX9_floor_38 : decode cX9_floor 38 = .ok (.ireturn, 1) := by decide +kernel
theorem wfRX9_144 : zFl RX9 144 3 9 := ⟨_, rfl, by decide, zm_f 300 (by decide +kernel) rfl⟩
theorem wpRX9_144 : zFw RX9 144 3 9 .int := ⟨_, rfl, by decide, zm_f 300 (by decide +kernel) rfl, rfl, by decide +kernel⟩
theorem wsRX9_142 : (RX9, 142, "a FLOOR is -51 to 50") ∈ zstr := by decide +kernel
def fWB_floor (a1 : Int32) (s0 : zM) (s1 : zM) (s2 : zM) (s3 : zM) : Option ((Int32 × zM) ⊕ (String × zM)) :=
  Option.bind (fWB_outside a1 (-51 : Int32) (50 : Int32)) fun q1 =>
  if q1 = 0 then
  zlet ((s1 0 0 9)) fun v2 =>
    zlet (zu s1 0 0 9 a1) fun s1_3 =>
    some (.inl (v2, s1_3))
else
  some (.inr ("java/lang/IllegalArgumentException", s1))
set_option maxHeartbeats 4000000 in
set_option maxRecDepth 20000 in
theorem bfWB_floor {X : zX} (F : zFr X cX9_floor 3 RX9 (some .int)) (a1 : Int32)  (s0 : zM) (s1 : zM) (s2 : zM) (s3 : zM) {κ : (Int32 × zM) ⊕ (String × zM) → Option zO} (hκ : ∀ a, κ a = some ((zts (fun q => some (zi q.1)) (fun q => [s0, q.2, s2, s3]) (fun b => b.1) (fun b => [s0, b.2, s2, s3])) a)) : zZ X [(2, [1, 2, 3]), (0, []), (0, []), (1, [])] 6 90 3 0 [some (zr 0 0 0), some (zi a1), none] [] [s0, s1, s2, s3] (Option.bind (fWB_floor a1 s0 s1 s2 s3) κ) := by
  unfold fWB_floor
  refine zz_iload_n F (i := 1) dX9_floor_0 rfl rfl ?_
  refine zz_bipush F (v := (-51 : Int32)) dX9_floor_1 (by decide) ?_
  refine zz_bipush F (v := (50 : Int32)) dX9_floor_3 (by decide) ?_
  refine zz_bind ?_
  refine zz_callSr F (ρ := []) (so := fun q1 => [zi q1]) (Mo := fun q1 => [s0, s1, s2, s3]) (zfWB_outside a1 (-51 : Int32) (50 : Int32)) dX9_floor_5 wcRX9_26 wy_yX9_outside rfl ⟨rel0, rfl, rfl, Nat.le_of_ble_eq_true rfl, Nat.le_of_ble_eq_true rfl, Nat.le_of_ble_eq_true rfl⟩ rfl (fun _ => rfl) (fun _ => rfl) fun q1 => ?_
  refine zz_if_eq F (tgt := 21) dX9_floor_8 (by decide) (fun h => zz_t h ?_) (fun h => zz_f h ?_)
  · refine zz_aload_n F (i := 0) dX9_floor_21 rfl rfl ?_
    refine zz_getr F dX9_floor_22 wfRX9_10 zCl_8 rfl (⟨zlb rfl, zlb rfl, zlb rfl⟩) rfl (by decide) rfl (r' := 1) (by decide) ?_
    refine zz_getf F dX9_floor_25 wfRX9_144 zCl_3 rfl (⟨zlb rfl, zlb rfl, zlb rfl⟩) rfl (by decide) rfl rfl ?_
    refine zz_istore_n F (i := 2) (L' := [some (zr 0 0 0), some (zi a1), some (zi (s1 0 0 9))]) dX9_floor_28 rfl (by decide) rfl rfl ?_
    refine zz_letl (Lf := fun v2 => [some (zr 0 0 0), some (zi a1), some (zi v2)]) fun v2 => ?_
    refine zz_aload_n F (i := 0) dX9_floor_29 rfl rfl ?_
    refine zz_getr F dX9_floor_30 wfRX9_10 zCl_8 rfl (⟨zlb rfl, zlb rfl, zlb rfl⟩) rfl (by decide) rfl (r' := 1) (by decide) ?_
    refine zz_iload_n F (i := 1) dX9_floor_33 rfl rfl ?_
    refine zz_put F (Ms' := [s0, (zu s1 0 0 9 a1), s2, s3]) dX9_floor_34 wpRX9_144 zCl_3 rfl (⟨zlb rfl, zlb rfl, zlb rfl⟩) rfl (by decide) rfl rfl rfl ?_
    refine zz_letm (Mf := fun s1_3 => [s0, s1_3, s2, s3]) fun s1_3 => ?_
    refine zz_iload_n F (i := 2) dX9_floor_37 rfl rfl ?_
    exact zz_ireturn F dX9_floor_38 rfl (hκ _)
  · exact zz_throw F (cls := "java/lang/IllegalArgumentException") dX9_floor_11 dX9_floor_14 dX9_floor_15 dX9_floor_17 dX9_floor_20 (by decide) wtRX9_30_34k wsRX9_142 wtRX9_30_34g wtRX9_30_34n wtRX9_30_34o (Nat.le_of_ble_eq_true rfl) (Nat.le_of_ble_eq_true rfl) (hκ _)
theorem zfWB_floor (a1 : Int32)  (s0 : zM) (s1 : zM) (s2 : zM) (s3 : zM) : ∀ a, fWB_floor a1 s0 s1 s2 s3 = some a → zMet yX9_floor cX9_floor 3 (some .int) 6 90 [(2, [1, 2, 3]), (0, []), (0, []), (1, [])] [zr 0 0 0, zi a1] [s0, s1, s2, s3] ((zts (fun q => some (zi q.1)) (fun q => [s0, q.2, s2, s3]) (fun b => b.1) (fun b => [s0, b.2, s2, s3])) a) := fun a ha => zMet_of (L0 := [some (zr 0 0 0), some (zi a1), none]) (φ := Option.bind (fWB_floor a1 s0 s1 s2 s3) (fun a => some ((zts (fun q => some (zi q.1)) (fun q => [s0, q.2, s2, s3]) (fun b => b.1) (fun b => [s0, b.2, s2, s3])) a))) (by decide) (fun _ => Nat.le_of_ble_eq_true rfl) (zl0 1 rfl) (fun X F => bfWB_floor F a1 s0 s1 s2 s3 (fun _ => rfl)) (by rw [ha]; rfl)

theorem dX9_checkVessel_0 : decode cX9_checkVessel 0 = .ok (.iload_n 1, 1) := by decide +kernel
theorem dX9_checkVessel_1 : decode cX9_checkVessel 1 = .ok (.ifCond .lt 14, 3) := by decide +kernel
theorem dX9_checkVessel_4 : decode cX9_checkVessel 4 = .ok (.iload_n 1, 1) := by decide +kernel
theorem dX9_checkVessel_5 : decode cX9_checkVessel 5 = .ok (.aload_n 0, 1) := by decide +kernel
theorem dX9_checkVessel_6 : decode cX9_checkVessel 6 = .ok (.getfield 10, 3) := by decide +kernel
theorem dX9_checkVessel_9 : decode cX9_checkVessel 9 = .ok (.getfield 71, 3) := by decide +kernel
theorem dX9_checkVessel_12 : decode cX9_checkVessel 12 = .ok (.if_icmp .lt 14, 3) := by decide +kernel
theorem dX9_checkVessel_15 : decode cX9_checkVessel 15 = .ok (.new 238, 3) := by decide +kernel
theorem dX9_checkVessel_18 : decode cX9_checkVessel 18 = .ok (.dup, 1) := by decide +kernel
theorem dX9_checkVessel_19 : decode cX9_checkVessel 19 = .ok (.ldc_w 366, 3) := by decide +kernel
theorem dX9_checkVessel_22 : decode cX9_checkVessel 22 = .ok (.invokespecial 242, 3) := by decide +kernel
theorem dX9_checkVessel_25 : decode cX9_checkVessel 25 = .ok (.athrow, 1) := by decide +kernel
theorem dX9_checkVessel_26 : decode cX9_checkVessel 26 = .ok (.return_, 1) := by decide +kernel
theorem wsRX9_366 : (RX9, 366, "no such VESSEL") ∈ zstr := by decide +kernel
def fWB_checkVessel (a1 : Int32) (s0 : zM) (s1 : zM) (s2 : zM) (s3 : zM) : Option ((Unit) ⊕ (String)) :=
  if a1 < 0 then
  some (.inr "java/lang/IndexOutOfBoundsException")
else
  if a1 < (s1 0 0 7) then
    some (.inl ())
  else
    some (.inr "java/lang/IndexOutOfBoundsException")
set_option maxHeartbeats 4000000 in
set_option maxRecDepth 20000 in
theorem bfWB_checkVessel {X : zX} (F : zFr X cX9_checkVessel 2 RX9 none) (a1 : Int32)  (s0 : zM) (s1 : zM) (s2 : zM) (s3 : zM) {κ : (Unit) ⊕ (String) → Option zO} (hκ : ∀ a, κ a = some ((zts (fun _ => (none : Option zV)) (fun _ => [s0, s1, s2, s3]) (fun b => b) (fun _ => [s0, s1, s2, s3])) a)) : zZ X [(2, [1, 2, 3]), (0, []), (0, []), (1, [])] 6 90 2 0 [some (zr 0 0 0), some (zi a1)] [] [s0, s1, s2, s3] (Option.bind (fWB_checkVessel a1 s0 s1 s2 s3) κ) := by
  unfold fWB_checkVessel
  refine zz_iload_n F (i := 1) dX9_checkVessel_0 rfl rfl ?_
  refine zz_if_lt F (tgt := 15) dX9_checkVessel_1 (by decide) (fun h => zz_t h ?_) (fun h => zz_f h ?_)
  · exact zz_throwW F (cls := "java/lang/IndexOutOfBoundsException") dX9_checkVessel_15 dX9_checkVessel_18 dX9_checkVessel_19 dX9_checkVessel_22 dX9_checkVessel_25 (by decide) wtRX9_238_242k wsRX9_366 wtRX9_238_242g wtRX9_238_242n wtRX9_238_242o (Nat.le_of_ble_eq_true rfl) (Nat.le_of_ble_eq_true rfl) (hκ _)
  · refine zz_iload_n F (i := 1) dX9_checkVessel_4 rfl rfl ?_
    refine zz_aload_n F (i := 0) dX9_checkVessel_5 rfl rfl ?_
    refine zz_getr F dX9_checkVessel_6 wfRX9_10 zCl_8 rfl (⟨zlb rfl, zlb rfl, zlb rfl⟩) rfl (by decide) rfl (r' := 1) (by decide) ?_
    refine zz_getf F dX9_checkVessel_9 wfRX9_71 zCl_3 rfl (⟨zlb rfl, zlb rfl, zlb rfl⟩) rfl (by decide) rfl rfl ?_
    refine zz_icmp_lt F (tgt := 26) dX9_checkVessel_12 (by decide) (fun h => zz_t h ?_) (fun h => zz_f h ?_)
    · exact zz_return F dX9_checkVessel_26 rfl (hκ _)
    · exact zz_throwW F (cls := "java/lang/IndexOutOfBoundsException") dX9_checkVessel_15 dX9_checkVessel_18 dX9_checkVessel_19 dX9_checkVessel_22 dX9_checkVessel_25 (by decide) wtRX9_238_242k wsRX9_366 wtRX9_238_242g wtRX9_238_242n wtRX9_238_242o (Nat.le_of_ble_eq_true rfl) (Nat.le_of_ble_eq_true rfl) (hκ _)
theorem zfWB_checkVessel (a1 : Int32)  (s0 : zM) (s1 : zM) (s2 : zM) (s3 : zM) : ∀ a, fWB_checkVessel a1 s0 s1 s2 s3 = some a → zMet yX9_checkVessel cX9_checkVessel 2 none 6 90 [(2, [1, 2, 3]), (0, []), (0, []), (1, [])] [zr 0 0 0, zi a1] [s0, s1, s2, s3] ((zts (fun _ => (none : Option zV)) (fun _ => [s0, s1, s2, s3]) (fun b => b) (fun _ => [s0, s1, s2, s3])) a) := fun a ha => zMet_of (L0 := [some (zr 0 0 0), some (zi a1)]) (φ := Option.bind (fWB_checkVessel a1 s0 s1 s2 s3) (fun a => some ((zts (fun _ => (none : Option zV)) (fun _ => [s0, s1, s2, s3]) (fun b => b) (fun _ => [s0, s1, s2, s3])) a))) (by decide) (fun _ => Nat.le_of_ble_eq_true rfl) (zl0 0 rfl) (fun X F => bfWB_checkVessel F a1 s0 s1 s2 s3 (fun _ => rfl)) (by rw [ha]; rfl)

theorem dX3_isAnotherAt_0 : decode cX3_isAnotherAt 0 = .ok (.iconst 0, 1) := by decide +kernel
theorem dX3_isAnotherAt_1 : decode cX3_isAnotherAt 1 = .ok (.istore_n 3, 1) := by decide +kernel
theorem dX3_isAnotherAt_2 : decode cX3_isAnotherAt 2 = .ok (.iload_n 3, 1) := by decide +kernel
theorem dX3_isAnotherAt_3 : decode cX3_isAnotherAt 3 = .ok (.aload_n 0, 1) := by decide +kernel
theorem dX3_isAnotherAt_4 : decode cX3_isAnotherAt 4 = .ok (.getfield 68, 3) := by decide +kernel
theorem dX3_isAnotherAt_7 : decode cX3_isAnotherAt 7 = .ok (.if_icmp .ge 34, 3) := by decide +kernel
theorem dX3_isAnotherAt_10 : decode cX3_isAnotherAt 10 = .ok (.iload_n 3, 1) := by decide +kernel
theorem dX3_isAnotherAt_11 : decode cX3_isAnotherAt 11 = .ok (.iload_n 2, 1) := by decide +kernel
theorem dX3_isAnotherAt_12 : decode cX3_isAnotherAt 12 = .ok (.if_icmp .eq 23, 3) := by decide +kernel
theorem dX3_isAnotherAt_15 : decode cX3_isAnotherAt 15 = .ok (.iload_n 1, 1) := by decide +kernel
theorem dX3_isAnotherAt_16 : decode cX3_isAnotherAt 16 = .ok (.iconst (-1), 1) := by decide +kernel
theorem dX3_isAnotherAt_17 : decode cX3_isAnotherAt 17 = .ok (.if_icmp .eq 18, 3) := by decide +kernel
theorem dX3_isAnotherAt_20 : decode cX3_isAnotherAt 20 = .ok (.aload_n 0, 1) := by decide +kernel
theorem dX3_isAnotherAt_21 : decode cX3_isAnotherAt 21 = .ok (.getfield 25, 3) := by decide +kernel
theorem dX3_isAnotherAt_24 : decode cX3_isAnotherAt 24 = .ok (.iload_n 3, 1) := by decide +kernel
theorem dX3_isAnotherAt_25 : decode cX3_isAnotherAt 25 = .ok (.aaload, 1) := by decide +kernel
theorem dX3_isAnotherAt_26 : decode cX3_isAnotherAt 26 = .ok (.getfield 96, 3) := by decide +kernel
theorem dX3_isAnotherAt_29 : decode cX3_isAnotherAt 29 = .ok (.iload_n 1, 1) := by decide +kernel
theorem dX3_isAnotherAt_30 : decode cX3_isAnotherAt 30 = .ok (.if_icmp .ne 5, 3) := by decide +kernel
theorem dX3_isAnotherAt_33 : decode cX3_isAnotherAt 33 = .ok (.iconst 1, 1) := by decide +kernel
theorem dX3_isAnotherAt_34 : decode cX3_isAnotherAt 34 = .ok (.ireturn, 1) := by decide +kernel
theorem dX3_isAnotherAt_35 : decode cX3_isAnotherAt 35 = .ok (.iinc 3 1, 3) := by decide +kernel
theorem dX3_isAnotherAt_38 : decode cX3_isAnotherAt 38 = .ok (.goto (-36), 3) := by decide +kernel
theorem dX3_isAnotherAt_41 : decode cX3_isAnotherAt 41 = .ok (.iconst 0, 1) := by decide +kernel
theorem dX3_isAnotherAt_42 : decode cX3_isAnotherAt 42 = .ok (.ireturn, 1) := by decide +kernel
def fSe_isAnotherAt_l2 (a1 : Int32) (a2 : Int32) (s0 : zM) (q1 : Int32) : Option ((Int32) ⊕ ((Unit) ⊕ (Int32))) :=
  if (s0 0 0 7) ≤ q1 then
  some (.inr (.inl ()))
else
  if q1 = a2 then
    zlet (q1 + 1) fun v3 =>
      some (.inl v3)
  else
    if a1 = (-1 : Int32) then
      zlet (q1 + 1) fun v4 =>
        some (.inl v4)
    else
      zix q1 3 fun j5 =>
        if (s0 13 j5 1) = a1 then
        some (.inr (.inr (1 : Int32)))
      else
        zlet (q1 + 1) fun v6 =>
          some (.inl v6)
def fSe_isAnotherAt (a1 : Int32) (a2 : Int32) (s0 : zM) : Option (Int32) :=
  Option.bind (ziter (fSe_isAnotherAt_l2 a1 a2 s0) 1000 (0 : Int32)) (Sum.elim (fun _ =>
  some (0 : Int32)) (fun r => some r))
set_option maxHeartbeats 4000000 in
set_option maxRecDepth 20000 in
theorem bfSe_isAnotherAt_l2 {X : zX} (F : zFr X cX3_isAnotherAt 4 RX3 (some .boolean)) (a1 : Int32) (a2 : Int32) (s0 : zM)  {ψ : (Int32) ⊕ ((Unit) ⊕ (Int32)) → Option zO} (h1 : ∀ q1 : Int32, zZ X [(0, [])] 0 0 4 2 [some (zr 0 0 0), some (zi a1), some (zi a2), some (zi q1)] [] [s0] (ψ (.inl q1))) (h2 : ∀ q2 : Unit, zZ X [(0, [])] 0 0 4 41 [none, none, none, none] [] [s0] (ψ (.inr (.inl q2)))) (h3 : ∀ r, ψ (.inr (.inr r)) = some ((fun a => ((.inl ((fun q => some (zi q)) a), (fun _ => [s0]) a) : zO)) r)) (q1 : Int32) : zZ X [(0, [])] 0 0 4 2 [some (zr 0 0 0), some (zi a1), some (zi a2), some (zi q1)] [] [s0] (Option.bind (fSe_isAnotherAt_l2 a1 a2 s0 q1) ψ) := by
  unfold fSe_isAnotherAt_l2
  refine zz_iload_n F (i := 3) dX3_isAnotherAt_2 rfl rfl ?_
  refine zz_aload_n F (i := 0) dX3_isAnotherAt_3 rfl rfl ?_
  refine zz_getf F dX3_isAnotherAt_4 wfRX3_68 zCl_3 rfl (⟨zlb rfl, zlb rfl, zlb rfl⟩) rfl (by decide) rfl rfl ?_
  refine zz_icmp_ge F (tgt := 41) dX3_isAnotherAt_7 (by decide) (fun h => zz_t h ?_) (fun h => zz_f h ?_)
  · exact zz_sub (zs_n (zs_n (zs_n (zs_n zs_z)))) (h2 ())
  · refine zz_iload_n F (i := 3) dX3_isAnotherAt_10 rfl rfl ?_
    refine zz_iload_n F (i := 2) dX3_isAnotherAt_11 rfl rfl ?_
    refine zz_icmp_eq F (tgt := 35) dX3_isAnotherAt_12 (by decide) (fun h => zz_t h ?_) (fun h => zz_f h ?_)
    · refine zz_iinc F (i := 3) (v := q1 + 1) (L' := [some (zr 0 0 0), some (zi a1), some (zi a2), some (zi (q1 + 1))]) dX3_isAnotherAt_35 rfl (by first | rfl | decide) (by decide) rfl rfl ?_
      refine zz_letl (Lf := fun v3 => [some (zr 0 0 0), some (zi a1), some (zi a2), some (zi v3)]) fun v3 => ?_
      refine zz_goto F (tgt := 2) dX3_isAnotherAt_38 (by decide) ?_
      exact zz_sub (zs_k (zs_k (zs_k (zs_k zs_z)))) (h1 v3)
    · refine zz_iload_n F (i := 1) dX3_isAnotherAt_15 rfl rfl ?_
      refine zz_iconst F (v := (-1 : Int32)) dX3_isAnotherAt_16 (by decide) ?_
      refine zz_icmp_eq F (tgt := 35) dX3_isAnotherAt_17 (by decide) (fun h => zz_t h ?_) (fun h => zz_f h ?_)
      · refine zz_iinc F (i := 3) (v := q1 + 1) (L' := [some (zr 0 0 0), some (zi a1), some (zi a2), some (zi (q1 + 1))]) dX3_isAnotherAt_35 rfl (by first | rfl | decide) (by decide) rfl rfl ?_
        refine zz_letl (Lf := fun v4 => [some (zr 0 0 0), some (zi a1), some (zi a2), some (zi v4)]) fun v4 => ?_
        refine zz_goto F (tgt := 2) dX3_isAnotherAt_38 (by decide) ?_
        exact zz_sub (zs_k (zs_k (zs_k (zs_k zs_z)))) (h1 v4)
      · refine zz_aload_n F (i := 0) dX3_isAnotherAt_20 rfl rfl ?_
        refine zz_getr F dX3_isAnotherAt_21 wfRX3_25 zCl_3 rfl (⟨zlb rfl, zlb rfl, zlb rfl⟩) rfl (by decide) rfl (r' := 0) (by decide) ?_
        refine zz_iload_n F (i := 3) dX3_isAnotherAt_24 rfl rfl ?_
        refine zz_ix fun j5 hj5 hinj5 hej5 => zz_aal F dX3_isAnotherAt_25 rfl (⟨zlb rfl, zlb rfl, zlb rfl⟩) rfl (by decide) rfl hinj5 hej5 rfl ?_
        refine zz_getf F dX3_isAnotherAt_26 wfRX3_96 zCl_6 rfl (⟨zlb rfl, zlb rfl, hj5⟩) rfl (by decide) rfl rfl ?_
        refine zz_iload_n F (i := 1) dX3_isAnotherAt_29 rfl rfl ?_
        refine zz_icmp_ne F (tgt := 35) dX3_isAnotherAt_30 (by decide) (fun h => zz_f h ?_) (fun h => zz_t h ?_)
        · refine zz_iinc F (i := 3) (v := q1 + 1) (L' := [some (zr 0 0 0), some (zi a1), some (zi a2), some (zi (q1 + 1))]) dX3_isAnotherAt_35 rfl (by first | rfl | decide) (by decide) rfl rfl ?_
          refine zz_letl (Lf := fun v6 => [some (zr 0 0 0), some (zi a1), some (zi a2), some (zi v6)]) fun v6 => ?_
          refine zz_goto F (tgt := 2) dX3_isAnotherAt_38 (by decide) ?_
          exact zz_sub (zs_k (zs_k (zs_k (zs_k zs_z)))) (h1 v6)
        · refine zz_iconst F (v := (1 : Int32)) dX3_isAnotherAt_33 (by decide) ?_
          exact zz_zreturn F dX3_isAnotherAt_34 rfl rfl (h3 _)
set_option maxHeartbeats 4000000 in
set_option maxRecDepth 20000 in
theorem bfSe_isAnotherAt {X : zX} (F : zFr X cX3_isAnotherAt 4 RX3 (some .boolean)) (a1 : Int32) (a2 : Int32)  (s0 : zM) {κ : Int32 → Option zO} (hκ : ∀ a, κ a = some ((fun a => ((.inl ((fun q => some (zi q)) a), (fun _ => [s0]) a) : zO)) a)) : zZ X [(0, [])] 0 0 4 0 [some (zr 0 0 0), some (zi a1), some (zi a2), none] [] [s0] (Option.bind (fSe_isAnotherAt a1 a2 s0) κ) := by
  unfold fSe_isAnotherAt
  refine zz_iconst F (v := (0 : Int32)) dX3_isAnotherAt_0 (by decide) ?_
  refine zz_istore_n F (i := 3) (L' := [some (zr 0 0 0), some (zi a1), some (zi a2), some (zi (0 : Int32))]) dX3_isAnotherAt_1 rfl (by decide) rfl rfl ?_
  refine zz_sub (zs_k (zs_k (zs_k (zs_k zs_z)))) ?_
  refine zz_bind ?_
  refine zz_iter (Lf := fun q1 => [some (zr 0 0 0), some (zi a1), some (zi a2), some (zi q1)]) (Mf := fun q1 => [s0]) (fun q1 _ e7 e8 => bfSe_isAnotherAt_l2 F a1 a2 s0  e7 (fun q2 => ?_) (fun r => ?_) q1) 1000 (0 : Int32)
  · rw [e8]
    dsimp only [Sum.elim_inl]
    refine zz_iconst F (v := (0 : Int32)) dX3_isAnotherAt_41 (by decide) ?_
    exact zz_zreturn F dX3_isAnotherAt_42 rfl rfl (hκ _)
  · exact (e8 _).trans (hκ _)
theorem zfSe_isAnotherAt (a1 : Int32) (a2 : Int32)  (s0 : zM) : ∀ a, fSe_isAnotherAt a1 a2 s0 = some a → zMet yX3_isAnotherAt cX3_isAnotherAt 4 (some .boolean) 0 0 [(0, [])] [zr 0 0 0, zi a1, zi a2] [s0] ((fun a => ((.inl ((fun q => some (zi q)) a), (fun _ => [s0]) a) : zO)) a) := fun a ha => zMet_of (L0 := [some (zr 0 0 0), some (zi a1), some (zi a2), none]) (φ := Option.bind (fSe_isAnotherAt a1 a2 s0) (fun a => some ((fun a => ((.inl ((fun q => some (zi q)) a), (fun _ => [s0]) a) : zO)) a))) (by decide) (fun _ => Nat.le_of_ble_eq_true rfl) (zl0 1 rfl) (fun X F => bfSe_isAnotherAt F a1 a2 s0 (fun _ => rfl)) (by rw [ha]; rfl)

theorem dX9_sail_0 : decode cX9_sail 0 = .ok (.aload_n 0, 1) := by decide +kernel
theorem dX9_sail_1 : decode cX9_sail 1 = .ok (.iload_n 1, 1) := by decide +kernel
theorem dX9_sail_2 : decode cX9_sail 2 = .ok (.invokevirtual 147, 3) := by decide +kernel
theorem dX9_sail_5 : decode cX9_sail 5 = .ok (.iload_n 2, 1) := by decide +kernel
theorem dX9_sail_6 : decode cX9_sail 6 = .ok (.iconst (-1), 1) := by decide +kernel
theorem dX9_sail_7 : decode cX9_sail 7 = .ok (.if_icmp .eq 8, 3) := by decide +kernel
theorem dX9_sail_10 : decode cX9_sail 10 = .ok (.aload_n 0, 1) := by decide +kernel
theorem dX9_sail_11 : decode cX9_sail 11 = .ok (.iload_n 2, 1) := by decide +kernel
theorem dX9_sail_12 : decode cX9_sail 12 = .ok (.invokevirtual 113, 3) := by decide +kernel
theorem dX9_sail_15 : decode cX9_sail 15 = .ok (.aload_n 0, 1) := by decide +kernel
theorem dX9_sail_16 : decode cX9_sail 16 = .ok (.getfield 10, 3) := by decide +kernel
theorem dX9_sail_19 : decode cX9_sail 19 = .ok (.getfield 150, 3) := by decide +kernel
theorem dX9_sail_22 : decode cX9_sail 22 = .ok (.iload_n 1, 1) := by decide +kernel
theorem dX9_sail_23 : decode cX9_sail 23 = .ok (.aaload, 1) := by decide +kernel
theorem dX9_sail_24 : decode cX9_sail 24 = .ok (.astore_n 3, 1) := by decide +kernel
theorem dX9_sail_25 : decode cX9_sail 25 = .ok (.aload_n 3, 1) := by decide +kernel
theorem dX9_sail_26 : decode cX9_sail 26 = .ok (.getfield 154, 3) := by decide +kernel
theorem dX9_sail_29 : decode cX9_sail 29 = .ok (.ifCond .ne 15, 3) := by decide +kernel
theorem dX9_sail_32 : decode cX9_sail 32 = .ok (.aload_n 0, 1) := by decide +kernel
theorem dX9_sail_33 : decode cX9_sail 33 = .ok (.getfield 10, 3) := by decide +kernel
theorem dX9_sail_36 : decode cX9_sail 36 = .ok (.iload_n 2, 1) := by decide +kernel
theorem dX9_sail_37 : decode cX9_sail 37 = .ok (.iload_n 1, 1) := by decide +kernel
theorem dX9_sail_38 : decode cX9_sail 38 = .ok (.invokevirtual 160, 3) := by decide +kernel
theorem dX9_sail_41 : decode cX9_sail 41 = .ok (.ifCond .eq 13, 3) := by decide +kernel
theorem dX9_sail_44 : decode cX9_sail 44 = .ok (.new 41, 3) := by decide +kernel
theorem dX9_sail_47 : decode cX9_sail 47 = .ok (.dup, 1) := by decide +kernel
theorem dX9_sail_48 : decode cX9_sail 48 = .ok (.ldc 163, 2) := by decide +kernel
theorem dX9_sail_50 : decode cX9_sail 50 = .ok (.invokespecial 45, 3) := by decide +kernel
theorem dX9_sail_53 : decode cX9_sail 53 = .ok (.athrow, 1) := by decide +kernel
theorem dX9_sail_54 : decode cX9_sail 54 = .ok (.aload_n 3, 1) := by decide +kernel
theorem dX9_sail_55 : decode cX9_sail 55 = .ok (.getfield 165, 3) := by decide +kernel
theorem dX9_sail_58 : decode cX9_sail 58 = .ok (.istore 4, 2) := by decide +kernel
theorem dX9_sail_60 : decode cX9_sail 60 = .ok (.aload_n 3, 1) := by decide +kernel
theorem dX9_sail_61 : decode cX9_sail 61 = .ok (.iload_n 2, 1) := by decide +kernel
theorem dX9_sail_62 : decode cX9_sail 62 = .ok (.putfield 165, 3) := by decide +kernel
theorem dX9_sail_65 : decode cX9_sail 65 = .ok (.iload 4, 2) := by decide +kernel
theorem dX9_sail_67 : decode cX9_sail 67 = .ok (.ireturn, 1) := by decide +kernel
theorem wcRX9_147 : Cond.methodLink RX9 147 yX9_checkVessel ∈ zTg ∧ Cond.instanceMethod yX9_checkVessel ∈ zTg ∧ Cond.selects RX9 yX9_checkVessel yX9_checkVessel ∈ zTg ∧ Cond.initialized RX9 ∈ zTg ∧ Cond.code yX9_checkVessel cX9_checkVessel 2 none ∈ zTg := ⟨zm_f 731 (by decide +kernel) rfl, zm_f 733 (by decide +kernel) rfl, zm_f 18 (by decide +kernel) rfl, zm_f 37 (by decide +kernel) rfl, zm_f 734 (by decide +kernel) rfl⟩
theorem wy_yX9_checkVessel : yX9_checkVessel.cls = RX9 ∧ yX9_checkVessel.cls ≠ "java/lang/invoke/MethodHandle" ∧ yX9_checkVessel.cls ≠ "java/lang/invoke/VarHandle" ∧ (parseMethodDescriptor yX9_checkVessel.desc).map (fun d => d.parameters.length) = some 1 := by decide +kernel
theorem wfRX9_150 : zFl RX9 150 3 2 := ⟨_, rfl, by decide, zm_f 285 (by decide +kernel) rfl⟩
theorem wfRX9_154 : zFl RX9 154 6 2 := ⟨_, rfl, by decide, zm_f 256 (by decide +kernel) rfl⟩
theorem wsRX9_163 : (RX9, 163, "its crew is on a TURBINE, or another VESSEL is there") ∈ zstr := by decide +kernel
theorem wcRX9_160 : Cond.methodLink RX9 160 yX3_isAnotherAt ∈ zTg ∧ Cond.instanceMethod yX3_isAnotherAt ∈ zTg ∧ Cond.selects RX3 yX3_isAnotherAt yX3_isAnotherAt ∈ zTg ∧ Cond.initialized RX3 ∈ zTg ∧ Cond.code yX3_isAnotherAt cX3_isAnotherAt 4 (some .boolean) ∈ zTg := ⟨zm_f 863 (by decide +kernel) rfl, zm_f 864 (by decide +kernel) rfl, zm_f 865 (by decide +kernel) rfl, zm_f 38 (by decide +kernel) rfl, zm_f 866 (by decide +kernel) rfl⟩
theorem wy_yX3_isAnotherAt : yX3_isAnotherAt.cls = RX3 ∧ yX3_isAnotherAt.cls ≠ "java/lang/invoke/MethodHandle" ∧ yX3_isAnotherAt.cls ≠ "java/lang/invoke/VarHandle" ∧ (parseMethodDescriptor yX3_isAnotherAt.desc).map (fun d => d.parameters.length) = some 2 := by decide +kernel
theorem wfRX9_165 : zFl RX9 165 6 1 := ⟨_, rfl, by decide, zm_f 254 (by decide +kernel) rfl⟩
theorem wpRX9_165 : zFw RX9 165 6 1 .int := ⟨_, rfl, by decide, zm_f 254 (by decide +kernel) rfl, rfl, by decide +kernel⟩
def fWB_sail (a1 : Int32) (a2 : Int32) (s0 : zM) (s1 : zM) (s2 : zM) (s3 : zM) : Option ((Int32 × zM) ⊕ (String × zM)) :=
  Option.bind (fWB_checkVessel a1 s0 s1 s2 s3) (Sum.elim (fun (_ : Unit) =>
  Option.bind (if a2 = (-1 : Int32) then
  some (.inl ())
else
  Option.bind (fWB_checkTurbine a2 s0 s1 s2 s3) (Sum.elim (fun (_ : Unit) =>
    some (.inl ())) (fun b => some (.inr (.inr (b, s1)))))) (Sum.elim (fun (_ : Unit) =>
  zix a1 3 fun j7 =>
  if (s1 13 j7 2 &&& 1) = 0 then
  Option.bind (fSe_isAnotherAt a2 a1 s1) fun q8 =>
    if q8 = 0 then
    zlet ((s1 13 j7 1)) fun v9 =>
      zlet (zu s1 13 j7 1 a2) fun s1_10 =>
      some (.inl (v9, s1_10))
  else
    some (.inr ("java/lang/IllegalStateException", s1))
else
  some (.inr ("java/lang/IllegalStateException", s1))) (fun r => some r))) (fun b => some (.inr (b, s1))))
set_option maxHeartbeats 4000000 in
set_option maxRecDepth 20000 in
theorem bfWB_sail {X : zX} (F : zFr X cX9_sail 5 RX9 (some .int)) (a1 : Int32) (a2 : Int32)  (s0 : zM) (s1 : zM) (s2 : zM) (s3 : zM) {κ : (Int32 × zM) ⊕ (String × zM) → Option zO} (hκ : ∀ a, κ a = some ((zts (fun q => some (zi q.1)) (fun q => [s0, q.2, s2, s3]) (fun b => b.1) (fun b => [s0, b.2, s2, s3])) a)) : zZ X [(2, [1, 2, 3]), (0, []), (0, []), (1, [])] 7 111 5 0 [some (zr 0 0 0), some (zi a1), some (zi a2), none, none] [] [s0, s1, s2, s3] (Option.bind (fWB_sail a1 a2 s0 s1 s2 s3) κ) := by
  unfold fWB_sail
  refine zz_aload_n F (i := 0) dX9_sail_0 rfl rfl ?_
  refine zz_iload_n F (i := 1) dX9_sail_1 rfl rfl ?_
  refine zz_bind ?_
  refine zz_callVx F (ρ := [0, 1, 2, 3]) (so := fun _ => []) (Mo := fun _ => [s0, s1, s2, s3]) (Xo := fun _ => [s0, s1, s2, s3]) (zfWB_checkVessel a1 s0 s1 s2 s3) dX9_sail_2 wcRX9_147 wy_yX9_checkVessel rfl ⟨rel2, rfl, rfl, Nat.le_of_ble_eq_true rfl, Nat.le_of_ble_eq_true rfl, Nat.le_of_ble_eq_true rfl⟩ (⟨zlb rfl, zlb rfl, zlb rfl⟩) rfl rfl rfl (fun _ => rfl) (fun _ => rfl) (fun _ => rfl) (fun _ => (hκ _)) fun _ => ?_
  dsimp only [Sum.elim_inl]
  refine zz_iload_n F (i := 2) dX9_sail_5 rfl rfl ?_
  refine zz_iconst F (v := (-1 : Int32)) dX9_sail_6 (by decide) ?_
  refine zz_joinE (pj := 15) (Lj := fun _ => [some (zr 0 0 0), some (zi a1), some (zi a2), none, none]) (Sj := fun _ => []) (Mj := fun _ => [s0, s1, s2, s3]) (fun _ => ?_) (fun κ4 hj3 hr5 => ?_)
  · refine zz_aload_n F (i := 0) dX9_sail_15 rfl rfl ?_
    refine zz_getr F dX9_sail_16 wfRX9_10 zCl_8 rfl (⟨zlb rfl, zlb rfl, zlb rfl⟩) rfl (by decide) rfl (r' := 1) (by decide) ?_
    refine zz_getr F dX9_sail_19 wfRX9_150 zCl_3 rfl (⟨zlb rfl, zlb rfl, zlb rfl⟩) rfl (by decide) rfl (r' := 1) (by decide) ?_
    refine zz_iload_n F (i := 1) dX9_sail_22 rfl rfl ?_
    refine zz_ix fun j7 hj7 hinj7 hej7 => zz_aal F dX9_sail_23 rfl (⟨zlb rfl, zlb rfl, zlb rfl⟩) rfl (by decide) rfl hinj7 hej7 rfl ?_
    refine zz_astore_n F (i := 3) (L' := [some (zr 0 0 0), some (zi a1), some (zi a2), some (zr 1 13 j7), none]) dX9_sail_24 rfl (by decide) rfl rfl ?_
    refine zz_aload_n F (i := 3) dX9_sail_25 rfl rfl ?_
    refine zz_getb F dX9_sail_26 wfRX9_154 zCl_6 rfl (⟨zlb rfl, zlb rfl, hj7⟩) rfl (by decide) rfl rfl ?_
    refine zz_if_ne F (tgt := 44) dX9_sail_29 (by decide) (fun h => zz_f h ?_) (fun h => zz_t h ?_)
    · exact zz_throw F (cls := "java/lang/IllegalStateException") dX9_sail_44 dX9_sail_47 dX9_sail_48 dX9_sail_50 dX9_sail_53 (by decide) wtRX9_41_45k wsRX9_163 wtRX9_41_45g wtRX9_41_45n wtRX9_41_45o (Nat.le_of_ble_eq_true rfl) (Nat.le_of_ble_eq_true rfl) (hκ _)
    · refine zz_aload_n F (i := 0) dX9_sail_32 rfl rfl ?_
      refine zz_getr F dX9_sail_33 wfRX9_10 zCl_8 rfl (⟨zlb rfl, zlb rfl, zlb rfl⟩) rfl (by decide) rfl (r' := 1) (by decide) ?_
      refine zz_iload_n F (i := 2) dX9_sail_36 rfl rfl ?_
      refine zz_iload_n F (i := 1) dX9_sail_37 rfl rfl ?_
      refine zz_bind ?_
      refine zz_callVr F (ρ := [1]) (so := fun q8 => [zi q8]) (Mo := fun q8 => [s0, s1, s2, s3]) (zfSe_isAnotherAt a2 a1 s1) dX9_sail_38 wcRX9_160 wy_yX3_isAnotherAt rfl ⟨rel1, rfl, rfl, Nat.le_of_ble_eq_true rfl, Nat.le_of_ble_eq_true rfl, Nat.le_of_ble_eq_true rfl⟩ (⟨zlb rfl, zlb rfl, zlb rfl⟩) rfl rfl rfl (fun _ => rfl) (fun _ => rfl) fun q8 => ?_
      refine zz_if_eq F (tgt := 54) dX9_sail_41 (by decide) (fun h => zz_t h ?_) (fun h => zz_f h ?_)
      · refine zz_aload_n F (i := 3) dX9_sail_54 rfl rfl ?_
        refine zz_getf F dX9_sail_55 wfRX9_165 zCl_6 rfl (⟨zlb rfl, zlb rfl, hj7⟩) rfl (by decide) rfl rfl ?_
        refine zz_istore F (i := 4) (L' := [some (zr 0 0 0), some (zi a1), some (zi a2), some (zr 1 13 j7), some (zi (s1 13 j7 1))]) dX9_sail_58 (by decide) rfl rfl ?_
        refine zz_letl (Lf := fun v9 => [some (zr 0 0 0), some (zi a1), some (zi a2), some (zr 1 13 j7), some (zi v9)]) fun v9 => ?_
        refine zz_aload_n F (i := 3) dX9_sail_60 rfl rfl ?_
        refine zz_iload_n F (i := 2) dX9_sail_61 rfl rfl ?_
        refine zz_put F (Ms' := [s0, (zu s1 13 j7 1 a2), s2, s3]) dX9_sail_62 wpRX9_165 zCl_6 rfl (⟨zlb rfl, zlb rfl, hj7⟩) rfl (by decide) rfl rfl rfl ?_
        refine zz_letm (Mf := fun s1_10 => [s0, s1_10, s2, s3]) fun s1_10 => ?_
        refine zz_iload F (i := 4) dX9_sail_65 rfl ?_
        exact zz_ireturn F dX9_sail_67 rfl (hκ _)
      · exact zz_throw F (cls := "java/lang/IllegalStateException") dX9_sail_44 dX9_sail_47 dX9_sail_48 dX9_sail_50 dX9_sail_53 (by decide) wtRX9_41_45k wsRX9_163 wtRX9_41_45g wtRX9_41_45n wtRX9_41_45o (Nat.le_of_ble_eq_true rfl) (Nat.le_of_ble_eq_true rfl) (hκ _)
  · refine zz_icmp_eq F (tgt := 15) dX9_sail_7 (by decide) (fun h => zz_t h ?_) (fun h => zz_f h ?_)
    · exact zz_sub (zs_k (zs_k (zs_k (zs_k (zs_k zs_z))))) (hj3 ())
    · refine zz_aload_n F (i := 0) dX9_sail_10 rfl rfl ?_
      refine zz_iload_n F (i := 2) dX9_sail_11 rfl rfl ?_
      refine zz_bind ?_
      refine zz_callVx F (ρ := [0, 1, 2, 3]) (so := fun _ => []) (Mo := fun _ => [s0, s1, s2, s3]) (Xo := fun _ => [s0, s1, s2, s3]) (zfWB_checkTurbine a2 s0 s1 s2 s3) dX9_sail_12 wcRX9_113 wy_yX9_checkTurbine rfl ⟨rel2, rfl, rfl, Nat.le_of_ble_eq_true rfl, Nat.le_of_ble_eq_true rfl, Nat.le_of_ble_eq_true rfl⟩ (⟨zlb rfl, zlb rfl, zlb rfl⟩) rfl rfl rfl (fun _ => rfl) (fun _ => rfl) (fun _ => rfl) (fun _ => ((hr5 _).trans (hκ _))) fun _ => ?_
      dsimp only [Sum.elim_inl]
      exact zz_sub (zs_k (zs_k (zs_k (zs_k (zs_k zs_z))))) (hj3 ())
theorem zfWB_sail (a1 : Int32) (a2 : Int32)  (s0 : zM) (s1 : zM) (s2 : zM) (s3 : zM) : ∀ a, fWB_sail a1 a2 s0 s1 s2 s3 = some a → zMet yX9_sail cX9_sail 5 (some .int) 7 111 [(2, [1, 2, 3]), (0, []), (0, []), (1, [])] [zr 0 0 0, zi a1, zi a2] [s0, s1, s2, s3] ((zts (fun q => some (zi q.1)) (fun q => [s0, q.2, s2, s3]) (fun b => b.1) (fun b => [s0, b.2, s2, s3])) a) := fun a ha => zMet_of (L0 := [some (zr 0 0 0), some (zi a1), some (zi a2), none, none]) (φ := Option.bind (fWB_sail a1 a2 s0 s1 s2 s3) (fun a => some ((zts (fun q => some (zi q.1)) (fun q => [s0, q.2, s2, s3]) (fun b => b.1) (fun b => [s0, b.2, s2, s3])) a))) (by decide) (fun _ => Nat.le_of_ble_eq_true rfl) (zl0 2 rfl) (fun X F => bfWB_sail F a1 a2 s0 s1 s2 s3 (fun _ => rfl)) (by rw [ha]; rfl)

theorem dX5_canBeLocked_0 : decode cX5_canBeLocked 0 = .ok (.aload_n 0, 1) := by decide +kernel
theorem dX5_canBeLocked_1 : decode cX5_canBeLocked 1 = .ok (.getfield 9, 3) := by decide +kernel
theorem dX5_canBeLocked_4 : decode cX5_canBeLocked 4 = .ok (.iconst 1, 1) := by decide +kernel
theorem dX5_canBeLocked_5 : decode cX5_canBeLocked 5 = .ok (.if_icmp .eq 15, 3) := by decide +kernel
theorem dX5_canBeLocked_8 : decode cX5_canBeLocked 8 = .ok (.aload_n 0, 1) := by decide +kernel
theorem dX5_canBeLocked_9 : decode cX5_canBeLocked 9 = .ok (.getfield 9, 3) := by decide +kernel
theorem dX5_canBeLocked_12 : decode cX5_canBeLocked 12 = .ok (.iconst 4, 1) := by decide +kernel
theorem dX5_canBeLocked_13 : decode cX5_canBeLocked 13 = .ok (.if_icmp .eq 7, 3) := by decide +kernel
theorem dX5_canBeLocked_16 : decode cX5_canBeLocked 16 = .ok (.iconst 1, 1) := by decide +kernel
theorem dX5_canBeLocked_17 : decode cX5_canBeLocked 17 = .ok (.goto 4, 3) := by decide +kernel
theorem dX5_canBeLocked_20 : decode cX5_canBeLocked 20 = .ok (.iconst 0, 1) := by decide +kernel
theorem dX5_canBeLocked_21 : decode cX5_canBeLocked 21 = .ok (.ireturn, 1) := by decide +kernel
def fTu_canBeLocked (i : Nat) (s0 : zM) : Option (Int32) :=
  if (s0 7 i 3) = (1 : Int32) then
  some (0 : Int32)
else
  if (s0 7 i 3) = (4 : Int32) then
    some (0 : Int32)
  else
    some (1 : Int32)
set_option maxHeartbeats 4000000 in
set_option maxRecDepth 20000 in
theorem bfTu_canBeLocked {X : zX} (F : zFr X cX5_canBeLocked 1 RX5 (some .boolean)) (i : Nat) (hi : i < 8) (s0 : zM) {κ : Int32 → Option zO} (hκ : ∀ a, κ a = some ((fun a => ((.inl ((fun q => some (zi q)) a), (fun _ => [s0]) a) : zO)) a)) : zZ X [(0, [])] 0 0 1 0 [some (zr 0 7 i)] [] [s0] (Option.bind (fTu_canBeLocked i s0) κ) := by
  unfold fTu_canBeLocked
  refine zz_aload_n F (i := 0) dX5_canBeLocked_0 rfl rfl ?_
  refine zz_getf F dX5_canBeLocked_1 wfRX5_9 zCl_5 rfl (⟨zlb rfl, zlb rfl, hi⟩) rfl (by decide) rfl rfl ?_
  refine zz_iconst F (v := (1 : Int32)) dX5_canBeLocked_4 (by decide) ?_
  refine zz_icmp_eq F (tgt := 20) dX5_canBeLocked_5 (by decide) (fun h => zz_t h ?_) (fun h => zz_f h ?_)
  · refine zz_iconst F (v := (0 : Int32)) dX5_canBeLocked_20 (by decide) ?_
    exact zz_zreturn F dX5_canBeLocked_21 rfl rfl (hκ _)
  · refine zz_aload_n F (i := 0) dX5_canBeLocked_8 rfl rfl ?_
    refine zz_getf F dX5_canBeLocked_9 wfRX5_9 zCl_5 rfl (⟨zlb rfl, zlb rfl, hi⟩) rfl (by decide) rfl rfl ?_
    refine zz_iconst F (v := (4 : Int32)) dX5_canBeLocked_12 (by decide) ?_
    refine zz_icmp_eq F (tgt := 20) dX5_canBeLocked_13 (by decide) (fun h => zz_t h ?_) (fun h => zz_f h ?_)
    · refine zz_iconst F (v := (0 : Int32)) dX5_canBeLocked_20 (by decide) ?_
      exact zz_zreturn F dX5_canBeLocked_21 rfl rfl (hκ _)
    · refine zz_iconst F (v := (1 : Int32)) dX5_canBeLocked_16 (by decide) ?_
      refine zz_goto F (tgt := 21) dX5_canBeLocked_17 (by decide) ?_
      exact zz_zreturn F dX5_canBeLocked_21 rfl rfl (hκ _)
theorem zfTu_canBeLocked (i : Nat) (hi : i < 8) (s0 : zM) : ∀ a, fTu_canBeLocked i s0 = some a → zMet yX5_canBeLocked cX5_canBeLocked 1 (some .boolean) 0 0 [(0, [])] [zr 0 7 i] [s0] ((fun a => ((.inl ((fun q => some (zi q)) a), (fun _ => [s0]) a) : zO)) a) := fun a ha => zMet_of (L0 := [some (zr 0 7 i)]) (φ := Option.bind (fTu_canBeLocked i s0) (fun a => some ((fun a => ((.inl ((fun q => some (zi q)) a), (fun _ => [s0]) a) : zO)) a))) (by decide) (fun _ => Nat.le_of_ble_eq_true rfl) (zl0 0 rfl) (fun X F => bfTu_canBeLocked F i hi s0 (fun _ => rfl)) (by rw [ha]; rfl)

theorem dX5_lockFor_0 : decode cX5_lockFor 0 = .ok (.aload_n 0, 1) := by decide +kernel
theorem dX5_lockFor_1 : decode cX5_lockFor 1 = .ok (.iconst 4, 1) := by decide +kernel
theorem dX5_lockFor_2 : decode cX5_lockFor 2 = .ok (.invokevirtual 69, 3) := by decide +kernel
theorem dX5_lockFor_5 : decode cX5_lockFor 5 = .ok (.aload_n 0, 1) := by decide +kernel
theorem dX5_lockFor_6 : decode cX5_lockFor 6 = .ok (.iload_n 1, 1) := by decide +kernel
theorem dX5_lockFor_7 : decode cX5_lockFor 7 = .ok (.putfield 21, 3) := by decide +kernel
theorem dX5_lockFor_10 : decode cX5_lockFor 10 = .ok (.return_, 1) := by decide +kernel
def fTu_lockFor (i : Nat) (a1 : Int32) (s0 : zM) : Option (zM) :=
  Option.bind (fTu_become i (4 : Int32) s0) fun q1 =>
  zlet (zu q1 7 i 6 a1) fun s0_2 =>
  some s0_2
set_option maxHeartbeats 4000000 in
set_option maxRecDepth 20000 in
theorem bfTu_lockFor {X : zX} (F : zFr X cX5_lockFor 2 RX5 none) (i : Nat) (a1 : Int32) (hi : i < 8) (s0 : zM) {κ : zM → Option zO} (hκ : ∀ a, κ a = some ((fun a => ((.inl ((fun _ => (none : Option zV)) a), (fun q => [q]) a) : zO)) a)) : zZ X [(0, [])] 1 21 2 0 [some (zr 0 7 i), some (zi a1)] [] [s0] (Option.bind (fTu_lockFor i a1 s0) κ) := by
  unfold fTu_lockFor
  refine zz_aload_n F (i := 0) dX5_lockFor_0 rfl rfl ?_
  refine zz_iconst F (v := (4 : Int32)) dX5_lockFor_1 (by decide) ?_
  refine zz_bind ?_
  refine zz_callVr F (ρ := [0]) (so := fun q1 => []) (Mo := fun q1 => [q1]) (zfTu_become i (4 : Int32) hi s0) dX5_lockFor_2 wcRX5_69 wy_yX5_become rfl ⟨rel3, rfl, rfl, Nat.le_of_ble_eq_true rfl, Nat.le_of_ble_eq_true rfl, Nat.le_of_ble_eq_true rfl⟩ (⟨zlb rfl, zlb rfl, hi⟩) rfl rfl rfl (fun _ => rfl) (fun _ => rfl) fun q1 => ?_
  refine zz_aload_n F (i := 0) dX5_lockFor_5 rfl rfl ?_
  refine zz_iload_n F (i := 1) dX5_lockFor_6 rfl rfl ?_
  refine zz_put F (Ms' := [(zu q1 7 i 6 a1)]) dX5_lockFor_7 wpRX5_21 zCl_5 rfl (⟨zlb rfl, zlb rfl, hi⟩) rfl (by decide) rfl rfl rfl ?_
  refine zz_letm (Mf := fun s0_2 => [s0_2]) fun s0_2 => ?_
  exact zz_return F dX5_lockFor_10 rfl (hκ _)
theorem zfTu_lockFor (i : Nat) (a1 : Int32) (hi : i < 8) (s0 : zM) : ∀ a, fTu_lockFor i a1 s0 = some a → zMet yX5_lockFor cX5_lockFor 2 none 1 21 [(0, [])] [zr 0 7 i, zi a1] [s0] ((fun a => ((.inl ((fun _ => (none : Option zV)) a), (fun q => [q]) a) : zO)) a) := fun a ha => zMet_of (L0 := [some (zr 0 7 i), some (zi a1)]) (φ := Option.bind (fTu_lockFor i a1 s0) (fun a => some ((fun a => ((.inl ((fun _ => (none : Option zV)) a), (fun q => [q]) a) : zO)) a))) (by decide) (fun _ => Nat.le_of_ble_eq_true rfl) (zl0 0 rfl) (fun X F => bfTu_lockFor F i a1 hi s0 (fun _ => rfl)) (by rw [ha]; rfl)

theorem dX9_lock_0 : decode cX9_lock 0 = .ok (.aload_n 0, 1) := by decide +kernel
theorem dX9_lock_1 : decode cX9_lock 1 = .ok (.iload_n 1, 1) := by decide +kernel
theorem dX9_lock_2 : decode cX9_lock 2 = .ok (.invokevirtual 147, 3) := by decide +kernel
theorem dX9_lock_5 : decode cX9_lock 5 = .ok (.aload_n 0, 1) := by decide +kernel
theorem dX9_lock_6 : decode cX9_lock 6 = .ok (.getfield 10, 3) := by decide +kernel
theorem dX9_lock_9 : decode cX9_lock 9 = .ok (.getfield 150, 3) := by decide +kernel
theorem dX9_lock_12 : decode cX9_lock 12 = .ok (.iload_n 1, 1) := by decide +kernel
theorem dX9_lock_13 : decode cX9_lock 13 = .ok (.aaload, 1) := by decide +kernel
theorem dX9_lock_14 : decode cX9_lock 14 = .ok (.getfield 165, 3) := by decide +kernel
theorem dX9_lock_17 : decode cX9_lock 17 = .ok (.istore_n 3, 1) := by decide +kernel
theorem dX9_lock_18 : decode cX9_lock 18 = .ok (.aload_n 0, 1) := by decide +kernel
theorem dX9_lock_19 : decode cX9_lock 19 = .ok (.getfield 10, 3) := by decide +kernel
theorem dX9_lock_22 : decode cX9_lock 22 = .ok (.iload_n 3, 1) := by decide +kernel
theorem dX9_lock_23 : decode cX9_lock 23 = .ok (.invokevirtual 168, 3) := by decide +kernel
theorem dX9_lock_26 : decode cX9_lock 26 = .ok (.ifCond .eq 18, 3) := by decide +kernel
theorem dX9_lock_29 : decode cX9_lock 29 = .ok (.aload_n 0, 1) := by decide +kernel
theorem dX9_lock_30 : decode cX9_lock 30 = .ok (.getfield 10, 3) := by decide +kernel
theorem dX9_lock_33 : decode cX9_lock 33 = .ok (.getfield 150, 3) := by decide +kernel
theorem dX9_lock_36 : decode cX9_lock 36 = .ok (.iload_n 1, 1) := by decide +kernel
theorem dX9_lock_37 : decode cX9_lock 37 = .ok (.aaload, 1) := by decide +kernel
theorem dX9_lock_38 : decode cX9_lock 38 = .ok (.getfield 154, 3) := by decide +kernel
theorem dX9_lock_41 : decode cX9_lock 41 = .ok (.ifCond .eq 13, 3) := by decide +kernel
theorem dX9_lock_44 : decode cX9_lock 44 = .ok (.new 41, 3) := by decide +kernel
theorem dX9_lock_47 : decode cX9_lock 47 = .ok (.dup, 1) := by decide +kernel
theorem dX9_lock_48 : decode cX9_lock 48 = .ok (.ldc 172, 2) := by decide +kernel
theorem dX9_lock_50 : decode cX9_lock 50 = .ok (.invokespecial 45, 3) := by decide +kernel
theorem dX9_lock_53 : decode cX9_lock 53 = .ok (.athrow, 1) := by decide +kernel
theorem dX9_lock_54 : decode cX9_lock 54 = .ok (.aload_n 0, 1) := by decide +kernel
theorem dX9_lock_55 : decode cX9_lock 55 = .ok (.getfield 10, 3) := by decide +kernel
theorem dX9_lock_58 : decode cX9_lock 58 = .ok (.getfield 118, 3) := by decide +kernel
theorem dX9_lock_61 : decode cX9_lock 61 = .ok (.iload_n 3, 1) := by decide +kernel
theorem dX9_lock_62 : decode cX9_lock 62 = .ok (.aaload, 1) := by decide +kernel
theorem dX9_lock_63 : decode cX9_lock 63 = .ok (.astore 4, 2) := by decide +kernel
theorem dX9_lock_65 : decode cX9_lock 65 = .ok (.iload_n 2, 1) := by decide +kernel
theorem dX9_lock_66 : decode cX9_lock 66 = .ok (.ifCond .eq 14, 3) := by decide +kernel
theorem dX9_lock_69 : decode cX9_lock 69 = .ok (.aload 4, 2) := by decide +kernel
theorem dX9_lock_71 : decode cX9_lock 71 = .ok (.invokevirtual 174, 3) := by decide +kernel
theorem dX9_lock_74 : decode cX9_lock 74 = .ok (.ifCond .ne 25, 3) := by decide +kernel
theorem dX9_lock_77 : decode cX9_lock 77 = .ok (.goto 12, 3) := by decide +kernel
theorem dX9_lock_80 : decode cX9_lock 80 = .ok (.aload 4, 2) := by decide +kernel
theorem dX9_lock_82 : decode cX9_lock 82 = .ok (.getfield 177, 3) := by decide +kernel
theorem dX9_lock_85 : decode cX9_lock 85 = .ok (.iload_n 1, 1) := by decide +kernel
theorem dX9_lock_86 : decode cX9_lock 86 = .ok (.if_icmp .eq 13, 3) := by decide +kernel
theorem dX9_lock_89 : decode cX9_lock 89 = .ok (.new 41, 3) := by decide +kernel
theorem dX9_lock_92 : decode cX9_lock 92 = .ok (.dup, 1) := by decide +kernel
theorem dX9_lock_93 : decode cX9_lock 93 = .ok (.ldc 180, 2) := by decide +kernel
theorem dX9_lock_95 : decode cX9_lock 95 = .ok (.invokespecial 45, 3) := by decide +kernel
theorem dX9_lock_98 : decode cX9_lock 98 = .ok (.athrow, 1) := by decide +kernel
theorem dX9_lock_99 : decode cX9_lock 99 = .ok (.iload_n 2, 1) := by decide +kernel
theorem dX9_lock_100 : decode cX9_lock 100 = .ok (.ifCond .eq 12, 3) := by decide +kernel
theorem dX9_lock_103 : decode cX9_lock 103 = .ok (.aload 4, 2) := by decide +kernel
theorem dX9_lock_105 : decode cX9_lock 105 = .ok (.iload_n 1, 1) := by decide +kernel
theorem dX9_lock_106 : decode cX9_lock 106 = .ok (.invokevirtual 182, 3) := by decide +kernel
theorem dX9_lock_109 : decode cX9_lock 109 = .ok (.goto 9, 3) := by decide +kernel
theorem dX9_lock_112 : decode cX9_lock 112 = .ok (.aload 4, 2) := by decide +kernel
theorem dX9_lock_114 : decode cX9_lock 114 = .ok (.iconst 0, 1) := by decide +kernel
theorem dX9_lock_115 : decode cX9_lock 115 = .ok (.invokevirtual 139, 3) := by decide +kernel
theorem dX9_lock_118 : decode cX9_lock 118 = .ok (.iload_n 3, 1) := by decide +kernel
theorem dX9_lock_119 : decode cX9_lock 119 = .ok (.ireturn, 1) := by decide +kernel
theorem wsRX9_172 : (RX9, 172, "in PORT, or the crew is on the TURBINE") ∈ zstr := by decide +kernel
theorem wfRX9_177 : zFl RX9 177 5 6 := ⟨_, rfl, by decide, zm_f 178 (by decide +kernel) rfl⟩
theorem wcRX9_182 : Cond.methodLink RX9 182 yX5_lockFor ∈ zTg ∧ Cond.instanceMethod yX5_lockFor ∈ zTg ∧ Cond.selects RX5 yX5_lockFor yX5_lockFor ∈ zTg ∧ Cond.initialized RX5 ∈ zTg ∧ Cond.code yX5_lockFor cX5_lockFor 2 none ∈ zTg := ⟨zm_f 881 (by decide +kernel) rfl, zm_f 882 (by decide +kernel) rfl, zm_f 883 (by decide +kernel) rfl, zm_f 41 (by decide +kernel) rfl, zm_f 884 (by decide +kernel) rfl⟩
theorem wy_yX5_lockFor : yX5_lockFor.cls = RX5 ∧ yX5_lockFor.cls ≠ "java/lang/invoke/MethodHandle" ∧ yX5_lockFor.cls ≠ "java/lang/invoke/VarHandle" ∧ (parseMethodDescriptor yX5_lockFor.desc).map (fun d => d.parameters.length) = some 1 := by decide +kernel
theorem wsRX9_180 : (RX9, 180, "STARTING, LOCKED, or not LOCKED by this VESSEL") ∈ zstr := by decide +kernel
theorem wcRX9_174 : Cond.methodLink RX9 174 yX5_canBeLocked ∈ zTg ∧ Cond.instanceMethod yX5_canBeLocked ∈ zTg ∧ Cond.selects RX5 yX5_canBeLocked yX5_canBeLocked ∈ zTg ∧ Cond.initialized RX5 ∈ zTg ∧ Cond.code yX5_canBeLocked cX5_canBeLocked 1 (some .boolean) ∈ zTg := ⟨zm_f 876 (by decide +kernel) rfl, zm_f 877 (by decide +kernel) rfl, zm_f 878 (by decide +kernel) rfl, zm_f 41 (by decide +kernel) rfl, zm_f 879 (by decide +kernel) rfl⟩
theorem wy_yX5_canBeLocked : yX5_canBeLocked.cls = RX5 ∧ yX5_canBeLocked.cls ≠ "java/lang/invoke/MethodHandle" ∧ yX5_canBeLocked.cls ≠ "java/lang/invoke/VarHandle" ∧ (parseMethodDescriptor yX5_canBeLocked.desc).map (fun d => d.parameters.length) = some 0 := by decide +kernel
def fWB_lock (a1 : Int32) (a2 : Int32) (s0 : zM) (s1 : zM) (s2 : zM) (s3 : zM) : Option ((Int32 × zM) ⊕ (String × zM)) :=
  Option.bind (fWB_checkVessel a1 s0 s1 s2 s3) (Sum.elim (fun (_ : Unit) =>
  zix a1 3 fun j2 =>
  zlet ((s1 13 j2 1)) fun v3 =>
  Option.bind (fSe_hasTurbine v3 s1) fun q4 =>
  if q4 = 0 then
  some (.inr ("java/lang/IllegalStateException", s1))
else
  zix a1 3 fun j5 =>
    if (s1 13 j5 2 &&& 1) = 0 then
    zix v3 8 fun j6 =>
      if a2 = 0 then
      if (s1 7 j6 6) = a1 then
        Option.bind (if a2 = 0 then
          Option.bind (fTu_stop j6 (0 : Int32) s1) fun q11 =>
            some q11
        else
          Option.bind (fTu_lockFor j6 a1 s1) fun q12 =>
            some q12) fun q7 =>
          some (.inl (v3, q7))
      else
        some (.inr ("java/lang/IllegalStateException", s1))
    else
      Option.bind (fTu_canBeLocked j6 s1) fun q13 =>
        if q13 = 0 then
        some (.inr ("java/lang/IllegalStateException", s1))
      else
        Option.bind (if a2 = 0 then
          Option.bind (fTu_stop j6 (0 : Int32) s1) fun q18 =>
            some q18
        else
          Option.bind (fTu_lockFor j6 a1 s1) fun q19 =>
            some q19) fun q14 =>
          some (.inl (v3, q14))
  else
    some (.inr ("java/lang/IllegalStateException", s1))) (fun b => some (.inr (b, s1))))
set_option maxHeartbeats 4000000 in
set_option maxRecDepth 20000 in
theorem bfWB_lock {X : zX} (F : zFr X cX9_lock 5 RX9 (some .int)) (a1 : Int32) (a2 : Int32)  (s0 : zM) (s1 : zM) (s2 : zM) (s3 : zM) {κ : (Int32 × zM) ⊕ (String × zM) → Option zO} (hκ : ∀ a, κ a = some ((zts (fun q => some (zi q.1)) (fun q => [s0, q.2, s2, s3]) (fun b => b.1) (fun b => [s0, b.2, s2, s3])) a)) : zZ X [(2, [1, 2, 3]), (0, []), (0, []), (1, [])] 7 111 5 0 [some (zr 0 0 0), some (zi a1), some (zi a2), none, none] [] [s0, s1, s2, s3] (Option.bind (fWB_lock a1 a2 s0 s1 s2 s3) κ) := by
  unfold fWB_lock
  refine zz_aload_n F (i := 0) dX9_lock_0 rfl rfl ?_
  refine zz_iload_n F (i := 1) dX9_lock_1 rfl rfl ?_
  refine zz_bind ?_
  refine zz_callVx F (ρ := [0, 1, 2, 3]) (so := fun _ => []) (Mo := fun _ => [s0, s1, s2, s3]) (Xo := fun _ => [s0, s1, s2, s3]) (zfWB_checkVessel a1 s0 s1 s2 s3) dX9_lock_2 wcRX9_147 wy_yX9_checkVessel rfl ⟨rel2, rfl, rfl, Nat.le_of_ble_eq_true rfl, Nat.le_of_ble_eq_true rfl, Nat.le_of_ble_eq_true rfl⟩ (⟨zlb rfl, zlb rfl, zlb rfl⟩) rfl rfl rfl (fun _ => rfl) (fun _ => rfl) (fun _ => rfl) (fun _ => (hκ _)) fun _ => ?_
  dsimp only [Sum.elim_inl]
  refine zz_aload_n F (i := 0) dX9_lock_5 rfl rfl ?_
  refine zz_getr F dX9_lock_6 wfRX9_10 zCl_8 rfl (⟨zlb rfl, zlb rfl, zlb rfl⟩) rfl (by decide) rfl (r' := 1) (by decide) ?_
  refine zz_getr F dX9_lock_9 wfRX9_150 zCl_3 rfl (⟨zlb rfl, zlb rfl, zlb rfl⟩) rfl (by decide) rfl (r' := 1) (by decide) ?_
  refine zz_iload_n F (i := 1) dX9_lock_12 rfl rfl ?_
  refine zz_ix fun j2 hj2 hinj2 hej2 => zz_aal F dX9_lock_13 rfl (⟨zlb rfl, zlb rfl, zlb rfl⟩) rfl (by decide) rfl hinj2 hej2 rfl ?_
  refine zz_getf F dX9_lock_14 wfRX9_165 zCl_6 rfl (⟨zlb rfl, zlb rfl, hj2⟩) rfl (by decide) rfl rfl ?_
  refine zz_istore_n F (i := 3) (L' := [some (zr 0 0 0), some (zi a1), some (zi a2), some (zi (s1 13 j2 1)), none]) dX9_lock_17 rfl (by decide) rfl rfl ?_
  refine zz_letl (Lf := fun v3 => [some (zr 0 0 0), some (zi a1), some (zi a2), some (zi v3), none]) fun v3 => ?_
  refine zz_aload_n F (i := 0) dX9_lock_18 rfl rfl ?_
  refine zz_getr F dX9_lock_19 wfRX9_10 zCl_8 rfl (⟨zlb rfl, zlb rfl, zlb rfl⟩) rfl (by decide) rfl (r' := 1) (by decide) ?_
  refine zz_iload_n F (i := 3) dX9_lock_22 rfl rfl ?_
  refine zz_bind ?_
  refine zz_callVr F (ρ := [1]) (so := fun q4 => [zi q4]) (Mo := fun q4 => [s0, s1, s2, s3]) (zfSe_hasTurbine v3 s1) dX9_lock_23 wcRX9_168 wy_yX3_hasTurbine rfl ⟨rel1, rfl, rfl, Nat.le_of_ble_eq_true rfl, Nat.le_of_ble_eq_true rfl, Nat.le_of_ble_eq_true rfl⟩ (⟨zlb rfl, zlb rfl, zlb rfl⟩) rfl rfl rfl (fun _ => rfl) (fun _ => rfl) fun q4 => ?_
  refine zz_if_eq F (tgt := 44) dX9_lock_26 (by decide) (fun h => zz_t h ?_) (fun h => zz_f h ?_)
  · exact zz_throw F (cls := "java/lang/IllegalStateException") dX9_lock_44 dX9_lock_47 dX9_lock_48 dX9_lock_50 dX9_lock_53 (by decide) wtRX9_41_45k wsRX9_172 wtRX9_41_45g wtRX9_41_45n wtRX9_41_45o (Nat.le_of_ble_eq_true rfl) (Nat.le_of_ble_eq_true rfl) (hκ _)
  · refine zz_aload_n F (i := 0) dX9_lock_29 rfl rfl ?_
    refine zz_getr F dX9_lock_30 wfRX9_10 zCl_8 rfl (⟨zlb rfl, zlb rfl, zlb rfl⟩) rfl (by decide) rfl (r' := 1) (by decide) ?_
    refine zz_getr F dX9_lock_33 wfRX9_150 zCl_3 rfl (⟨zlb rfl, zlb rfl, zlb rfl⟩) rfl (by decide) rfl (r' := 1) (by decide) ?_
    refine zz_iload_n F (i := 1) dX9_lock_36 rfl rfl ?_
    refine zz_ix fun j5 hj5 hinj5 hej5 => zz_aal F dX9_lock_37 rfl (⟨zlb rfl, zlb rfl, zlb rfl⟩) rfl (by decide) rfl hinj5 hej5 rfl ?_
    refine zz_getb F dX9_lock_38 wfRX9_154 zCl_6 rfl (⟨zlb rfl, zlb rfl, hj5⟩) rfl (by decide) rfl rfl ?_
    refine zz_if_eq F (tgt := 54) dX9_lock_41 (by decide) (fun h => zz_t h ?_) (fun h => zz_f h ?_)
    · refine zz_aload_n F (i := 0) dX9_lock_54 rfl rfl ?_
      refine zz_getr F dX9_lock_55 wfRX9_10 zCl_8 rfl (⟨zlb rfl, zlb rfl, zlb rfl⟩) rfl (by decide) rfl (r' := 1) (by decide) ?_
      refine zz_getr F dX9_lock_58 wfRX9_118 zCl_3 rfl (⟨zlb rfl, zlb rfl, zlb rfl⟩) rfl (by decide) rfl (r' := 1) (by decide) ?_
      refine zz_iload_n F (i := 3) dX9_lock_61 rfl rfl ?_
      refine zz_ix fun j6 hj6 hinj6 hej6 => zz_aal F dX9_lock_62 rfl (⟨zlb rfl, zlb rfl, zlb rfl⟩) rfl (by decide) rfl hinj6 hej6 rfl ?_
      refine zz_astore F (i := 4) (L' := [some (zr 0 0 0), some (zi a1), some (zi a2), some (zi v3), some (zr 1 7 j6)]) dX9_lock_63 (by decide) rfl rfl ?_
      refine zz_iload_n F (i := 2) dX9_lock_65 rfl rfl ?_
      refine zz_if_eq F (tgt := 80) dX9_lock_66 (by decide) (fun h => zz_t h ?_) (fun h => zz_f h ?_)
      · refine zz_aload F (i := 4) dX9_lock_80 rfl ?_
        refine zz_getf F dX9_lock_82 wfRX9_177 zCl_5 rfl (⟨zlb rfl, zlb rfl, hj6⟩) rfl (by decide) rfl rfl ?_
        refine zz_iload_n F (i := 1) dX9_lock_85 rfl rfl ?_
        refine zz_icmp_eq F (tgt := 99) dX9_lock_86 (by decide) (fun h => zz_t h ?_) (fun h => zz_f h ?_)
        · refine zz_iload_n F (i := 2) dX9_lock_99 rfl rfl ?_
          refine zz_join (pj := 118) (Lj := fun q7 => [none, none, none, some (zi v3), none]) (Sj := fun q7 => []) (Mj := fun q7 => [s0, q7, s2, s3]) (fun q7 => ?_) (fun κ9 hj8 => ?_)
          · refine zz_iload_n F (i := 3) dX9_lock_118 rfl rfl ?_
            exact zz_ireturn F dX9_lock_119 rfl (hκ _)
          · refine zz_if_eq F (tgt := 112) dX9_lock_100 (by decide) (fun h => zz_t h ?_) (fun h => zz_f h ?_)
            · refine zz_aload F (i := 4) dX9_lock_112 rfl ?_
              refine zz_iconst F (v := (0 : Int32)) dX9_lock_114 (by decide) ?_
              refine zz_bind ?_
              refine zz_callVr F (ρ := [1]) (so := fun q11 => []) (Mo := fun q11 => [s0, q11, s2, s3]) (zfTu_stop j6 (0 : Int32) hj6 s1) dX9_lock_115 wcRX9_139 wy_yX5_stop rfl ⟨rel1, rfl, rfl, Nat.le_of_ble_eq_true rfl, Nat.le_of_ble_eq_true rfl, Nat.le_of_ble_eq_true rfl⟩ (⟨zlb rfl, zlb rfl, hj6⟩) rfl rfl rfl (fun _ => rfl) (fun _ => rfl) fun q11 => ?_
              exact zz_sub (zs_n (zs_n (zs_n (zs_k (zs_n zs_z))))) (hj8 q11)
            · refine zz_aload F (i := 4) dX9_lock_103 rfl ?_
              refine zz_iload_n F (i := 1) dX9_lock_105 rfl rfl ?_
              refine zz_bind ?_
              refine zz_callVr F (ρ := [1]) (so := fun q12 => []) (Mo := fun q12 => [s0, q12, s2, s3]) (zfTu_lockFor j6 a1 hj6 s1) dX9_lock_106 wcRX9_182 wy_yX5_lockFor rfl ⟨rel1, rfl, rfl, Nat.le_of_ble_eq_true rfl, Nat.le_of_ble_eq_true rfl, Nat.le_of_ble_eq_true rfl⟩ (⟨zlb rfl, zlb rfl, hj6⟩) rfl rfl rfl (fun _ => rfl) (fun _ => rfl) fun q12 => ?_
              refine zz_goto F (tgt := 118) dX9_lock_109 (by decide) ?_
              exact zz_sub (zs_n (zs_n (zs_n (zs_k (zs_n zs_z))))) (hj8 q12)
        · exact zz_throw F (cls := "java/lang/IllegalStateException") dX9_lock_89 dX9_lock_92 dX9_lock_93 dX9_lock_95 dX9_lock_98 (by decide) wtRX9_41_45k wsRX9_180 wtRX9_41_45g wtRX9_41_45n wtRX9_41_45o (Nat.le_of_ble_eq_true rfl) (Nat.le_of_ble_eq_true rfl) (hκ _)
      · refine zz_aload F (i := 4) dX9_lock_69 rfl ?_
        refine zz_bind ?_
        refine zz_callVr F (ρ := [1]) (so := fun q13 => [zi q13]) (Mo := fun q13 => [s0, s1, s2, s3]) (zfTu_canBeLocked j6 hj6 s1) dX9_lock_71 wcRX9_174 wy_yX5_canBeLocked rfl ⟨rel1, rfl, rfl, Nat.le_of_ble_eq_true rfl, Nat.le_of_ble_eq_true rfl, Nat.le_of_ble_eq_true rfl⟩ (⟨zlb rfl, zlb rfl, hj6⟩) rfl rfl rfl (fun _ => rfl) (fun _ => rfl) fun q13 => ?_
        refine zz_if_ne F (tgt := 99) dX9_lock_74 (by decide) (fun h => zz_f h ?_) (fun h => zz_t h ?_)
        · refine zz_iload_n F (i := 2) dX9_lock_99 rfl rfl ?_
          refine zz_join (pj := 118) (Lj := fun q14 => [none, none, none, some (zi v3), none]) (Sj := fun q14 => []) (Mj := fun q14 => [s0, q14, s2, s3]) (fun q14 => ?_) (fun κ16 hj15 => ?_)
          · refine zz_iload_n F (i := 3) dX9_lock_118 rfl rfl ?_
            exact zz_ireturn F dX9_lock_119 rfl (hκ _)
          · refine zz_if_eq F (tgt := 112) dX9_lock_100 (by decide) (fun h => zz_t h ?_) (fun h => zz_f h ?_)
            · refine zz_aload F (i := 4) dX9_lock_112 rfl ?_
              refine zz_iconst F (v := (0 : Int32)) dX9_lock_114 (by decide) ?_
              refine zz_bind ?_
              refine zz_callVr F (ρ := [1]) (so := fun q18 => []) (Mo := fun q18 => [s0, q18, s2, s3]) (zfTu_stop j6 (0 : Int32) hj6 s1) dX9_lock_115 wcRX9_139 wy_yX5_stop rfl ⟨rel1, rfl, rfl, Nat.le_of_ble_eq_true rfl, Nat.le_of_ble_eq_true rfl, Nat.le_of_ble_eq_true rfl⟩ (⟨zlb rfl, zlb rfl, hj6⟩) rfl rfl rfl (fun _ => rfl) (fun _ => rfl) fun q18 => ?_
              exact zz_sub (zs_n (zs_n (zs_n (zs_k (zs_n zs_z))))) (hj15 q18)
            · refine zz_aload F (i := 4) dX9_lock_103 rfl ?_
              refine zz_iload_n F (i := 1) dX9_lock_105 rfl rfl ?_
              refine zz_bind ?_
              refine zz_callVr F (ρ := [1]) (so := fun q19 => []) (Mo := fun q19 => [s0, q19, s2, s3]) (zfTu_lockFor j6 a1 hj6 s1) dX9_lock_106 wcRX9_182 wy_yX5_lockFor rfl ⟨rel1, rfl, rfl, Nat.le_of_ble_eq_true rfl, Nat.le_of_ble_eq_true rfl, Nat.le_of_ble_eq_true rfl⟩ (⟨zlb rfl, zlb rfl, hj6⟩) rfl rfl rfl (fun _ => rfl) (fun _ => rfl) fun q19 => ?_
              refine zz_goto F (tgt := 118) dX9_lock_109 (by decide) ?_
              exact zz_sub (zs_n (zs_n (zs_n (zs_k (zs_n zs_z))))) (hj15 q19)
        · refine zz_goto F (tgt := 89) dX9_lock_77 (by decide) ?_
          exact zz_throw F (cls := "java/lang/IllegalStateException") dX9_lock_89 dX9_lock_92 dX9_lock_93 dX9_lock_95 dX9_lock_98 (by decide) wtRX9_41_45k wsRX9_180 wtRX9_41_45g wtRX9_41_45n wtRX9_41_45o (Nat.le_of_ble_eq_true rfl) (Nat.le_of_ble_eq_true rfl) (hκ _)
    · exact zz_throw F (cls := "java/lang/IllegalStateException") dX9_lock_44 dX9_lock_47 dX9_lock_48 dX9_lock_50 dX9_lock_53 (by decide) wtRX9_41_45k wsRX9_172 wtRX9_41_45g wtRX9_41_45n wtRX9_41_45o (Nat.le_of_ble_eq_true rfl) (Nat.le_of_ble_eq_true rfl) (hκ _)
theorem zfWB_lock (a1 : Int32) (a2 : Int32)  (s0 : zM) (s1 : zM) (s2 : zM) (s3 : zM) : ∀ a, fWB_lock a1 a2 s0 s1 s2 s3 = some a → zMet yX9_lock cX9_lock 5 (some .int) 7 111 [(2, [1, 2, 3]), (0, []), (0, []), (1, [])] [zr 0 0 0, zi a1, zi a2] [s0, s1, s2, s3] ((zts (fun q => some (zi q.1)) (fun q => [s0, q.2, s2, s3]) (fun b => b.1) (fun b => [s0, b.2, s2, s3])) a) := fun a ha => zMet_of (L0 := [some (zr 0 0 0), some (zi a1), some (zi a2), none, none]) (φ := Option.bind (fWB_lock a1 a2 s0 s1 s2 s3) (fun a => some ((zts (fun q => some (zi q.1)) (fun q => [s0, q.2, s2, s3]) (fun b => b.1) (fun b => [s0, b.2, s2, s3])) a))) (by decide) (fun _ => Nat.le_of_ble_eq_true rfl) (zl0 2 rfl) (fun X F => bfWB_lock F a1 a2 s0 s1 s2 s3 (fun _ => rfl)) (by rw [ha]; rfl)

theorem dX9_checkPart_0 : decode cX9_checkPart 0 = .ok (.iload_n 0, 1) := by decide +kernel
theorem dX9_checkPart_1 : decode cX9_checkPart 1 = .ok (.iconst 0, 1) := by decide +kernel
theorem dX9_checkPart_2 : decode cX9_checkPart 2 = .ok (.iconst 2, 1) := by decide +kernel
theorem dX9_checkPart_3 : decode cX9_checkPart 3 = .ok (.invokestatic 26, 3) := by decide +kernel
theorem dX9_checkPart_6 : decode cX9_checkPart 6 = .ok (.ifCond .eq 14, 3) := by decide +kernel
theorem dX9_checkPart_9 : decode cX9_checkPart 9 = .ok (.new 238, 3) := by decide +kernel
theorem dX9_checkPart_12 : decode cX9_checkPart 12 = .ok (.dup, 1) := by decide +kernel
theorem dX9_checkPart_13 : decode cX9_checkPart 13 = .ok (.ldc_w 368, 3) := by decide +kernel
theorem dX9_checkPart_16 : decode cX9_checkPart 16 = .ok (.invokespecial 242, 3) := by decide +kernel
theorem dX9_checkPart_19 : decode cX9_checkPart 19 = .ok (.athrow, 1) := by decide +kernel
theorem dX9_checkPart_20 : decode cX9_checkPart 20 = .ok (.return_, 1) := by decide +kernel
theorem rel5 : zRel [] [] [] := by unfold zRel; decide
theorem wsRX9_368 : (RX9, 368, "no such PART") ∈ zstr := by decide +kernel
def fWB_checkPart (a0 : Int32)  : Option ((Unit) ⊕ (String)) :=
  Option.bind (fWB_outside a0 (0 : Int32) (2 : Int32)) fun q1 =>
  if q1 = 0 then
  some (.inl ())
else
  some (.inr "java/lang/IndexOutOfBoundsException")
set_option maxHeartbeats 4000000 in
set_option maxRecDepth 20000 in
theorem bfWB_checkPart {X : zX} (F : zFr X cX9_checkPart 1 RX9 none) (a0 : Int32)   {κ : (Unit) ⊕ (String) → Option zO} (hκ : ∀ a, κ a = some ((zts (fun _ => (none : Option zV)) (fun _ => []) (fun b => b) (fun _ => [])) a)) : zZ X [] 6 90 1 0 [some (zi a0)] [] [] (Option.bind (fWB_checkPart a0) κ) := by
  unfold fWB_checkPart
  refine zz_iload_n F (i := 0) dX9_checkPart_0 rfl rfl ?_
  refine zz_iconst F (v := (0 : Int32)) dX9_checkPart_1 (by decide) ?_
  refine zz_iconst F (v := (2 : Int32)) dX9_checkPart_2 (by decide) ?_
  refine zz_bind ?_
  refine zz_callSr F (ρ := []) (so := fun q1 => [zi q1]) (Mo := fun q1 => []) (zfWB_outside a0 (0 : Int32) (2 : Int32)) dX9_checkPart_3 wcRX9_26 wy_yX9_outside rfl ⟨rel5, rfl, rfl, Nat.le_of_ble_eq_true rfl, Nat.le_of_ble_eq_true rfl, Nat.le_of_ble_eq_true rfl⟩ rfl (fun _ => rfl) (fun _ => rfl) fun q1 => ?_
  refine zz_if_eq F (tgt := 20) dX9_checkPart_6 (by decide) (fun h => zz_t h ?_) (fun h => zz_f h ?_)
  · exact zz_return F dX9_checkPart_20 rfl (hκ _)
  · exact zz_throwW F (cls := "java/lang/IndexOutOfBoundsException") dX9_checkPart_9 dX9_checkPart_12 dX9_checkPart_13 dX9_checkPart_16 dX9_checkPart_19 (by decide) wtRX9_238_242k wsRX9_368 wtRX9_238_242g wtRX9_238_242n wtRX9_238_242o (Nat.le_of_ble_eq_true rfl) (Nat.le_of_ble_eq_true rfl) (hκ _)
theorem zfWB_checkPart (a0 : Int32)   : ∀ a, fWB_checkPart a0 = some a → zMet yX9_checkPart cX9_checkPart 1 none 6 90 [] [zi a0] [] ((zts (fun _ => (none : Option zV)) (fun _ => []) (fun b => b) (fun _ => [])) a) := fun a ha => zMet_of (L0 := [some (zi a0)]) (φ := Option.bind (fWB_checkPart a0) (fun a => some ((zts (fun _ => (none : Option zV)) (fun _ => []) (fun b => b) (fun _ => [])) a))) (by decide) (fun _ => Nat.le_of_ble_eq_true rfl) (zl0 0 rfl) (fun X F => bfWB_checkPart F a0 (fun _ => rfl)) (by rw [ha]; rfl)
