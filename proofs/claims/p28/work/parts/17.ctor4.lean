theorem dX9_init_0 : decode cX9_init 0 = .ok (.aload_n 0, 1) := by decide +kernel
theorem dX9_init_1 : decode cX9_init 1 = .ok (.invokespecial 1, 3) := by decide +kernel
theorem dX9_init_4 : decode cX9_init 4 = .ok (.aload_n 0, 1) := by decide +kernel
theorem dX9_init_5 : decode cX9_init 5 = .ok (.new 7, 3) := by decide +kernel
theorem dX9_init_8 : decode cX9_init 8 = .ok (.dup, 1) := by decide +kernel
theorem dX9_init_9 : decode cX9_init 9 = .ok (.invokespecial 9, 3) := by decide +kernel
theorem dX9_init_12 : decode cX9_init 12 = .ok (.putfield 10, 3) := by decide +kernel
theorem dX9_init_15 : decode cX9_init 15 = .ok (.aload_n 0, 1) := by decide +kernel
theorem dX9_init_16 : decode cX9_init 16 = .ok (.new 7, 3) := by decide +kernel
theorem dX9_init_19 : decode cX9_init 19 = .ok (.dup, 1) := by decide +kernel
theorem dX9_init_20 : decode cX9_init 20 = .ok (.invokespecial 9, 3) := by decide +kernel
theorem dX9_init_23 : decode cX9_init 23 = .ok (.putfield 16, 3) := by decide +kernel
theorem dX9_init_26 : decode cX9_init 26 = .ok (.aload_n 0, 1) := by decide +kernel
theorem dX9_init_27 : decode cX9_init 27 = .ok (.new 19, 3) := by decide +kernel
theorem dX9_init_30 : decode cX9_init 30 = .ok (.dup, 1) := by decide +kernel
theorem dX9_init_31 : decode cX9_init 31 = .ok (.invokespecial 21, 3) := by decide +kernel
theorem dX9_init_34 : decode cX9_init 34 = .ok (.putfield 22, 3) := by decide +kernel
theorem dX9_init_37 : decode cX9_init 37 = .ok (.return_, 1) := by decide +kernel
theorem koRX9_1 : Cond.methodLink RX9 1 Lib.objectInit ∈ zTg ∧ Cond.instanceMethod Lib.objectInit ∈ zTg ∧ Cond.code Lib.objectInit ⟨#[0xb1]⟩ 1 none ∈ zTg := ⟨zm_f 435 (by decide +kernel) rfl, zm_f 72 (by decide +kernel) rfl, zm_f 73 (by decide +kernel) rfl⟩
theorem knRX9_7 : Cond.classLink RX9 7 RX3 ∈ zTg ∧ Cond.instantiable RX3 11 ∈ zTg ∧ Cond.initialized RX3 ∈ zTg := ⟨zm_f 436 (by decide +kernel) rfl, zm_f 202 (by decide +kernel) rfl, zm_f 22 (by decide +kernel) rfl⟩
theorem dfX3 : ∀ j, j < 11 → defaultValue (tyX3 j) = vp_V [.null, .null, .null, .null, .null, .int 0, .int 0, .int 0, .int 0, .int 0, .int 0] j := by
  intro j hj
  rcases (show j = 0 ∨ j = 1 ∨ j = 2 ∨ j = 3 ∨ j = 4 ∨ j = 5 ∨ j = 6 ∨ j = 7 ∨ j = 8 ∨ j = 9 ∨ j = 10 by omega) with rfl | rfl | rfl | rfl | rfl | rfl | rfl | rfl | rfl | rfl | rfl <;> rfl
theorem kiRX9_9 : Cond.methodLink RX9 9 yX3_init ∈ zTg ∧ Cond.instanceMethod yX3_init ∈ zTg ∧ Cond.initialized yX3_init.cls ∈ zTg ∧ Cond.code yX3_init cX3_init 2 none ∈ zTg := ⟨zm_f 437 (by decide +kernel) rfl, zm_f 438 (by decide +kernel) rfl, zm_f 22 (by decide +kernel) rfl, zm_f 439 (by decide +kernel) rfl⟩
theorem wyyX3_init : yX3_init.name = "<init>" ∧ yX3_init.cls ≠ "java/lang/invoke/MethodHandle" ∧ yX3_init.cls ≠ "java/lang/invoke/VarHandle" ∧ (parseMethodDescriptor yX3_init.desc).map (fun d => d.parameters.length) = some 0 := by decide +kernel
theorem kqRX9_10 : ∃ Q : vw_C, zcl[8]? = some Q ∧ 0 < Q.2.2 ∧ Cond.fieldLink RX9 10 (Q.2.1 0).1 (Q.2.1 0).2.1 (Q.2.1 0).2.2.1 ∈ zTg ∧ (Q.2.1 0).2.2.2 = true ∧ (Q.2.1 0).1 = RX9 ∧ parseFieldDescriptor (Q.2.1 0).2.2.1 = some (.object "WakeBanks$Sea") := ⟨_, rfl, by decide, zm_f 703 (by decide +kernel) rfl, rfl, rfl, by decide +kernel⟩
theorem kqRX9_16 : ∃ Q : vw_C, zcl[8]? = some Q ∧ 1 < Q.2.2 ∧ Cond.fieldLink RX9 16 (Q.2.1 1).1 (Q.2.1 1).2.1 (Q.2.1 1).2.2.1 ∈ zTg ∧ (Q.2.1 1).2.2.2 = true ∧ (Q.2.1 1).1 = RX9 ∧ parseFieldDescriptor (Q.2.1 1).2.2.1 = some (.object "WakeBanks$Sea") := ⟨_, rfl, by decide, zm_f 704 (by decide +kernel) rfl, rfl, rfl, by decide +kernel⟩
theorem knRX9_19 : Cond.classLink RX9 19 RX4 ∈ zTg ∧ Cond.instantiable RX4 2 ∈ zTg ∧ Cond.initialized RX4 ∈ zTg := ⟨zm_f 690 (by decide +kernel) rfl, zm_f 691 (by decide +kernel) rfl, zm_f 29 (by decide +kernel) rfl⟩
theorem dfX4 : ∀ j, j < 2 → defaultValue (tyX4 j) = vp_V [.null, .null] j := by
  intro j hj
  rcases (show j = 0 ∨ j = 1 by omega) with rfl | rfl <;> rfl
theorem kiRX9_21 : Cond.methodLinkNest RX9 21 yX4_init "WakeBanks" ∈ zNws ∧ Cond.instanceMethod yX4_init ∈ zTg ∧ Cond.initialized yX4_init.cls ∈ zTg ∧ Cond.code yX4_init cX4_init 1 none ∈ zTg := ⟨by decide +kernel, zm_f 693 (by decide +kernel) rfl, zm_f 29 (by decide +kernel) rfl, zm_f 694 (by decide +kernel) rfl⟩
theorem wyyX4_init : yX4_init.name = "<init>" ∧ yX4_init.cls ≠ "java/lang/invoke/MethodHandle" ∧ yX4_init.cls ≠ "java/lang/invoke/VarHandle" ∧ (parseMethodDescriptor yX4_init.desc).map (fun d => d.parameters.length) = some 0 := by decide +kernel
theorem kqRX9_22 : ∃ Q : vw_C, zcl[8]? = some Q ∧ 2 < Q.2.2 ∧ Cond.fieldLink RX9 22 (Q.2.1 2).1 (Q.2.1 2).2.1 (Q.2.1 2).2.2.1 ∈ zTg ∧ (Q.2.1 2).2.2.2 = true ∧ (Q.2.1 2).1 = RX9 ∧ parseFieldDescriptor (Q.2.1 2).2.2.1 = some (.object "WakeBanks$Siting") := ⟨_, rfl, by decide, zm_f 705 (by decide +kernel) rfl, rfl, rfl, by decide +kernel⟩
def BcWB (cA : Nat → ClassId) (h0 : Nat) (ws : va_W) : Prop := ∃ ad : zR → Nat, ad (0, 0, 0) = h0 ∧ ws = zwl cA ad [(2, [1, 2, 3]), (0, []), (0, []), (1, [])] [zm0, zfr0, zfr0, zm0]
set_option maxHeartbeats 8000000 in
set_option maxRecDepth 20000 in
theorem zcWB : zMk yX9_init cX9_init 1 4 85 109 1246 (.inr (8, [.null, .null, .null])) BcWB := by
  refine zMk_of (by decide) rfl (by decide) fun X h0 F I T => ?_
  refine zn_aload_n F (i := 0) (k := 0) dX9_init_0 rfl rfl ?_
  refine zn_obj F dX9_init_1 koRX9_1 (Nat.le_of_ble_eq_true rfl) (Nat.le_of_ble_eq_true rfl) ?_
  refine zn_aload_n F (i := 0) (k := 0) dX9_init_4 rfl rfl ?_
  refine zn_new F (ci := 3) (N := 11) (fs := [.null, .null, .null, .null, .null, .int 0, .int 0, .int 0, .int 0, .int 0, .int 0]) dX9_init_5 rfl zCl_3 tyX3_ok knRX9_7 dfX3 (Nat.le_of_ble_eq_true rfl) (Nat.le_of_ble_eq_true rfl) fun q0 => ?_
  refine zn_dup F dX9_init_8 rfl ?_
  refine zn_call F (ws0 := [(h0, .inr (8, [.null, .null, .null]))]) zcSe dX9_init_9 kiRX9_9 wyyX3_init rfl (Nat.le_of_ble_eq_true rfl) (Nat.le_of_ble_eq_true rfl) (Nat.le_of_ble_eq_true rfl) (Nat.le_of_ble_eq_true rfl) (Nat.le_of_ble_eq_true rfl) fun w1 hB1 => ?_
  obtain ⟨l1, rfl⟩ := hB1
  refine zn_ws (ws' := ((h0, .inr (8, [.null, .null, .null])) :: zwl (zcA X) (zad0 (q0 :: l1)) [(0, [])] [zfr0])) rfl ?_
  refine zn_putF F I (j := 0) (ws' := ((h0, .inr (8, [.ref q0, .null, .null])) :: zwl (zcA X) (zad0 (q0 :: l1)) [(0, [])] [zfr0])) dX9_init_12 kqRX9_10 ⟨rfl, rfl⟩ zCl_8 rfl (zlb rfl) rfl ?_
  refine zn_aload_n F (i := 0) (k := 0) dX9_init_15 rfl rfl ?_
  refine zn_new F (ci := 3) (N := 11) (fs := [.null, .null, .null, .null, .null, .int 0, .int 0, .int 0, .int 0, .int 0, .int 0]) dX9_init_16 rfl zCl_3 tyX3_ok knRX9_7 dfX3 (Nat.le_of_ble_eq_true rfl) (Nat.le_of_ble_eq_true rfl) fun q2 => ?_
  refine zn_dup F dX9_init_19 rfl ?_
  refine zn_call F (ws0 := ((h0, .inr (8, [.ref q0, .null, .null])) :: zwl (zcA X) (zad0 (q0 :: l1)) [(0, [])] [zfr0])) zcSe dX9_init_20 kiRX9_9 wyyX3_init rfl (Nat.le_of_ble_eq_true rfl) (Nat.le_of_ble_eq_true rfl) (Nat.le_of_ble_eq_true rfl) (Nat.le_of_ble_eq_true rfl) (Nat.le_of_ble_eq_true rfl) fun w3 hB3 => ?_
  obtain ⟨l3, rfl⟩ := hB3
  refine zn_ws (ws' := ((h0, .inr (8, [.ref q0, .null, .null])) :: (zwl (zcA X) (zad0 (q0 :: l1)) [(0, [])] [zfr0] ++ zwl (zcA X) (zad0 (q2 :: l3)) [(0, [])] [zfr0]))) rfl ?_
  refine zn_putF F I (j := 0) (ws' := ((h0, .inr (8, [.ref q0, .ref q2, .null])) :: (zwl (zcA X) (zad0 (q0 :: l1)) [(0, [])] [zfr0] ++ zwl (zcA X) (zad0 (q2 :: l3)) [(0, [])] [zfr0]))) dX9_init_23 kqRX9_16 ⟨rfl, rfl⟩ zCl_8 rfl (zlb rfl) rfl ?_
  refine zn_aload_n F (i := 0) (k := 0) dX9_init_26 rfl rfl ?_
  refine zn_new F (ci := 4) (N := 2) (fs := [.null, .null]) dX9_init_27 rfl zCl_4 tyX4_ok knRX9_19 dfX4 (Nat.le_of_ble_eq_true rfl) (Nat.le_of_ble_eq_true rfl) fun q4 => ?_
  refine zn_dup F dX9_init_30 rfl ?_
  refine zn_callN F (ws0 := ((h0, .inr (8, [.ref q0, .ref q2, .null])) :: (zwl (zcA X) (zad0 (q0 :: l1)) [(0, [])] [zfr0] ++ zwl (zcA X) (zad0 (q2 :: l3)) [(0, [])] [zfr0]))) zcSi dX9_init_31 kiRX9_21 wyyX4_init rfl (Nat.le_of_ble_eq_true rfl) (Nat.le_of_ble_eq_true rfl) (Nat.le_of_ble_eq_true rfl) (Nat.le_of_ble_eq_true rfl) (Nat.le_of_ble_eq_true rfl) fun w5 hB5 => ?_
  obtain ⟨q6, q7, rfl⟩ := hB5
  refine zn_ws (ws' := ((h0, .inr (8, [.ref q0, .ref q2, .null])) :: ((zwl (zcA X) (zad0 (q0 :: l1)) [(0, [])] [zfr0] ++ zwl (zcA X) (zad0 (q2 :: l3)) [(0, [])] [zfr0]) ++ [(q4, .inr (4, [.ref q6, .ref q7])), (q6, .inl (zcA X 0, 64, .inl (fun _ => 0))), (q7, .inl (zcA X 0, 64, .inl (fun _ => 0)))]))) rfl ?_
  refine zn_putF F I (j := 0) (ws' := ((h0, .inr (8, [.ref q0, .ref q2, .ref q4])) :: ((zwl (zcA X) (zad0 (q0 :: l1)) [(0, [])] [zfr0] ++ zwl (zcA X) (zad0 (q2 :: l3)) [(0, [])] [zfr0]) ++ [(q4, .inr (4, [.ref q6, .ref q7])), (q6, .inl (zcA X 0, 64, .inl (fun _ => 0))), (q7, .inl (zcA X 0, 64, .inl (fun _ => 0)))]))) dX9_init_34 kqRX9_22 ⟨rfl, rfl⟩ zCl_8 rfl (zlb rfl) rfl ?_
  exact zn_ret F T dX9_init_37 ⟨rfl, fun q => match q.1 with | 0 => h0 | 1 => zad0 (q0 :: l1) q | 2 => zad0 (q2 :: l3) q | _ => zaf (fun k => k) [q4, q6, q7] q.2.1 q.2.2, rfl, rfl⟩ (Nat.le_refl _) (Nat.le_refl _)
