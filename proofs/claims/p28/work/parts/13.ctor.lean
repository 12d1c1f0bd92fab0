theorem dX0_init_0 : decode cX0_init 0 = .ok (.aload_n 0, 1) := by decide +kernel
theorem dX0_init_1 : decode cX0_init 1 = .ok (.invokespecial 1, 3) := by decide +kernel
theorem dX0_init_4 : decode cX0_init 4 = .ok (.return_, 1) := by decide +kernel
theorem koRX0_1 : Cond.methodLink RX0 1 Lib.objectInit ∈ zTg ∧ Cond.instanceMethod Lib.objectInit ∈ zTg ∧ Cond.code Lib.objectInit ⟨#[0xb1]⟩ 1 none ∈ zTg := ⟨zm_f 595 (by decide +kernel) rfl, zm_f 72 (by decide +kernel) rfl, zm_f 73 (by decide +kernel) rfl⟩
def BcCa (cA : Nat → ClassId) (h0 : Nat) (ws : va_W) : Prop := ws = [(h0, .inr (0, [.int 0, .int 0, .int 0]))]
set_option maxHeartbeats 8000000 in
set_option maxRecDepth 20000 in
theorem zcCa : zMk yX0_init cX0_init 1 1 24 0 0 (.inr (0, [.int 0, .int 0, .int 0])) BcCa := by
  refine zMk_of (by decide) rfl (by decide) fun X h0 F I T => ?_
  refine zn_aload_n F (i := 0) (k := 0) dX0_init_0 rfl rfl ?_
  refine zn_obj F dX0_init_1 koRX0_1 (Nat.le_of_ble_eq_true rfl) (Nat.le_of_ble_eq_true rfl) ?_
  exact zn_ret F T dX0_init_4 ⟨rfl, rfl⟩ (Nat.le_refl _) (Nat.le_refl _)

theorem dX8_init_0 : decode cX8_init 0 = .ok (.aload_n 0, 1) := by decide +kernel
theorem dX8_init_1 : decode cX8_init 1 = .ok (.invokespecial 3, 3) := by decide +kernel
theorem dX8_init_4 : decode cX8_init 4 = .ok (.aload_n 0, 1) := by decide +kernel
theorem dX8_init_5 : decode cX8_init 5 = .ok (.sipush 20000, 3) := by decide +kernel
theorem dX8_init_8 : decode cX8_init 8 = .ok (.putfield 9, 3) := by decide +kernel
theorem dX8_init_11 : decode cX8_init 11 = .ok (.return_, 1) := by decide +kernel
theorem koRX8_3 : Cond.methodLink RX8 3 Lib.objectInit ∈ zTg ∧ Cond.instanceMethod Lib.objectInit ∈ zTg ∧ Cond.code Lib.objectInit ⟨#[0xb1]⟩ 1 none ∈ zTg := ⟨zm_f 452 (by decide +kernel) rfl, zm_f 72 (by decide +kernel) rfl, zm_f 73 (by decide +kernel) rfl⟩
theorem kpRX8_9 : zFw RX8 9 7 4 .int := ⟨_, rfl, by decide, zm_f 463 (by decide +kernel) rfl, rfl, by decide +kernel⟩
def BcWe (cA : Nat → ClassId) (h0 : Nat) (ws : va_W) : Prop := ws = [(h0, .inr (7, [.int 0, .int 0, .int 0, .int 0, .int 20000]))]
set_option maxHeartbeats 8000000 in
set_option maxRecDepth 20000 in
theorem zcWe : zMk yX8_init cX8_init 1 1 24 0 0 (.inr (7, [.int 0, .int 0, .int 0, .int 0, .int 0])) BcWe := by
  refine zMk_of (by decide) rfl (by decide) fun X h0 F I T => ?_
  refine zn_aload_n F (i := 0) (k := 0) dX8_init_0 rfl rfl ?_
  refine zn_obj F dX8_init_1 koRX8_3 (Nat.le_of_ble_eq_true rfl) (Nat.le_of_ble_eq_true rfl) ?_
  refine zn_aload_n F (i := 0) (k := 0) dX8_init_4 rfl rfl ?_
  refine zn_sipush F (v := 20000) dX8_init_5 (by decide) ?_
  refine zn_put F (j := 0) (ws' := [(h0, .inr (7, [.int 0, .int 0, .int 0, .int 0, .int 20000]))]) dX8_init_8 kpRX8_9 zCl_7 rfl (zlb rfl) rfl ?_
  exact zn_ret F T dX8_init_11 ⟨rfl, rfl⟩ (Nat.le_refl _) (Nat.le_refl _)

theorem dX6_init_0 : decode cX6_init 0 = .ok (.aload_n 0, 1) := by decide +kernel
theorem dX6_init_1 : decode cX6_init 1 = .ok (.invokespecial 3, 3) := by decide +kernel
theorem dX6_init_4 : decode cX6_init 4 = .ok (.aload_n 0, 1) := by decide +kernel
theorem dX6_init_5 : decode cX6_init 5 = .ok (.iconst (-1), 1) := by decide +kernel
theorem dX6_init_6 : decode cX6_init 6 = .ok (.putfield 9, 3) := by decide +kernel
theorem dX6_init_9 : decode cX6_init 9 = .ok (.aload_n 0, 1) := by decide +kernel
theorem dX6_init_10 : decode cX6_init 10 = .ok (.iconst (-1), 1) := by decide +kernel
theorem dX6_init_11 : decode cX6_init 11 = .ok (.putfield 15, 3) := by decide +kernel
theorem dX6_init_14 : decode cX6_init 14 = .ok (.return_, 1) := by decide +kernel
theorem koRX6_3 : Cond.methodLink RX6 3 Lib.objectInit ∈ zTg ∧ Cond.instanceMethod Lib.objectInit ∈ zTg ∧ Cond.code Lib.objectInit ⟨#[0xb1]⟩ 1 none ∈ zTg := ⟨zm_f 614 (by decide +kernel) rfl, zm_f 72 (by decide +kernel) rfl, zm_f 73 (by decide +kernel) rfl⟩
theorem kpRX6_9 : zFw RX6 9 6 1 .int := ⟨_, rfl, by decide, zm_f 617 (by decide +kernel) rfl, rfl, by decide +kernel⟩
theorem kpRX6_15 : zFw RX6 15 6 3 .int := ⟨_, rfl, by decide, zm_f 623 (by decide +kernel) rfl, rfl, by decide +kernel⟩
def BcVe (cA : Nat → ClassId) (h0 : Nat) (ws : va_W) : Prop := ws = [(h0, .inr (6, [.int 0, .int (-1), .int 0, .int (-1), .int 0, .int 0]))]
set_option maxHeartbeats 8000000 in
set_option maxRecDepth 20000 in
theorem zcVe : zMk yX6_init cX6_init 1 1 24 0 0 (.inr (6, [.int 0, .int 0, .int 0, .int 0, .int 0, .int 0])) BcVe := by
  refine zMk_of (by decide) rfl (by decide) fun X h0 F I T => ?_
  refine zn_aload_n F (i := 0) (k := 0) dX6_init_0 rfl rfl ?_
  refine zn_obj F dX6_init_1 koRX6_3 (Nat.le_of_ble_eq_true rfl) (Nat.le_of_ble_eq_true rfl) ?_
  refine zn_aload_n F (i := 0) (k := 0) dX6_init_4 rfl rfl ?_
  refine zn_iconst F (v := -1) dX6_init_5 (by decide) ?_
  refine zn_put F (j := 0) (ws' := [(h0, .inr (6, [.int 0, .int (-1), .int 0, .int 0, .int 0, .int 0]))]) dX6_init_6 kpRX6_9 zCl_6 rfl (zlb rfl) rfl ?_
  refine zn_aload_n F (i := 0) (k := 0) dX6_init_9 rfl rfl ?_
  refine zn_iconst F (v := -1) dX6_init_10 (by decide) ?_
  refine zn_put F (j := 0) (ws' := [(h0, .inr (6, [.int 0, .int (-1), .int 0, .int (-1), .int 0, .int 0]))]) dX6_init_11 kpRX6_15 zCl_6 rfl (zlb rfl) rfl ?_
  exact zn_ret F T dX6_init_14 ⟨rfl, rfl⟩ (Nat.le_refl _) (Nat.le_refl _)

theorem dX1_init_0 : decode cX1_init 0 = .ok (.aload_n 0, 1) := by decide +kernel
theorem dX1_init_1 : decode cX1_init 1 = .ok (.invokespecial 3, 3) := by decide +kernel
theorem dX1_init_4 : decode cX1_init 4 = .ok (.aload_n 0, 1) := by decide +kernel
theorem dX1_init_5 : decode cX1_init 5 = .ok (.bipush 30, 2) := by decide +kernel
theorem dX1_init_7 : decode cX1_init 7 = .ok (.newarray .int, 2) := by decide +kernel
theorem dX1_init_9 : decode cX1_init 9 = .ok (.putfield 9, 3) := by decide +kernel
theorem dX1_init_12 : decode cX1_init 12 = .ok (.return_, 1) := by decide +kernel
theorem koRX1_3 : Cond.methodLink RX1 3 Lib.objectInit ∈ zTg ∧ Cond.instanceMethod Lib.objectInit ∈ zTg ∧ Cond.code Lib.objectInit ⟨#[0xb1]⟩ 1 none ∈ zTg := ⟨zm_f 510 (by decide +kernel) rfl, zm_f 72 (by decide +kernel) rfl, zm_f 73 (by decide +kernel) rfl⟩
theorem wArrI : Cond.arrayClass .int ∈ zTg := zm_f 501 (by decide +kernel) rfl
theorem kqRX1_9 : ∃ Q : vw_C, zcl[1]? = some Q ∧ 0 < Q.2.2 ∧ Cond.fieldLink RX1 9 (Q.2.1 0).1 (Q.2.1 0).2.1 (Q.2.1 0).2.2.1 ∈ zTg ∧ (Q.2.1 0).2.2.2 = true ∧ (Q.2.1 0).1 = RX1 ∧ parseFieldDescriptor (Q.2.1 0).2.2.1 = some (.array .int) := ⟨_, rfl, by decide, zm_f 511 (by decide +kernel) rfl, rfl, rfl, by decide +kernel⟩
def BcEx (cA : Nat → ClassId) (h0 : Nat) (ws : va_W) : Prop := ∃ q0 : Nat, ws = [(h0, .inr (1, [.ref q0, .int 0, .int 0, .int 0])), (q0, .inl (cA 0, 30, .inl (fun _ => 0)))]
set_option maxHeartbeats 8000000 in
set_option maxRecDepth 20000 in
theorem zcEx : zMk yX1_init cX1_init 1 1 24 1 30 (.inr (1, [.null, .int 0, .int 0, .int 0])) BcEx := by
  refine zMk_of (by decide) rfl (by decide) fun X h0 F I T => ?_
  refine zn_aload_n F (i := 0) (k := 0) dX1_init_0 rfl rfl ?_
  refine zn_obj F dX1_init_1 koRX1_3 (Nat.le_of_ble_eq_true rfl) (Nat.le_of_ble_eq_true rfl) ?_
  refine zn_aload_n F (i := 0) (k := 0) dX1_init_4 rfl rfl ?_
  refine zn_bipush F (v := 30) dX1_init_5 (by decide) ?_
  refine zn_newa F (N := 30) dX1_init_7 wArrI (by decide) (by decide) (Nat.le_of_ble_eq_true rfl) (Nat.le_of_ble_eq_true rfl) (Nat.le_of_ble_eq_true rfl) fun q0 => ?_
  refine zn_putF F I (j := 0) (ws' := [(h0, .inr (1, [.ref q0, .int 0, .int 0, .int 0])), (q0, .inl (zcA X 0, 30, .inl (fun _ => 0)))]) dX1_init_9 kqRX1_9 ⟨rfl, rfl⟩ zCl_1 rfl (zlb rfl) rfl ?_
  exact zn_ret F T dX1_init_12 ⟨rfl, ⟨q0, rfl⟩⟩ (Nat.le_refl _) (Nat.le_refl _)

theorem dX5_init_0 : decode cX5_init 0 = .ok (.aload_n 0, 1) := by decide +kernel
theorem dX5_init_1 : decode cX5_init 1 = .ok (.invokespecial 3, 3) := by decide +kernel
theorem dX5_init_4 : decode cX5_init 4 = .ok (.aload_n 0, 1) := by decide +kernel
theorem dX5_init_5 : decode cX5_init 5 = .ok (.iconst 2, 1) := by decide +kernel
theorem dX5_init_6 : decode cX5_init 6 = .ok (.putfield 9, 3) := by decide +kernel
theorem dX5_init_9 : decode cX5_init 9 = .ok (.aload_n 0, 1) := by decide +kernel
theorem dX5_init_10 : decode cX5_init 10 = .ok (.iconst 0, 1) := by decide +kernel
theorem dX5_init_11 : decode cX5_init 11 = .ok (.putfield 15, 3) := by decide +kernel
theorem dX5_init_14 : decode cX5_init 14 = .ok (.aload_n 0, 1) := by decide +kernel
theorem dX5_init_15 : decode cX5_init 15 = .ok (.iconst (-1), 1) := by decide +kernel
theorem dX5_init_16 : decode cX5_init 16 = .ok (.putfield 18, 3) := by decide +kernel
theorem dX5_init_19 : decode cX5_init 19 = .ok (.aload_n 0, 1) := by decide +kernel
theorem dX5_init_20 : decode cX5_init 20 = .ok (.iconst (-1), 1) := by decide +kernel
theorem dX5_init_21 : decode cX5_init 21 = .ok (.putfield 21, 3) := by decide +kernel
theorem dX5_init_24 : decode cX5_init 24 = .ok (.aload_n 0, 1) := by decide +kernel
theorem dX5_init_25 : decode cX5_init 25 = .ok (.iconst 3, 1) := by decide +kernel
theorem dX5_init_26 : decode cX5_init 26 = .ok (.newarray .int, 2) := by decide +kernel
theorem dX5_init_28 : decode cX5_init 28 = .ok (.putfield 24, 3) := by decide +kernel
theorem dX5_init_31 : decode cX5_init 31 = .ok (.aload_n 0, 1) := by decide +kernel
theorem dX5_init_32 : decode cX5_init 32 = .ok (.bipush 8, 2) := by decide +kernel
theorem dX5_init_34 : decode cX5_init 34 = .ok (.newarray .int, 2) := by decide +kernel
theorem dX5_init_36 : decode cX5_init 36 = .ok (.putfield 28, 3) := by decide +kernel
theorem dX5_init_39 : decode cX5_init 39 = .ok (.aload_n 0, 1) := by decide +kernel
theorem dX5_init_40 : decode cX5_init 40 = .ok (.new 31, 3) := by decide +kernel
theorem dX5_init_43 : decode cX5_init 43 = .ok (.dup, 1) := by decide +kernel
theorem dX5_init_44 : decode cX5_init 44 = .ok (.invokespecial 33, 3) := by decide +kernel
theorem dX5_init_47 : decode cX5_init 47 = .ok (.putfield 34, 3) := by decide +kernel
theorem dX5_init_50 : decode cX5_init 50 = .ok (.return_, 1) := by decide +kernel
theorem koRX5_3 : Cond.methodLink RX5 3 Lib.objectInit ∈ zTg ∧ Cond.instanceMethod Lib.objectInit ∈ zTg ∧ Cond.code Lib.objectInit ⟨#[0xb1]⟩ 1 none ∈ zTg := ⟨zm_f 505 (by decide +kernel) rfl, zm_f 72 (by decide +kernel) rfl, zm_f 73 (by decide +kernel) rfl⟩
theorem kpRX5_9 : zFw RX5 9 5 3 .int := ⟨_, rfl, by decide, zm_f 536 (by decide +kernel) rfl, rfl, by decide +kernel⟩
theorem kpRX5_15 : zFw RX5 15 5 4 .int := ⟨_, rfl, by decide, zm_f 539 (by decide +kernel) rfl, rfl, by decide +kernel⟩
theorem kpRX5_18 : zFw RX5 18 5 5 .int := ⟨_, rfl, by decide, zm_f 541 (by decide +kernel) rfl, rfl, by decide +kernel⟩
theorem kpRX5_21 : zFw RX5 21 5 6 .int := ⟨_, rfl, by decide, zm_f 543 (by decide +kernel) rfl, rfl, by decide +kernel⟩
theorem kqRX5_24 : ∃ Q : vw_C, zcl[5]? = some Q ∧ 11 < Q.2.2 ∧ Cond.fieldLink RX5 24 (Q.2.1 11).1 (Q.2.1 11).2.1 (Q.2.1 11).2.2.1 ∈ zTg ∧ (Q.2.1 11).2.2.2 = true ∧ (Q.2.1 11).1 = RX5 ∧ parseFieldDescriptor (Q.2.1 11).2.2.1 = some (.array .int) := ⟨_, rfl, by decide, zm_f 554 (by decide +kernel) rfl, rfl, rfl, by decide +kernel⟩
theorem kqRX5_28 : ∃ Q : vw_C, zcl[5]? = some Q ∧ 12 < Q.2.2 ∧ Cond.fieldLink RX5 28 (Q.2.1 12).1 (Q.2.1 12).2.1 (Q.2.1 12).2.2.1 ∈ zTg ∧ (Q.2.1 12).2.2.2 = true ∧ (Q.2.1 12).1 = RX5 ∧ parseFieldDescriptor (Q.2.1 12).2.2.1 = some (.array .int) := ⟨_, rfl, by decide, zm_f 557 (by decide +kernel) rfl, rfl, rfl, by decide +kernel⟩
theorem knRX5_31 : Cond.classLink RX5 31 RX1 ∈ zTg ∧ Cond.instantiable RX1 4 ∈ zTg ∧ Cond.initialized RX1 ∈ zTg := ⟨zm_f 506 (by decide +kernel) rfl, zm_f 250 (by decide +kernel) rfl, zm_f 26 (by decide +kernel) rfl⟩
theorem dfX1 : ∀ j, j < 4 → defaultValue (tyX1 j) = vp_V [.null, .int 0, .int 0, .int 0] j := by
  intro j hj
  rcases (show j = 0 ∨ j = 1 ∨ j = 2 ∨ j = 3 by omega) with rfl | rfl | rfl | rfl <;> rfl
theorem kiRX5_33 : Cond.methodLinkNest RX5 33 yX1_init "WakeBanks" ∈ zNws ∧ Cond.instanceMethod yX1_init ∈ zTg ∧ Cond.initialized yX1_init.cls ∈ zTg ∧ Cond.code yX1_init cX1_init 1 none ∈ zTg := ⟨by decide +kernel, zm_f 508 (by decide +kernel) rfl, zm_f 26 (by decide +kernel) rfl, zm_f 509 (by decide +kernel) rfl⟩
theorem wyyX1_init : yX1_init.name = "<init>" ∧ yX1_init.cls ≠ "java/lang/invoke/MethodHandle" ∧ yX1_init.cls ≠ "java/lang/invoke/VarHandle" ∧ (parseMethodDescriptor yX1_init.desc).map (fun d => d.parameters.length) = some 0 := by decide +kernel
theorem kqRX5_34 : ∃ Q : vw_C, zcl[5]? = some Q ∧ 13 < Q.2.2 ∧ Cond.fieldLink RX5 34 (Q.2.1 13).1 (Q.2.1 13).2.1 (Q.2.1 13).2.2.1 ∈ zTg ∧ (Q.2.1 13).2.2.2 = true ∧ (Q.2.1 13).1 = RX5 ∧ parseFieldDescriptor (Q.2.1 13).2.2.1 = some (.object "WakeBanks$Extremes") := ⟨_, rfl, by decide, zm_f 559 (by decide +kernel) rfl, rfl, rfl, by decide +kernel⟩
def BcTu (cA : Nat → ClassId) (h0 : Nat) (ws : va_W) : Prop := ∃ q0 : Nat, ∃ q1 : Nat, ∃ q2 : Nat, ∃ q4 : Nat, ws = [(h0, .inr (5, [.int 0, .int 0, .int 0, .int 2, .int 0, .int (-1), .int (-1), .int 0, .int 0, .int 0, .int 0, .ref q0, .ref q1, .ref q2])), (q0, .inl (cA 0, 3, .inl (fun _ => 0))), (q1, .inl (cA 0, 8, .inl (fun _ => 0))), (q2, .inr (1, [.ref q4, .int 0, .int 0, .int 0])), (q4, .inl (cA 0, 30, .inl (fun _ => 0)))]
set_option maxHeartbeats 8000000 in
set_option maxRecDepth 20000 in
theorem zcTu : zMk yX5_init cX5_init 1 2 44 4 45 (.inr (5, [.int 0, .int 0, .int 0, .int 0, .int 0, .int 0, .int 0, .int 0, .int 0, .int 0, .int 0, .null, .null, .null])) BcTu := by
  refine zMk_of (by decide) rfl (by decide) fun X h0 F I T => ?_
  refine zn_aload_n F (i := 0) (k := 0) dX5_init_0 rfl rfl ?_
  refine zn_obj F dX5_init_1 koRX5_3 (Nat.le_of_ble_eq_true rfl) (Nat.le_of_ble_eq_true rfl) ?_
  refine zn_aload_n F (i := 0) (k := 0) dX5_init_4 rfl rfl ?_
  refine zn_iconst F (v := 2) dX5_init_5 (by decide) ?_
  refine zn_put F (j := 0) (ws' := [(h0, .inr (5, [.int 0, .int 0, .int 0, .int 2, .int 0, .int 0, .int 0, .int 0, .int 0, .int 0, .int 0, .null, .null, .null]))]) dX5_init_6 kpRX5_9 zCl_5 rfl (zlb rfl) rfl ?_
  refine zn_aload_n F (i := 0) (k := 0) dX5_init_9 rfl rfl ?_
  refine zn_iconst F (v := 0) dX5_init_10 (by decide) ?_
  refine zn_put F (j := 0) (ws' := [(h0, .inr (5, [.int 0, .int 0, .int 0, .int 2, .int 0, .int 0, .int 0, .int 0, .int 0, .int 0, .int 0, .null, .null, .null]))]) dX5_init_11 kpRX5_15 zCl_5 rfl (zlb rfl) rfl ?_
  refine zn_aload_n F (i := 0) (k := 0) dX5_init_14 rfl rfl ?_
  refine zn_iconst F (v := -1) dX5_init_15 (by decide) ?_
  refine zn_put F (j := 0) (ws' := [(h0, .inr (5, [.int 0, .int 0, .int 0, .int 2, .int 0, .int (-1), .int 0, .int 0, .int 0, .int 0, .int 0, .null, .null, .null]))]) dX5_init_16 kpRX5_18 zCl_5 rfl (zlb rfl) rfl ?_
  refine zn_aload_n F (i := 0) (k := 0) dX5_init_19 rfl rfl ?_
  refine zn_iconst F (v := -1) dX5_init_20 (by decide) ?_
  refine zn_put F (j := 0) (ws' := [(h0, .inr (5, [.int 0, .int 0, .int 0, .int 2, .int 0, .int (-1), .int (-1), .int 0, .int 0, .int 0, .int 0, .null, .null, .null]))]) dX5_init_21 kpRX5_21 zCl_5 rfl (zlb rfl) rfl ?_
  refine zn_aload_n F (i := 0) (k := 0) dX5_init_24 rfl rfl ?_
  refine zn_iconst F (v := 3) dX5_init_25 (by decide) ?_
  refine zn_newa F (N := 3) dX5_init_26 wArrI (by decide) (by decide) (Nat.le_of_ble_eq_true rfl) (Nat.le_of_ble_eq_true rfl) (Nat.le_of_ble_eq_true rfl) fun q0 => ?_
  refine zn_putF F I (j := 0) (ws' := [(h0, .inr (5, [.int 0, .int 0, .int 0, .int 2, .int 0, .int (-1), .int (-1), .int 0, .int 0, .int 0, .int 0, .ref q0, .null, .null])), (q0, .inl (zcA X 0, 3, .inl (fun _ => 0)))]) dX5_init_28 kqRX5_24 ⟨rfl, rfl⟩ zCl_5 rfl (zlb rfl) rfl ?_
  refine zn_aload_n F (i := 0) (k := 0) dX5_init_31 rfl rfl ?_
  refine zn_bipush F (v := 8) dX5_init_32 (by decide) ?_
  refine zn_newa F (N := 8) dX5_init_34 wArrI (by decide) (by decide) (Nat.le_of_ble_eq_true rfl) (Nat.le_of_ble_eq_true rfl) (Nat.le_of_ble_eq_true rfl) fun q1 => ?_
  refine zn_putF F I (j := 0) (ws' := [(h0, .inr (5, [.int 0, .int 0, .int 0, .int 2, .int 0, .int (-1), .int (-1), .int 0, .int 0, .int 0, .int 0, .ref q0, .ref q1, .null])), (q0, .inl (zcA X 0, 3, .inl (fun _ => 0))), (q1, .inl (zcA X 0, 8, .inl (fun _ => 0)))]) dX5_init_36 kqRX5_28 ⟨rfl, rfl⟩ zCl_5 rfl (zlb rfl) rfl ?_
  refine zn_aload_n F (i := 0) (k := 0) dX5_init_39 rfl rfl ?_
  refine zn_new F (ci := 1) (N := 4) (fs := [.null, .int 0, .int 0, .int 0]) dX5_init_40 rfl zCl_1 tyX1_ok knRX5_31 dfX1 (Nat.le_of_ble_eq_true rfl) (Nat.le_of_ble_eq_true rfl) fun q2 => ?_
  refine zn_dup F dX5_init_43 rfl ?_
  refine zn_callN F (ws0 := [(h0, .inr (5, [.int 0, .int 0, .int 0, .int 2, .int 0, .int (-1), .int (-1), .int 0, .int 0, .int 0, .int 0, .ref q0, .ref q1, .null])), (q0, .inl (zcA X 0, 3, .inl (fun _ => 0))), (q1, .inl (zcA X 0, 8, .inl (fun _ => 0)))]) zcEx dX5_init_44 kiRX5_33 wyyX1_init rfl (Nat.le_of_ble_eq_true rfl) (Nat.le_of_ble_eq_true rfl) (Nat.le_of_ble_eq_true rfl) (Nat.le_of_ble_eq_true rfl) (Nat.le_of_ble_eq_true rfl) fun w3 hB3 => ?_
  obtain ⟨q4, rfl⟩ := hB3
  refine zn_ws (ws' := [(h0, .inr (5, [.int 0, .int 0, .int 0, .int 2, .int 0, .int (-1), .int (-1), .int 0, .int 0, .int 0, .int 0, .ref q0, .ref q1, .null])), (q0, .inl (zcA X 0, 3, .inl (fun _ => 0))), (q1, .inl (zcA X 0, 8, .inl (fun _ => 0))), (q2, .inr (1, [.ref q4, .int 0, .int 0, .int 0])), (q4, .inl (zcA X 0, 30, .inl (fun _ => 0)))]) rfl ?_
  refine zn_putF F I (j := 0) (ws' := [(h0, .inr (5, [.int 0, .int 0, .int 0, .int 2, .int 0, .int (-1), .int (-1), .int 0, .int 0, .int 0, .int 0, .ref q0, .ref q1, .ref q2])), (q0, .inl (zcA X 0, 3, .inl (fun _ => 0))), (q1, .inl (zcA X 0, 8, .inl (fun _ => 0))), (q2, .inr (1, [.ref q4, .int 0, .int 0, .int 0])), (q4, .inl (zcA X 0, 30, .inl (fun _ => 0)))]) dX5_init_47 kqRX5_34 ⟨rfl, rfl⟩ zCl_5 rfl (zlb rfl) rfl ?_
  exact zn_ret F T dX5_init_50 ⟨rfl, ⟨q0, q1, q2, q4, rfl⟩⟩ (Nat.le_refl _) (Nat.le_refl _)

theorem dX4_init_0 : decode cX4_init 0 = .ok (.aload_n 0, 1) := by decide +kernel
theorem dX4_init_1 : decode cX4_init 1 = .ok (.invokespecial 3, 3) := by decide +kernel
theorem dX4_init_4 : decode cX4_init 4 = .ok (.aload_n 0, 1) := by decide +kernel
theorem dX4_init_5 : decode cX4_init 5 = .ok (.bipush 64, 2) := by decide +kernel
theorem dX4_init_7 : decode cX4_init 7 = .ok (.newarray .int, 2) := by decide +kernel
theorem dX4_init_9 : decode cX4_init 9 = .ok (.putfield 9, 3) := by decide +kernel
theorem dX4_init_12 : decode cX4_init 12 = .ok (.aload_n 0, 1) := by decide +kernel
theorem dX4_init_13 : decode cX4_init 13 = .ok (.bipush 64, 2) := by decide +kernel
theorem dX4_init_15 : decode cX4_init 15 = .ok (.newarray .int, 2) := by decide +kernel
theorem dX4_init_17 : decode cX4_init 17 = .ok (.putfield 15, 3) := by decide +kernel
theorem dX4_init_20 : decode cX4_init 20 = .ok (.return_, 1) := by decide +kernel
theorem koRX4_3 : Cond.methodLink RX4 3 Lib.objectInit ∈ zTg ∧ Cond.instanceMethod Lib.objectInit ∈ zTg ∧ Cond.code Lib.objectInit ⟨#[0xb1]⟩ 1 none ∈ zTg := ⟨zm_f 695 (by decide +kernel) rfl, zm_f 72 (by decide +kernel) rfl, zm_f 73 (by decide +kernel) rfl⟩
theorem kqRX4_9 : ∃ Q : vw_C, zcl[4]? = some Q ∧ 0 < Q.2.2 ∧ Cond.fieldLink RX4 9 (Q.2.1 0).1 (Q.2.1 0).2.1 (Q.2.1 0).2.2.1 ∈ zTg ∧ (Q.2.1 0).2.2.2 = true ∧ (Q.2.1 0).1 = RX4 ∧ parseFieldDescriptor (Q.2.1 0).2.2.1 = some (.array .int) := ⟨_, rfl, by decide, zm_f 696 (by decide +kernel) rfl, rfl, rfl, by decide +kernel⟩
theorem kqRX4_15 : ∃ Q : vw_C, zcl[4]? = some Q ∧ 1 < Q.2.2 ∧ Cond.fieldLink RX4 15 (Q.2.1 1).1 (Q.2.1 1).2.1 (Q.2.1 1).2.2.1 ∈ zTg ∧ (Q.2.1 1).2.2.2 = true ∧ (Q.2.1 1).1 = RX4 ∧ parseFieldDescriptor (Q.2.1 1).2.2.1 = some (.array .int) := ⟨_, rfl, by decide, zm_f 697 (by decide +kernel) rfl, rfl, rfl, by decide +kernel⟩
def BcSi (cA : Nat → ClassId) (h0 : Nat) (ws : va_W) : Prop := ∃ q0 : Nat, ∃ q1 : Nat, ws = [(h0, .inr (4, [.ref q0, .ref q1])), (q0, .inl (cA 0, 64, .inl (fun _ => 0))), (q1, .inl (cA 0, 64, .inl (fun _ => 0)))]
set_option maxHeartbeats 8000000 in
set_option maxRecDepth 20000 in
theorem zcSi : zMk yX4_init cX4_init 1 1 24 2 128 (.inr (4, [.null, .null])) BcSi := by
  refine zMk_of (by decide) rfl (by decide) fun X h0 F I T => ?_
  refine zn_aload_n F (i := 0) (k := 0) dX4_init_0 rfl rfl ?_
  refine zn_obj F dX4_init_1 koRX4_3 (Nat.le_of_ble_eq_true rfl) (Nat.le_of_ble_eq_true rfl) ?_
  refine zn_aload_n F (i := 0) (k := 0) dX4_init_4 rfl rfl ?_
  refine zn_bipush F (v := 64) dX4_init_5 (by decide) ?_
  refine zn_newa F (N := 64) dX4_init_7 wArrI (by decide) (by decide) (Nat.le_of_ble_eq_true rfl) (Nat.le_of_ble_eq_true rfl) (Nat.le_of_ble_eq_true rfl) fun q0 => ?_
  refine zn_putF F I (j := 0) (ws' := [(h0, .inr (4, [.ref q0, .null])), (q0, .inl (zcA X 0, 64, .inl (fun _ => 0)))]) dX4_init_9 kqRX4_9 ⟨rfl, rfl⟩ zCl_4 rfl (zlb rfl) rfl ?_
  refine zn_aload_n F (i := 0) (k := 0) dX4_init_12 rfl rfl ?_
  refine zn_bipush F (v := 64) dX4_init_13 (by decide) ?_
  refine zn_newa F (N := 64) dX4_init_15 wArrI (by decide) (by decide) (Nat.le_of_ble_eq_true rfl) (Nat.le_of_ble_eq_true rfl) (Nat.le_of_ble_eq_true rfl) fun q1 => ?_
  refine zn_putF F I (j := 0) (ws' := [(h0, .inr (4, [.ref q0, .ref q1])), (q0, .inl (zcA X 0, 64, .inl (fun _ => 0))), (q1, .inl (zcA X 0, 64, .inl (fun _ => 0)))]) dX4_init_17 kqRX4_15 ⟨rfl, rfl⟩ zCl_4 rfl (zlb rfl) rfl ?_
  exact zn_ret F T dX4_init_20 ⟨rfl, ⟨q0, q1, rfl⟩⟩ (Nat.le_refl _) (Nat.le_refl _)
