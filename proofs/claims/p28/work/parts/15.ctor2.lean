theorem dX2_init_0 : decode cX2_init 0 = .ok (.aload_n 0, 1) := by decide +kernel
theorem dX2_init_1 : decode cX2_init 1 = .ok (.invokespecial 3, 3) := by decide +kernel
theorem dX2_init_4 : decode cX2_init 4 = .ok (.aload_n 0, 1) := by decide +kernel
theorem dX2_init_5 : decode cX2_init 5 = .ok (.bipush 24, 2) := by decide +kernel
theorem dX2_init_7 : decode cX2_init 7 = .ok (.newarray .int, 2) := by decide +kernel
theorem dX2_init_9 : decode cX2_init 9 = .ok (.putfield 9, 3) := by decide +kernel
theorem dX2_init_12 : decode cX2_init 12 = .ok (.iconst 0, 1) := by decide +kernel
theorem dX2_init_13 : decode cX2_init 13 = .ok (.istore_n 1, 1) := by decide +kernel
theorem dX2_init_14 : decode cX2_init 14 = .ok (.iload_n 1, 1) := by decide +kernel
theorem dX2_init_15 : decode cX2_init 15 = .ok (.bipush 24, 2) := by decide +kernel
theorem dX2_init_17 : decode cX2_init 17 = .ok (.if_icmp .ge 16, 3) := by decide +kernel
theorem dX2_init_20 : decode cX2_init 20 = .ok (.aload_n 0, 1) := by decide +kernel
theorem dX2_init_21 : decode cX2_init 21 = .ok (.getfield 9, 3) := by decide +kernel
theorem dX2_init_24 : decode cX2_init 24 = .ok (.iload_n 1, 1) := by decide +kernel
theorem dX2_init_25 : decode cX2_init 25 = .ok (.iconst (-1), 1) := by decide +kernel
theorem dX2_init_26 : decode cX2_init 26 = .ok (.iastore, 1) := by decide +kernel
theorem dX2_init_27 : decode cX2_init 27 = .ok (.iinc 1 1, 3) := by decide +kernel
theorem dX2_init_30 : decode cX2_init 30 = .ok (.goto (-16), 3) := by decide +kernel
theorem dX2_init_33 : decode cX2_init 33 = .ok (.return_, 1) := by decide +kernel
theorem koRX2_3 : Cond.methodLink RX2 3 Lib.objectInit ∈ zTg ∧ Cond.instanceMethod Lib.objectInit ∈ zTg ∧ Cond.code Lib.objectInit ⟨#[0xb1]⟩ 1 none ∈ zTg := ⟨zm_f 480 (by decide +kernel) rfl, zm_f 72 (by decide +kernel) rfl, zm_f 73 (by decide +kernel) rfl⟩
theorem kqRX2_9 : ∃ Q : vw_C, zcl[2]? = some Q ∧ 0 < Q.2.2 ∧ Cond.fieldLink RX2 9 (Q.2.1 0).1 (Q.2.1 0).2.1 (Q.2.1 0).2.2.1 ∈ zTg ∧ (Q.2.1 0).2.2.2 = true ∧ (Q.2.1 0).1 = RX2 ∧ parseFieldDescriptor (Q.2.1 0).2.2.1 = some (.array .int) := ⟨_, rfl, by decide, zm_f 481 (by decide +kernel) rfl, rfl, rfl, by decide +kernel⟩
theorem kfRX2_9 : zFl RX2 9 2 0 := ⟨_, rfl, by decide, zm_f 481 (by decide +kernel) rfl⟩
theorem zLm_24 : upd (upd (upd (upd (upd (upd (upd (upd (upd (upd (upd (upd (upd (upd (upd (upd (upd (upd (upd (upd (upd (upd (upd (upd (fun _ => 0) 0 (-1)) 1 (-1)) 2 (-1)) 3 (-1)) 4 (-1)) 5 (-1)) 6 (-1)) 7 (-1)) 8 (-1)) 9 (-1)) 10 (-1)) 11 (-1)) 12 (-1)) 13 (-1)) 14 (-1)) 15 (-1)) 16 (-1)) 17 (-1)) 18 (-1)) 19 (-1)) 20 (-1)) 21 (-1)) 22 (-1)) 23 (-1) = zLm 24 := by
  rw [← zLm_0]
  rw [show upd (zLm 0) 0 (-1) = zLm 1 from zLm_s 0, show upd (zLm 1) 1 (-1) = zLm 2 from zLm_s 1, show upd (zLm 2) 2 (-1) = zLm 3 from zLm_s 2, show upd (zLm 3) 3 (-1) = zLm 4 from zLm_s 3, show upd (zLm 4) 4 (-1) = zLm 5 from zLm_s 4, show upd (zLm 5) 5 (-1) = zLm 6 from zLm_s 5, show upd (zLm 6) 6 (-1) = zLm 7 from zLm_s 6, show upd (zLm 7) 7 (-1) = zLm 8 from zLm_s 7, show upd (zLm 8) 8 (-1) = zLm 9 from zLm_s 8, show upd (zLm 9) 9 (-1) = zLm 10 from zLm_s 9, show upd (zLm 10) 10 (-1) = zLm 11 from zLm_s 10, show upd (zLm 11) 11 (-1) = zLm 12 from zLm_s 11, show upd (zLm 12) 12 (-1) = zLm 13 from zLm_s 12, show upd (zLm 13) 13 (-1) = zLm 14 from zLm_s 13, show upd (zLm 14) 14 (-1) = zLm 15 from zLm_s 14, show upd (zLm 15) 15 (-1) = zLm 16 from zLm_s 15, show upd (zLm 16) 16 (-1) = zLm 17 from zLm_s 16, show upd (zLm 17) 17 (-1) = zLm 18 from zLm_s 17, show upd (zLm 18) 18 (-1) = zLm 19 from zLm_s 18, show upd (zLm 19) 19 (-1) = zLm 20 from zLm_s 19, show upd (zLm 20) 20 (-1) = zLm 21 from zLm_s 20, show upd (zLm 21) 21 (-1) = zLm 22 from zLm_s 21, show upd (zLm 22) 22 (-1) = zLm 23 from zLm_s 22, show upd (zLm 23) 23 (-1) = zLm 24 from zLm_s 23]
def BcLe (cA : Nat → ClassId) (h0 : Nat) (ws : va_W) : Prop := ∃ q0 : Nat, ws = [(h0, .inr (2, [.ref q0, .int 0, .int 0, .int 0, .int 0])), (q0, .inl (cA 0, 24, .inl (zLm 24)))]
set_option maxHeartbeats 8000000 in
set_option maxRecDepth 20000 in
theorem zcLe : zMk yX2_init cX2_init 2 1 24 1 24 (.inr (2, [.null, .int 0, .int 0, .int 0, .int 0])) BcLe := by
  refine zMk_of (by decide) rfl (by decide) fun X h0 F I T => ?_
  refine zn_aload_n F (i := 0) (k := 0) dX2_init_0 rfl rfl ?_
  refine zn_obj F dX2_init_1 koRX2_3 (Nat.le_of_ble_eq_true rfl) (Nat.le_of_ble_eq_true rfl) ?_
  refine zn_aload_n F (i := 0) (k := 0) dX2_init_4 rfl rfl ?_
  refine zn_bipush F (v := 24) dX2_init_5 (by decide) ?_
  refine zn_newa F (N := 24) dX2_init_7 wArrI (by decide) (by decide) (Nat.le_of_ble_eq_true rfl) (Nat.le_of_ble_eq_true rfl) (Nat.le_of_ble_eq_true rfl) fun q0 => ?_
  refine zn_putF F I (j := 0) (ws' := [(h0, .inr (2, [.ref q0, .int 0, .int 0, .int 0, .int 0])), (q0, .inl (zcA X 0, 24, .inl (fun _ => 0)))]) dX2_init_9 kqRX2_9 ⟨rfl, rfl⟩ zCl_2 rfl (zlb rfl) rfl ?_
  refine zn_iconst F (v := 0) dX2_init_12 (by decide) ?_
  refine zn_istore_n F (i := 1) (lv' := [(1, .int 0), (0, .ref h0)]) dX2_init_13 rfl (by decide) rfl ?_
  refine zn_iload_n F (i := 1) (k := 0) dX2_init_14 rfl rfl ?_
  refine zn_bipush F (v := 24) dX2_init_15 (by decide) ?_
  refine zn_ge_f F (tgt := 33) dX2_init_17 (by decide) (by decide) ?_
  refine zn_aload_n F (i := 0) (k := 1) dX2_init_20 rfl rfl ?_
  refine zn_get F (j := 0) dX2_init_21 kfRX2_9 zCl_2 rfl rfl ?_
  refine zn_iload_n F (i := 1) (k := 0) dX2_init_24 rfl rfl ?_
  refine zn_iconst F (v := -1) dX2_init_25 (by decide) ?_
  refine zn_iast F (q0 := 1) (jn := 0) (ws' := [(h0, .inr (2, [.ref q0, .int 0, .int 0, .int 0, .int 0])), (q0, .inl (zcA X 0, 24, .inl (upd (fun _ => 0) 0 (-1))))]) dX2_init_26 rfl (vp_in_nI (n := 0) (by decide) (by decide)) (by decide) rfl ?_
  refine zn_iinc F (i := 1) (k := 0) (v := 1) (lv' := [(1, .int 1), (0, .ref h0)]) dX2_init_27 rfl (by decide) (by decide) rfl ?_
  refine zn_goto F (tgt := 14) dX2_init_30 (by decide) ?_
  refine zn_iload_n F (i := 1) (k := 0) dX2_init_14 rfl rfl ?_
  refine zn_bipush F (v := 24) dX2_init_15 (by decide) ?_
  refine zn_ge_f F (tgt := 33) dX2_init_17 (by decide) (by decide) ?_
  refine zn_aload_n F (i := 0) (k := 1) dX2_init_20 rfl rfl ?_
  refine zn_get F (j := 0) dX2_init_21 kfRX2_9 zCl_2 rfl rfl ?_
  refine zn_iload_n F (i := 1) (k := 0) dX2_init_24 rfl rfl ?_
  refine zn_iconst F (v := -1) dX2_init_25 (by decide) ?_
  refine zn_iast F (q0 := 1) (jn := 1) (ws' := [(h0, .inr (2, [.ref q0, .int 0, .int 0, .int 0, .int 0])), (q0, .inl (zcA X 0, 24, .inl (upd (upd (fun _ => 0) 0 (-1)) 1 (-1))))]) dX2_init_26 rfl (vp_in_nI (n := 1) (by decide) (by decide)) (by decide) rfl ?_
  refine zn_iinc F (i := 1) (k := 0) (v := 2) (lv' := [(1, .int 2), (0, .ref h0)]) dX2_init_27 rfl (by decide) (by decide) rfl ?_
  refine zn_goto F (tgt := 14) dX2_init_30 (by decide) ?_
  refine zn_iload_n F (i := 1) (k := 0) dX2_init_14 rfl rfl ?_
  refine zn_bipush F (v := 24) dX2_init_15 (by decide) ?_
  refine zn_ge_f F (tgt := 33) dX2_init_17 (by decide) (by decide) ?_
  refine zn_aload_n F (i := 0) (k := 1) dX2_init_20 rfl rfl ?_
  refine zn_get F (j := 0) dX2_init_21 kfRX2_9 zCl_2 rfl rfl ?_
  refine zn_iload_n F (i := 1) (k := 0) dX2_init_24 rfl rfl ?_
  refine zn_iconst F (v := -1) dX2_init_25 (by decide) ?_
  refine zn_iast F (q0 := 1) (jn := 2) (ws' := [(h0, .inr (2, [.ref q0, .int 0, .int 0, .int 0, .int 0])), (q0, .inl (zcA X 0, 24, .inl (upd (upd (upd (fun _ => 0) 0 (-1)) 1 (-1)) 2 (-1))))]) dX2_init_26 rfl (vp_in_nI (n := 2) (by decide) (by decide)) (by decide) rfl ?_
  refine zn_iinc F (i := 1) (k := 0) (v := 3) (lv' := [(1, .int 3), (0, .ref h0)]) dX2_init_27 rfl (by decide) (by decide) rfl ?_
  refine zn_goto F (tgt := 14) dX2_init_30 (by decide) ?_
  refine zn_iload_n F (i := 1) (k := 0) dX2_init_14 rfl rfl ?_
  refine zn_bipush F (v := 24) dX2_init_15 (by decide) ?_
  refine zn_ge_f F (tgt := 33) dX2_init_17 (by decide) (by decide) ?_
  refine zn_aload_n F (i := 0) (k := 1) dX2_init_20 rfl rfl ?_
  refine zn_get F (j := 0) dX2_init_21 kfRX2_9 zCl_2 rfl rfl ?_
  refine zn_iload_n F (i := 1) (k := 0) dX2_init_24 rfl rfl ?_
  refine zn_iconst F (v := -1) dX2_init_25 (by decide) ?_
  refine zn_iast F (q0 := 1) (jn := 3) (ws' := [(h0, .inr (2, [.ref q0, .int 0, .int 0, .int 0, .int 0])), (q0, .inl (zcA X 0, 24, .inl (upd (upd (upd (upd (fun _ => 0) 0 (-1)) 1 (-1)) 2 (-1)) 3 (-1))))]) dX2_init_26 rfl (vp_in_nI (n := 3) (by decide) (by decide)) (by decide) rfl ?_
  refine zn_iinc F (i := 1) (k := 0) (v := 4) (lv' := [(1, .int 4), (0, .ref h0)]) dX2_init_27 rfl (by decide) (by decide) rfl ?_
  refine zn_goto F (tgt := 14) dX2_init_30 (by decide) ?_
  refine zn_iload_n F (i := 1) (k := 0) dX2_init_14 rfl rfl ?_
  refine zn_bipush F (v := 24) dX2_init_15 (by decide) ?_
  refine zn_ge_f F (tgt := 33) dX2_init_17 (by decide) (by decide) ?_
  refine zn_aload_n F (i := 0) (k := 1) dX2_init_20 rfl rfl ?_
  refine zn_get F (j := 0) dX2_init_21 kfRX2_9 zCl_2 rfl rfl ?_
  refine zn_iload_n F (i := 1) (k := 0) dX2_init_24 rfl rfl ?_
  refine zn_iconst F (v := -1) dX2_init_25 (by decide) ?_
  refine zn_iast F (q0 := 1) (jn := 4) (ws' := [(h0, .inr (2, [.ref q0, .int 0, .int 0, .int 0, .int 0])), (q0, .inl (zcA X 0, 24, .inl (upd (upd (upd (upd (upd (fun _ => 0) 0 (-1)) 1 (-1)) 2 (-1)) 3 (-1)) 4 (-1))))]) dX2_init_26 rfl (vp_in_nI (n := 4) (by decide) (by decide)) (by decide) rfl ?_
  refine zn_iinc F (i := 1) (k := 0) (v := 5) (lv' := [(1, .int 5), (0, .ref h0)]) dX2_init_27 rfl (by decide) (by decide) rfl ?_
  refine zn_goto F (tgt := 14) dX2_init_30 (by decide) ?_
  refine zn_iload_n F (i := 1) (k := 0) dX2_init_14 rfl rfl ?_
  refine zn_bipush F (v := 24) dX2_init_15 (by decide) ?_
  refine zn_ge_f F (tgt := 33) dX2_init_17 (by decide) (by decide) ?_
  refine zn_aload_n F (i := 0) (k := 1) dX2_init_20 rfl rfl ?_
  refine zn_get F (j := 0) dX2_init_21 kfRX2_9 zCl_2 rfl rfl ?_
  refine zn_iload_n F (i := 1) (k := 0) dX2_init_24 rfl rfl ?_
  refine zn_iconst F (v := -1) dX2_init_25 (by decide) ?_
  refine zn_iast F (q0 := 1) (jn := 5) (ws' := [(h0, .inr (2, [.ref q0, .int 0, .int 0, .int 0, .int 0])), (q0, .inl (zcA X 0, 24, .inl (upd (upd (upd (upd (upd (upd (fun _ => 0) 0 (-1)) 1 (-1)) 2 (-1)) 3 (-1)) 4 (-1)) 5 (-1))))]) dX2_init_26 rfl (vp_in_nI (n := 5) (by decide) (by decide)) (by decide) rfl ?_
  refine zn_iinc F (i := 1) (k := 0) (v := 6) (lv' := [(1, .int 6), (0, .ref h0)]) dX2_init_27 rfl (by decide) (by decide) rfl ?_
  refine zn_goto F (tgt := 14) dX2_init_30 (by decide) ?_
  refine zn_iload_n F (i := 1) (k := 0) dX2_init_14 rfl rfl ?_
  refine zn_bipush F (v := 24) dX2_init_15 (by decide) ?_
  refine zn_ge_f F (tgt := 33) dX2_init_17 (by decide) (by decide) ?_
  refine zn_aload_n F (i := 0) (k := 1) dX2_init_20 rfl rfl ?_
  refine zn_get F (j := 0) dX2_init_21 kfRX2_9 zCl_2 rfl rfl ?_
  refine zn_iload_n F (i := 1) (k := 0) dX2_init_24 rfl rfl ?_
  refine zn_iconst F (v := -1) dX2_init_25 (by decide) ?_
  refine zn_iast F (q0 := 1) (jn := 6) (ws' := [(h0, .inr (2, [.ref q0, .int 0, .int 0, .int 0, .int 0])), (q0, .inl (zcA X 0, 24, .inl (upd (upd (upd (upd (upd (upd (upd (fun _ => 0) 0 (-1)) 1 (-1)) 2 (-1)) 3 (-1)) 4 (-1)) 5 (-1)) 6 (-1))))]) dX2_init_26 rfl (vp_in_nI (n := 6) (by decide) (by decide)) (by decide) rfl ?_
  refine zn_iinc F (i := 1) (k := 0) (v := 7) (lv' := [(1, .int 7), (0, .ref h0)]) dX2_init_27 rfl (by decide) (by decide) rfl ?_
  refine zn_goto F (tgt := 14) dX2_init_30 (by decide) ?_
  refine zn_iload_n F (i := 1) (k := 0) dX2_init_14 rfl rfl ?_
  refine zn_bipush F (v := 24) dX2_init_15 (by decide) ?_
  refine zn_ge_f F (tgt := 33) dX2_init_17 (by decide) (by decide) ?_
  refine zn_aload_n F (i := 0) (k := 1) dX2_init_20 rfl rfl ?_
  refine zn_get F (j := 0) dX2_init_21 kfRX2_9 zCl_2 rfl rfl ?_
  refine zn_iload_n F (i := 1) (k := 0) dX2_init_24 rfl rfl ?_
  refine zn_iconst F (v := -1) dX2_init_25 (by decide) ?_
  refine zn_iast F (q0 := 1) (jn := 7) (ws' := [(h0, .inr (2, [.ref q0, .int 0, .int 0, .int 0, .int 0])), (q0, .inl (zcA X 0, 24, .inl (upd (upd (upd (upd (upd (upd (upd (upd (fun _ => 0) 0 (-1)) 1 (-1)) 2 (-1)) 3 (-1)) 4 (-1)) 5 (-1)) 6 (-1)) 7 (-1))))]) dX2_init_26 rfl (vp_in_nI (n := 7) (by decide) (by decide)) (by decide) rfl ?_
  refine zn_iinc F (i := 1) (k := 0) (v := 8) (lv' := [(1, .int 8), (0, .ref h0)]) dX2_init_27 rfl (by decide) (by decide) rfl ?_
  refine zn_goto F (tgt := 14) dX2_init_30 (by decide) ?_
  refine zn_iload_n F (i := 1) (k := 0) dX2_init_14 rfl rfl ?_
  refine zn_bipush F (v := 24) dX2_init_15 (by decide) ?_
  refine zn_ge_f F (tgt := 33) dX2_init_17 (by decide) (by decide) ?_
  refine zn_aload_n F (i := 0) (k := 1) dX2_init_20 rfl rfl ?_
  refine zn_get F (j := 0) dX2_init_21 kfRX2_9 zCl_2 rfl rfl ?_
  refine zn_iload_n F (i := 1) (k := 0) dX2_init_24 rfl rfl ?_
  refine zn_iconst F (v := -1) dX2_init_25 (by decide) ?_
  refine zn_iast F (q0 := 1) (jn := 8) (ws' := [(h0, .inr (2, [.ref q0, .int 0, .int 0, .int 0, .int 0])), (q0, .inl (zcA X 0, 24, .inl (upd (upd (upd (upd (upd (upd (upd (upd (upd (fun _ => 0) 0 (-1)) 1 (-1)) 2 (-1)) 3 (-1)) 4 (-1)) 5 (-1)) 6 (-1)) 7 (-1)) 8 (-1))))]) dX2_init_26 rfl (vp_in_nI (n := 8) (by decide) (by decide)) (by decide) rfl ?_
  refine zn_iinc F (i := 1) (k := 0) (v := 9) (lv' := [(1, .int 9), (0, .ref h0)]) dX2_init_27 rfl (by decide) (by decide) rfl ?_
  refine zn_goto F (tgt := 14) dX2_init_30 (by decide) ?_
  refine zn_iload_n F (i := 1) (k := 0) dX2_init_14 rfl rfl ?_
  refine zn_bipush F (v := 24) dX2_init_15 (by decide) ?_
  refine zn_ge_f F (tgt := 33) dX2_init_17 (by decide) (by decide) ?_
  refine zn_aload_n F (i := 0) (k := 1) dX2_init_20 rfl rfl ?_
  refine zn_get F (j := 0) dX2_init_21 kfRX2_9 zCl_2 rfl rfl ?_
  refine zn_iload_n F (i := 1) (k := 0) dX2_init_24 rfl rfl ?_
  refine zn_iconst F (v := -1) dX2_init_25 (by decide) ?_
  refine zn_iast F (q0 := 1) (jn := 9) (ws' := [(h0, .inr (2, [.ref q0, .int 0, .int 0, .int 0, .int 0])), (q0, .inl (zcA X 0, 24, .inl (upd (upd (upd (upd (upd (upd (upd (upd (upd (upd (fun _ => 0) 0 (-1)) 1 (-1)) 2 (-1)) 3 (-1)) 4 (-1)) 5 (-1)) 6 (-1)) 7 (-1)) 8 (-1)) 9 (-1))))]) dX2_init_26 rfl (vp_in_nI (n := 9) (by decide) (by decide)) (by decide) rfl ?_
  refine zn_iinc F (i := 1) (k := 0) (v := 10) (lv' := [(1, .int 10), (0, .ref h0)]) dX2_init_27 rfl (by decide) (by decide) rfl ?_
  refine zn_goto F (tgt := 14) dX2_init_30 (by decide) ?_
  refine zn_iload_n F (i := 1) (k := 0) dX2_init_14 rfl rfl ?_
  refine zn_bipush F (v := 24) dX2_init_15 (by decide) ?_
  refine zn_ge_f F (tgt := 33) dX2_init_17 (by decide) (by decide) ?_
  refine zn_aload_n F (i := 0) (k := 1) dX2_init_20 rfl rfl ?_
  refine zn_get F (j := 0) dX2_init_21 kfRX2_9 zCl_2 rfl rfl ?_
  refine zn_iload_n F (i := 1) (k := 0) dX2_init_24 rfl rfl ?_
  refine zn_iconst F (v := -1) dX2_init_25 (by decide) ?_
  refine zn_iast F (q0 := 1) (jn := 10) (ws' := [(h0, .inr (2, [.ref q0, .int 0, .int 0, .int 0, .int 0])), (q0, .inl (zcA X 0, 24, .inl (upd (upd (upd (upd (upd (upd (upd (upd (upd (upd (upd (fun _ => 0) 0 (-1)) 1 (-1)) 2 (-1)) 3 (-1)) 4 (-1)) 5 (-1)) 6 (-1)) 7 (-1)) 8 (-1)) 9 (-1)) 10 (-1))))]) dX2_init_26 rfl (vp_in_nI (n := 10) (by decide) (by decide)) (by decide) rfl ?_
  refine zn_iinc F (i := 1) (k := 0) (v := 11) (lv' := [(1, .int 11), (0, .ref h0)]) dX2_init_27 rfl (by decide) (by decide) rfl ?_
  refine zn_goto F (tgt := 14) dX2_init_30 (by decide) ?_
  refine zn_iload_n F (i := 1) (k := 0) dX2_init_14 rfl rfl ?_
  refine zn_bipush F (v := 24) dX2_init_15 (by decide) ?_
  refine zn_ge_f F (tgt := 33) dX2_init_17 (by decide) (by decide) ?_
  refine zn_aload_n F (i := 0) (k := 1) dX2_init_20 rfl rfl ?_
  refine zn_get F (j := 0) dX2_init_21 kfRX2_9 zCl_2 rfl rfl ?_
  refine zn_iload_n F (i := 1) (k := 0) dX2_init_24 rfl rfl ?_
  refine zn_iconst F (v := -1) dX2_init_25 (by decide) ?_
  refine zn_iast F (q0 := 1) (jn := 11) (ws' := [(h0, .inr (2, [.ref q0, .int 0, .int 0, .int 0, .int 0])), (q0, .inl (zcA X 0, 24, .inl (upd (upd (upd (upd (upd (upd (upd (upd (upd (upd (upd (upd (fun _ => 0) 0 (-1)) 1 (-1)) 2 (-1)) 3 (-1)) 4 (-1)) 5 (-1)) 6 (-1)) 7 (-1)) 8 (-1)) 9 (-1)) 10 (-1)) 11 (-1))))]) dX2_init_26 rfl (vp_in_nI (n := 11) (by decide) (by decide)) (by decide) rfl ?_
  refine zn_iinc F (i := 1) (k := 0) (v := 12) (lv' := [(1, .int 12), (0, .ref h0)]) dX2_init_27 rfl (by decide) (by decide) rfl ?_
  refine zn_goto F (tgt := 14) dX2_init_30 (by decide) ?_
  refine zn_iload_n F (i := 1) (k := 0) dX2_init_14 rfl rfl ?_
  refine zn_bipush F (v := 24) dX2_init_15 (by decide) ?_
  refine zn_ge_f F (tgt := 33) dX2_init_17 (by decide) (by decide) ?_
  refine zn_aload_n F (i := 0) (k := 1) dX2_init_20 rfl rfl ?_
  refine zn_get F (j := 0) dX2_init_21 kfRX2_9 zCl_2 rfl rfl ?_
  refine zn_iload_n F (i := 1) (k := 0) dX2_init_24 rfl rfl ?_
  refine zn_iconst F (v := -1) dX2_init_25 (by decide) ?_
  refine zn_iast F (q0 := 1) (jn := 12) (ws' := [(h0, .inr (2, [.ref q0, .int 0, .int 0, .int 0, .int 0])), (q0, .inl (zcA X 0, 24, .inl (upd (upd (upd (upd (upd (upd (upd (upd (upd (upd (upd (upd (upd (fun _ => 0) 0 (-1)) 1 (-1)) 2 (-1)) 3 (-1)) 4 (-1)) 5 (-1)) 6 (-1)) 7 (-1)) 8 (-1)) 9 (-1)) 10 (-1)) 11 (-1)) 12 (-1))))]) dX2_init_26 rfl (vp_in_nI (n := 12) (by decide) (by decide)) (by decide) rfl ?_
  refine zn_iinc F (i := 1) (k := 0) (v := 13) (lv' := [(1, .int 13), (0, .ref h0)]) dX2_init_27 rfl (by decide) (by decide) rfl ?_
  refine zn_goto F (tgt := 14) dX2_init_30 (by decide) ?_
  refine zn_iload_n F (i := 1) (k := 0) dX2_init_14 rfl rfl ?_
  refine zn_bipush F (v := 24) dX2_init_15 (by decide) ?_
  refine zn_ge_f F (tgt := 33) dX2_init_17 (by decide) (by decide) ?_
  refine zn_aload_n F (i := 0) (k := 1) dX2_init_20 rfl rfl ?_
  refine zn_get F (j := 0) dX2_init_21 kfRX2_9 zCl_2 rfl rfl ?_
  refine zn_iload_n F (i := 1) (k := 0) dX2_init_24 rfl rfl ?_
  refine zn_iconst F (v := -1) dX2_init_25 (by decide) ?_
  refine zn_iast F (q0 := 1) (jn := 13) (ws' := [(h0, .inr (2, [.ref q0, .int 0, .int 0, .int 0, .int 0])), (q0, .inl (zcA X 0, 24, .inl (upd (upd (upd (upd (upd (upd (upd (upd (upd (upd (upd (upd (upd (upd (fun _ => 0) 0 (-1)) 1 (-1)) 2 (-1)) 3 (-1)) 4 (-1)) 5 (-1)) 6 (-1)) 7 (-1)) 8 (-1)) 9 (-1)) 10 (-1)) 11 (-1)) 12 (-1)) 13 (-1))))]) dX2_init_26 rfl (vp_in_nI (n := 13) (by decide) (by decide)) (by decide) rfl ?_
  refine zn_iinc F (i := 1) (k := 0) (v := 14) (lv' := [(1, .int 14), (0, .ref h0)]) dX2_init_27 rfl (by decide) (by decide) rfl ?_
  refine zn_goto F (tgt := 14) dX2_init_30 (by decide) ?_
  refine zn_iload_n F (i := 1) (k := 0) dX2_init_14 rfl rfl ?_
  refine zn_bipush F (v := 24) dX2_init_15 (by decide) ?_
  refine zn_ge_f F (tgt := 33) dX2_init_17 (by decide) (by decide) ?_
  refine zn_aload_n F (i := 0) (k := 1) dX2_init_20 rfl rfl ?_
  refine zn_get F (j := 0) dX2_init_21 kfRX2_9 zCl_2 rfl rfl ?_
  refine zn_iload_n F (i := 1) (k := 0) dX2_init_24 rfl rfl ?_
  refine zn_iconst F (v := -1) dX2_init_25 (by decide) ?_
  refine zn_iast F (q0 := 1) (jn := 14) (ws' := [(h0, .inr (2, [.ref q0, .int 0, .int 0, .int 0, .int 0])), (q0, .inl (zcA X 0, 24, .inl (upd (upd (upd (upd (upd (upd (upd (upd (upd (upd (upd (upd (upd (upd (upd (fun _ => 0) 0 (-1)) 1 (-1)) 2 (-1)) 3 (-1)) 4 (-1)) 5 (-1)) 6 (-1)) 7 (-1)) 8 (-1)) 9 (-1)) 10 (-1)) 11 (-1)) 12 (-1)) 13 (-1)) 14 (-1))))]) dX2_init_26 rfl (vp_in_nI (n := 14) (by decide) (by decide)) (by decide) rfl ?_
  refine zn_iinc F (i := 1) (k := 0) (v := 15) (lv' := [(1, .int 15), (0, .ref h0)]) dX2_init_27 rfl (by decide) (by decide) rfl ?_
  refine zn_goto F (tgt := 14) dX2_init_30 (by decide) ?_
  refine zn_iload_n F (i := 1) (k := 0) dX2_init_14 rfl rfl ?_
  refine zn_bipush F (v := 24) dX2_init_15 (by decide) ?_
  refine zn_ge_f F (tgt := 33) dX2_init_17 (by decide) (by decide) ?_
  refine zn_aload_n F (i := 0) (k := 1) dX2_init_20 rfl rfl ?_
  refine zn_get F (j := 0) dX2_init_21 kfRX2_9 zCl_2 rfl rfl ?_
  refine zn_iload_n F (i := 1) (k := 0) dX2_init_24 rfl rfl ?_
  refine zn_iconst F (v := -1) dX2_init_25 (by decide) ?_
  refine zn_iast F (q0 := 1) (jn := 15) (ws' := [(h0, .inr (2, [.ref q0, .int 0, .int 0, .int 0, .int 0])), (q0, .inl (zcA X 0, 24, .inl (upd (upd (upd (upd (upd (upd (upd (upd (upd (upd (upd (upd (upd (upd (upd (upd (fun _ => 0) 0 (-1)) 1 (-1)) 2 (-1)) 3 (-1)) 4 (-1)) 5 (-1)) 6 (-1)) 7 (-1)) 8 (-1)) 9 (-1)) 10 (-1)) 11 (-1)) 12 (-1)) 13 (-1)) 14 (-1)) 15 (-1))))]) dX2_init_26 rfl (vp_in_nI (n := 15) (by decide) (by decide)) (by decide) rfl ?_
  refine zn_iinc F (i := 1) (k := 0) (v := 16) (lv' := [(1, .int 16), (0, .ref h0)]) dX2_init_27 rfl (by decide) (by decide) rfl ?_
  refine zn_goto F (tgt := 14) dX2_init_30 (by decide) ?_
  refine zn_iload_n F (i := 1) (k := 0) dX2_init_14 rfl rfl ?_
  refine zn_bipush F (v := 24) dX2_init_15 (by decide) ?_
  refine zn_ge_f F (tgt := 33) dX2_init_17 (by decide) (by decide) ?_
  refine zn_aload_n F (i := 0) (k := 1) dX2_init_20 rfl rfl ?_
  refine zn_get F (j := 0) dX2_init_21 kfRX2_9 zCl_2 rfl rfl ?_
  refine zn_iload_n F (i := 1) (k := 0) dX2_init_24 rfl rfl ?_
  refine zn_iconst F (v := -1) dX2_init_25 (by decide) ?_
  refine zn_iast F (q0 := 1) (jn := 16) (ws' := [(h0, .inr (2, [.ref q0, .int 0, .int 0, .int 0, .int 0])), (q0, .inl (zcA X 0, 24, .inl (upd (upd (upd (upd (upd (upd (upd (upd (upd (upd (upd (upd (upd (upd (upd (upd (upd (fun _ => 0) 0 (-1)) 1 (-1)) 2 (-1)) 3 (-1)) 4 (-1)) 5 (-1)) 6 (-1)) 7 (-1)) 8 (-1)) 9 (-1)) 10 (-1)) 11 (-1)) 12 (-1)) 13 (-1)) 14 (-1)) 15 (-1)) 16 (-1))))]) dX2_init_26 rfl (vp_in_nI (n := 16) (by decide) (by decide)) (by decide) rfl ?_
  refine zn_iinc F (i := 1) (k := 0) (v := 17) (lv' := [(1, .int 17), (0, .ref h0)]) dX2_init_27 rfl (by decide) (by decide) rfl ?_
  refine zn_goto F (tgt := 14) dX2_init_30 (by decide) ?_
  refine zn_iload_n F (i := 1) (k := 0) dX2_init_14 rfl rfl ?_
  refine zn_bipush F (v := 24) dX2_init_15 (by decide) ?_
  refine zn_ge_f F (tgt := 33) dX2_init_17 (by decide) (by decide) ?_
  refine zn_aload_n F (i := 0) (k := 1) dX2_init_20 rfl rfl ?_
  refine zn_get F (j := 0) dX2_init_21 kfRX2_9 zCl_2 rfl rfl ?_
  refine zn_iload_n F (i := 1) (k := 0) dX2_init_24 rfl rfl ?_
  refine zn_iconst F (v := -1) dX2_init_25 (by decide) ?_
  refine zn_iast F (q0 := 1) (jn := 17) (ws' := [(h0, .inr (2, [.ref q0, .int 0, .int 0, .int 0, .int 0])), (q0, .inl (zcA X 0, 24, .inl (upd (upd (upd (upd (upd (upd (upd (upd (upd (upd (upd (upd (upd (upd (upd (upd (upd (upd (fun _ => 0) 0 (-1)) 1 (-1)) 2 (-1)) 3 (-1)) 4 (-1)) 5 (-1)) 6 (-1)) 7 (-1)) 8 (-1)) 9 (-1)) 10 (-1)) 11 (-1)) 12 (-1)) 13 (-1)) 14 (-1)) 15 (-1)) 16 (-1)) 17 (-1))))]) dX2_init_26 rfl (vp_in_nI (n := 17) (by decide) (by decide)) (by decide) rfl ?_
  refine zn_iinc F (i := 1) (k := 0) (v := 18) (lv' := [(1, .int 18), (0, .ref h0)]) dX2_init_27 rfl (by decide) (by decide) rfl ?_
  refine zn_goto F (tgt := 14) dX2_init_30 (by decide) ?_
  refine zn_iload_n F (i := 1) (k := 0) dX2_init_14 rfl rfl ?_
  refine zn_bipush F (v := 24) dX2_init_15 (by decide) ?_
  refine zn_ge_f F (tgt := 33) dX2_init_17 (by decide) (by decide) ?_
  refine zn_aload_n F (i := 0) (k := 1) dX2_init_20 rfl rfl ?_
  refine zn_get F (j := 0) dX2_init_21 kfRX2_9 zCl_2 rfl rfl ?_
  refine zn_iload_n F (i := 1) (k := 0) dX2_init_24 rfl rfl ?_
  refine zn_iconst F (v := -1) dX2_init_25 (by decide) ?_
  refine zn_iast F (q0 := 1) (jn := 18) (ws' := [(h0, .inr (2, [.ref q0, .int 0, .int 0, .int 0, .int 0])), (q0, .inl (zcA X 0, 24, .inl (upd (upd (upd (upd (upd (upd (upd (upd (upd (upd (upd (upd (upd (upd (upd (upd (upd (upd (upd (fun _ => 0) 0 (-1)) 1 (-1)) 2 (-1)) 3 (-1)) 4 (-1)) 5 (-1)) 6 (-1)) 7 (-1)) 8 (-1)) 9 (-1)) 10 (-1)) 11 (-1)) 12 (-1)) 13 (-1)) 14 (-1)) 15 (-1)) 16 (-1)) 17 (-1)) 18 (-1))))]) dX2_init_26 rfl (vp_in_nI (n := 18) (by decide) (by decide)) (by decide) rfl ?_
  refine zn_iinc F (i := 1) (k := 0) (v := 19) (lv' := [(1, .int 19), (0, .ref h0)]) dX2_init_27 rfl (by decide) (by decide) rfl ?_
  refine zn_goto F (tgt := 14) dX2_init_30 (by decide) ?_
  refine zn_iload_n F (i := 1) (k := 0) dX2_init_14 rfl rfl ?_
  refine zn_bipush F (v := 24) dX2_init_15 (by decide) ?_
  refine zn_ge_f F (tgt := 33) dX2_init_17 (by decide) (by decide) ?_
  refine zn_aload_n F (i := 0) (k := 1) dX2_init_20 rfl rfl ?_
  refine zn_get F (j := 0) dX2_init_21 kfRX2_9 zCl_2 rfl rfl ?_
  refine zn_iload_n F (i := 1) (k := 0) dX2_init_24 rfl rfl ?_
  refine zn_iconst F (v := -1) dX2_init_25 (by decide) ?_
  refine zn_iast F (q0 := 1) (jn := 19) (ws' := [(h0, .inr (2, [.ref q0, .int 0, .int 0, .int 0, .int 0])), (q0, .inl (zcA X 0, 24, .inl (upd (upd (upd (upd (upd (upd (upd (upd (upd (upd (upd (upd (upd (upd (upd (upd (upd (upd (upd (upd (fun _ => 0) 0 (-1)) 1 (-1)) 2 (-1)) 3 (-1)) 4 (-1)) 5 (-1)) 6 (-1)) 7 (-1)) 8 (-1)) 9 (-1)) 10 (-1)) 11 (-1)) 12 (-1)) 13 (-1)) 14 (-1)) 15 (-1)) 16 (-1)) 17 (-1)) 18 (-1)) 19 (-1))))]) dX2_init_26 rfl (vp_in_nI (n := 19) (by decide) (by decide)) (by decide) rfl ?_
  refine zn_iinc F (i := 1) (k := 0) (v := 20) (lv' := [(1, .int 20), (0, .ref h0)]) dX2_init_27 rfl (by decide) (by decide) rfl ?_
  refine zn_goto F (tgt := 14) dX2_init_30 (by decide) ?_
  refine zn_iload_n F (i := 1) (k := 0) dX2_init_14 rfl rfl ?_
  refine zn_bipush F (v := 24) dX2_init_15 (by decide) ?_
  refine zn_ge_f F (tgt := 33) dX2_init_17 (by decide) (by decide) ?_
  refine zn_aload_n F (i := 0) (k := 1) dX2_init_20 rfl rfl ?_
  refine zn_get F (j := 0) dX2_init_21 kfRX2_9 zCl_2 rfl rfl ?_
  refine zn_iload_n F (i := 1) (k := 0) dX2_init_24 rfl rfl ?_
  refine zn_iconst F (v := -1) dX2_init_25 (by decide) ?_
  refine zn_iast F (q0 := 1) (jn := 20) (ws' := [(h0, .inr (2, [.ref q0, .int 0, .int 0, .int 0, .int 0])), (q0, .inl (zcA X 0, 24, .inl (upd (upd (upd (upd (upd (upd (upd (upd (upd (upd (upd (upd (upd (upd (upd (upd (upd (upd (upd (upd (upd (fun _ => 0) 0 (-1)) 1 (-1)) 2 (-1)) 3 (-1)) 4 (-1)) 5 (-1)) 6 (-1)) 7 (-1)) 8 (-1)) 9 (-1)) 10 (-1)) 11 (-1)) 12 (-1)) 13 (-1)) 14 (-1)) 15 (-1)) 16 (-1)) 17 (-1)) 18 (-1)) 19 (-1)) 20 (-1))))]) dX2_init_26 rfl (vp_in_nI (n := 20) (by decide) (by decide)) (by decide) rfl ?_
  refine zn_iinc F (i := 1) (k := 0) (v := 21) (lv' := [(1, .int 21), (0, .ref h0)]) dX2_init_27 rfl (by decide) (by decide) rfl ?_
  refine zn_goto F (tgt := 14) dX2_init_30 (by decide) ?_
  refine zn_iload_n F (i := 1) (k := 0) dX2_init_14 rfl rfl ?_
  refine zn_bipush F (v := 24) dX2_init_15 (by decide) ?_
  refine zn_ge_f F (tgt := 33) dX2_init_17 (by decide) (by decide) ?_
  refine zn_aload_n F (i := 0) (k := 1) dX2_init_20 rfl rfl ?_
  refine zn_get F (j := 0) dX2_init_21 kfRX2_9 zCl_2 rfl rfl ?_
  refine zn_iload_n F (i := 1) (k := 0) dX2_init_24 rfl rfl ?_
  refine zn_iconst F (v := -1) dX2_init_25 (by decide) ?_
  refine zn_iast F (q0 := 1) (jn := 21) (ws' := [(h0, .inr (2, [.ref q0, .int 0, .int 0, .int 0, .int 0])), (q0, .inl (zcA X 0, 24, .inl (upd (upd (upd (upd (upd (upd (upd (upd (upd (upd (upd (upd (upd (upd (upd (upd (upd (upd (upd (upd (upd (upd (fun _ => 0) 0 (-1)) 1 (-1)) 2 (-1)) 3 (-1)) 4 (-1)) 5 (-1)) 6 (-1)) 7 (-1)) 8 (-1)) 9 (-1)) 10 (-1)) 11 (-1)) 12 (-1)) 13 (-1)) 14 (-1)) 15 (-1)) 16 (-1)) 17 (-1)) 18 (-1)) 19 (-1)) 20 (-1)) 21 (-1))))]) dX2_init_26 rfl (vp_in_nI (n := 21) (by decide) (by decide)) (by decide) rfl ?_
  refine zn_iinc F (i := 1) (k := 0) (v := 22) (lv' := [(1, .int 22), (0, .ref h0)]) dX2_init_27 rfl (by decide) (by decide) rfl ?_
  refine zn_goto F (tgt := 14) dX2_init_30 (by decide) ?_
  refine zn_iload_n F (i := 1) (k := 0) dX2_init_14 rfl rfl ?_
  refine zn_bipush F (v := 24) dX2_init_15 (by decide) ?_
  refine zn_ge_f F (tgt := 33) dX2_init_17 (by decide) (by decide) ?_
  refine zn_aload_n F (i := 0) (k := 1) dX2_init_20 rfl rfl ?_
  refine zn_get F (j := 0) dX2_init_21 kfRX2_9 zCl_2 rfl rfl ?_
  refine zn_iload_n F (i := 1) (k := 0) dX2_init_24 rfl rfl ?_
  refine zn_iconst F (v := -1) dX2_init_25 (by decide) ?_
  refine zn_iast F (q0 := 1) (jn := 22) (ws' := [(h0, .inr (2, [.ref q0, .int 0, .int 0, .int 0, .int 0])), (q0, .inl (zcA X 0, 24, .inl (upd (upd (upd (upd (upd (upd (upd (upd (upd (upd (upd (upd (upd (upd (upd (upd (upd (upd (upd (upd (upd (upd (upd (fun _ => 0) 0 (-1)) 1 (-1)) 2 (-1)) 3 (-1)) 4 (-1)) 5 (-1)) 6 (-1)) 7 (-1)) 8 (-1)) 9 (-1)) 10 (-1)) 11 (-1)) 12 (-1)) 13 (-1)) 14 (-1)) 15 (-1)) 16 (-1)) 17 (-1)) 18 (-1)) 19 (-1)) 20 (-1)) 21 (-1)) 22 (-1))))]) dX2_init_26 rfl (vp_in_nI (n := 22) (by decide) (by decide)) (by decide) rfl ?_
  refine zn_iinc F (i := 1) (k := 0) (v := 23) (lv' := [(1, .int 23), (0, .ref h0)]) dX2_init_27 rfl (by decide) (by decide) rfl ?_
  refine zn_goto F (tgt := 14) dX2_init_30 (by decide) ?_
  refine zn_iload_n F (i := 1) (k := 0) dX2_init_14 rfl rfl ?_
  refine zn_bipush F (v := 24) dX2_init_15 (by decide) ?_
  refine zn_ge_f F (tgt := 33) dX2_init_17 (by decide) (by decide) ?_
  refine zn_aload_n F (i := 0) (k := 1) dX2_init_20 rfl rfl ?_
  refine zn_get F (j := 0) dX2_init_21 kfRX2_9 zCl_2 rfl rfl ?_
  refine zn_iload_n F (i := 1) (k := 0) dX2_init_24 rfl rfl ?_
  refine zn_iconst F (v := -1) dX2_init_25 (by decide) ?_
  refine zn_iast F (q0 := 1) (jn := 23) (ws' := [(h0, .inr (2, [.ref q0, .int 0, .int 0, .int 0, .int 0])), (q0, .inl (zcA X 0, 24, .inl (upd (upd (upd (upd (upd (upd (upd (upd (upd (upd (upd (upd (upd (upd (upd (upd (upd (upd (upd (upd (upd (upd (upd (upd (fun _ => 0) 0 (-1)) 1 (-1)) 2 (-1)) 3 (-1)) 4 (-1)) 5 (-1)) 6 (-1)) 7 (-1)) 8 (-1)) 9 (-1)) 10 (-1)) 11 (-1)) 12 (-1)) 13 (-1)) 14 (-1)) 15 (-1)) 16 (-1)) 17 (-1)) 18 (-1)) 19 (-1)) 20 (-1)) 21 (-1)) 22 (-1)) 23 (-1))))]) dX2_init_26 rfl (vp_in_nI (n := 23) (by decide) (by decide)) (by decide) rfl ?_
  refine zn_iinc F (i := 1) (k := 0) (v := 24) (lv' := [(1, .int 24), (0, .ref h0)]) dX2_init_27 rfl (by decide) (by decide) rfl ?_
  refine zn_goto F (tgt := 14) dX2_init_30 (by decide) ?_
  refine zn_iload_n F (i := 1) (k := 0) dX2_init_14 rfl rfl ?_
  refine zn_bipush F (v := 24) dX2_init_15 (by decide) ?_
  refine zn_ge_t F (tgt := 33) dX2_init_17 (by decide) (by decide) ?_
  refine zn_ws (ws' := [(h0, .inr (2, [.ref q0, .int 0, .int 0, .int 0, .int 0])), (q0, .inl (zcA X 0, 24, .inl (zLm 24)))]) (by rw [zLm_24]) ?_
  exact zn_ret F T dX2_init_33 ⟨rfl, ⟨q0, rfl⟩⟩ (Nat.le_refl _) (Nat.le_refl _)
