theorem dX5_wearOut_0 : decode cX5_wearOut 0 = .ok (.aload_n 0, 1) := by decide +kernel
theorem dX5_wearOut_1 : decode cX5_wearOut 1 = .ok (.getfield 9, 3) := by decide +kernel
theorem dX5_wearOut_4 : decode cX5_wearOut 4 = .ok (.iconst 2, 1) := by decide +kernel
theorem dX5_wearOut_5 : decode cX5_wearOut 5 = .ok (.if_icmp .eq 4, 3) := by decide +kernel
theorem dX5_wearOut_8 : decode cX5_wearOut 8 = .ok (.return_, 1) := by decide +kernel
theorem dX5_wearOut_9 : decode cX5_wearOut 9 = .ok (.aload_n 0, 1) := by decide +kernel
theorem dX5_wearOut_10 : decode cX5_wearOut 10 = .ok (.iconst 0, 1) := by decide +kernel
theorem dX5_wearOut_11 : decode cX5_wearOut 11 = .ok (.aload_n 0, 1) := by decide +kernel
theorem dX5_wearOut_12 : decode cX5_wearOut 12 = .ok (.getfield 50, 3) := by decide +kernel
theorem dX5_wearOut_15 : decode cX5_wearOut 15 = .ok (.bipush 12, 2) := by decide +kernel
theorem dX5_wearOut_17 : decode cX5_wearOut 17 = .ok (.if_icmp .le 7, 3) := by decide +kernel
theorem dX5_wearOut_20 : decode cX5_wearOut 20 = .ok (.iconst 2, 1) := by decide +kernel
theorem dX5_wearOut_21 : decode cX5_wearOut 21 = .ok (.goto 4, 3) := by decide +kernel
theorem dX5_wearOut_24 : decode cX5_wearOut 24 = .ok (.iconst 1, 1) := by decide +kernel
theorem dX5_wearOut_25 : decode cX5_wearOut 25 = .ok (.invokevirtual 117, 3) := by decide +kernel
theorem dX5_wearOut_28 : decode cX5_wearOut 28 = .ok (.aload_n 0, 1) := by decide +kernel
theorem dX5_wearOut_29 : decode cX5_wearOut 29 = .ok (.iconst 1, 1) := by decide +kernel
theorem dX5_wearOut_30 : decode cX5_wearOut 30 = .ok (.aload_n 0, 1) := by decide +kernel
theorem dX5_wearOut_31 : decode cX5_wearOut 31 = .ok (.getfield 50, 3) := by decide +kernel
theorem dX5_wearOut_34 : decode cX5_wearOut 34 = .ok (.aload_n 0, 1) := by decide +kernel
theorem dX5_wearOut_35 : decode cX5_wearOut 35 = .ok (.getfield 53, 3) := by decide +kernel
theorem dX5_wearOut_38 : decode cX5_wearOut 38 = .ok (.isub, 1) := by decide +kernel
theorem dX5_wearOut_39 : decode cX5_wearOut 39 = .ok (.invokestatic 120, 3) := by decide +kernel
theorem dX5_wearOut_42 : decode cX5_wearOut 42 = .ok (.iconst 5, 1) := by decide +kernel
theorem dX5_wearOut_43 : decode cX5_wearOut 43 = .ok (.if_icmp .lt 7, 3) := by decide +kernel
theorem dX5_wearOut_46 : decode cX5_wearOut 46 = .ok (.iconst 3, 1) := by decide +kernel
theorem dX5_wearOut_47 : decode cX5_wearOut 47 = .ok (.goto 4, 3) := by decide +kernel
theorem dX5_wearOut_50 : decode cX5_wearOut 50 = .ok (.iconst 1, 1) := by decide +kernel
theorem dX5_wearOut_51 : decode cX5_wearOut 51 = .ok (.invokevirtual 117, 3) := by decide +kernel
theorem dX5_wearOut_54 : decode cX5_wearOut 54 = .ok (.aload_n 0, 1) := by decide +kernel
theorem dX5_wearOut_55 : decode cX5_wearOut 55 = .ok (.iconst 2, 1) := by decide +kernel
theorem dX5_wearOut_56 : decode cX5_wearOut 56 = .ok (.aload_n 0, 1) := by decide +kernel
theorem dX5_wearOut_57 : decode cX5_wearOut 57 = .ok (.getfield 34, 3) := by decide +kernel
theorem dX5_wearOut_60 : decode cX5_wearOut 60 = .ok (.aload_n 0, 1) := by decide +kernel
theorem dX5_wearOut_61 : decode cX5_wearOut 61 = .ok (.getfield 50, 3) := by decide +kernel
theorem dX5_wearOut_64 : decode cX5_wearOut 64 = .ok (.invokevirtual 123, 3) := by decide +kernel
theorem dX5_wearOut_67 : decode cX5_wearOut 67 = .ok (.aload_n 0, 1) := by decide +kernel
theorem dX5_wearOut_68 : decode cX5_wearOut 68 = .ok (.getfield 47, 3) := by decide +kernel
theorem dX5_wearOut_71 : decode cX5_wearOut 71 = .ok (.invokestatic 120, 3) := by decide +kernel
theorem dX5_wearOut_74 : decode cX5_wearOut 74 = .ok (.iadd, 1) := by decide +kernel
theorem dX5_wearOut_75 : decode cX5_wearOut 75 = .ok (.invokevirtual 117, 3) := by decide +kernel
theorem dX5_wearOut_78 : decode cX5_wearOut 78 = .ok (.return_, 1) := by decide +kernel
theorem wcRX5_117 : Cond.methodLink RX5 117 yX5_wearPart ∈ zTg ∧ Cond.instanceMethod yX5_wearPart ∈ zTg ∧ Cond.selects RX5 yX5_wearPart yX5_wearPart ∈ zTg ∧ Cond.initialized RX5 ∈ zTg ∧ Cond.code yX5_wearPart cX5_wearPart 3 none ∈ zTg := ⟨zm_f 684 (by decide +kernel) rfl, zm_f 686 (by decide +kernel) rfl, zm_f 12 (by decide +kernel) rfl, zm_f 41 (by decide +kernel) rfl, zm_f 687 (by decide +kernel) rfl⟩
theorem wy_yX5_wearPart : yX5_wearPart.cls = RX5 ∧ yX5_wearPart.cls ≠ "java/lang/invoke/MethodHandle" ∧ yX5_wearPart.cls ≠ "java/lang/invoke/VarHandle" ∧ (parseMethodDescriptor yX5_wearPart.desc).map (fun d => d.parameters.length) = some 2 := by decide +kernel
theorem wfRX5_53 : zFl RX5 53 5 9 := ⟨_, rfl, by decide, zm_f 184 (by decide +kernel) rfl⟩
theorem wmRX5_120 : Cond.methodLink RX5 120 Lib.Math.abs.name ∈ zTg := zm_f 689 (by decide +kernel) rfl
theorem wfRX5_34 : zFl RX5 34 5 13 := ⟨_, rfl, by decide, zm_f 193 (by decide +kernel) rfl⟩
theorem wcRX5_123 : Cond.methodLink RX5 123 yX1_put ∈ zTg ∧ Cond.instanceMethod yX1_put ∈ zTg ∧ Cond.selects RX1 yX1_put yX1_put ∈ zTg ∧ Cond.initialized RX1 ∈ zTg ∧ Cond.code yX1_put cX1_put 5 (some .int) ∈ zTg := ⟨zm_f 690 (by decide +kernel) rfl, zm_f 691 (by decide +kernel) rfl, zm_f 692 (by decide +kernel) rfl, zm_f 42 (by decide +kernel) rfl, zm_f 693 (by decide +kernel) rfl⟩
theorem wy_yX1_put : yX1_put.cls = RX1 ∧ yX1_put.cls ≠ "java/lang/invoke/MethodHandle" ∧ yX1_put.cls ≠ "java/lang/invoke/VarHandle" ∧ (parseMethodDescriptor yX1_put.desc).map (fun d => d.parameters.length) = some 1 := by decide +kernel
def fTu_wearOut (i : Nat) (s0 : zM) : Option (zM) :=
  if (s0 7 i 3) = (2 : Int32) then
  Option.bind (if (s0 7 i 8) ≤ (12 : Int32) then
    some (1 : Int32)
  else
    some (2 : Int32)) fun q1 =>
    Option.bind (fTu_wearPart i (0 : Int32) q1 s0) fun q5 =>
    Option.bind (if (zabs ((q5 7 i 8) - (q5 7 i 9))) < (5 : Int32) then
    some (1 : Int32)
  else
    some (3 : Int32)) fun q6 =>
    Option.bind (fTu_wearPart i (1 : Int32) q6 q5) fun q10 =>
    Option.bind (fEx_put i (q10 7 i 8) q10) fun q11 =>
    Option.bind (fTu_wearPart i (2 : Int32) (q11.1 + (zabs (q11.2 7 i 7))) q11.2) fun q12 =>
    some q12
else
  some s0
set_option maxHeartbeats 4000000 in
set_option maxRecDepth 20000 in
theorem bfTu_wearOut {X : zX} (F : zFr X cX5_wearOut 1 RX5 none) (i : Nat) (hi : i < 8) (s0 : zM) {κ : zM → Option zO} (hκ : ∀ a, κ a = some ((fun a => ((.inl ((fun _ => (none : Option zV)) a), (fun q => [q]) a) : zO)) a)) : zZ X [(0, [])] 3 67 1 0 [some (zr 0 7 i)] [] [s0] (Option.bind (fTu_wearOut i s0) κ) := by
  unfold fTu_wearOut
  refine zz_aload_n F (i := 0) dX5_wearOut_0 rfl rfl ?_
  refine zz_getf F dX5_wearOut_1 wfRX5_9 zCl_5 rfl (⟨zlb rfl, zlb rfl, hi⟩) rfl (by decide) rfl rfl ?_
  refine zz_iconst F (v := (2 : Int32)) dX5_wearOut_4 (by decide) ?_
  refine zz_icmp_eq F (tgt := 9) dX5_wearOut_5 (by decide) (fun h => zz_t h ?_) (fun h => zz_f h ?_)
  · refine zz_aload_n F (i := 0) dX5_wearOut_9 rfl rfl ?_
    refine zz_iconst F (v := (0 : Int32)) dX5_wearOut_10 (by decide) ?_
    refine zz_aload_n F (i := 0) dX5_wearOut_11 rfl rfl ?_
    refine zz_getf F dX5_wearOut_12 wfRX5_50 zCl_5 rfl (⟨zlb rfl, zlb rfl, hi⟩) rfl (by decide) rfl rfl ?_
    refine zz_bipush F (v := (12 : Int32)) dX5_wearOut_15 (by decide) ?_
    refine zz_join (pj := 25) (Lj := fun q1 => [some (zr 0 7 i)]) (Sj := fun q1 => [zi q1, zi (0 : Int32), zr 0 7 i]) (Mj := fun q1 => [s0]) (fun q1 => ?_) (fun κ3 hj2 => ?_)
    · refine zz_bind ?_
      refine zz_callVr F (ρ := [0]) (so := fun q5 => []) (Mo := fun q5 => [q5]) (zfTu_wearPart i (0 : Int32) q1 hi s0) dX5_wearOut_25 wcRX5_117 wy_yX5_wearPart rfl ⟨rel3, rfl, rfl, Nat.le_of_ble_eq_true rfl, Nat.le_of_ble_eq_true rfl, Nat.le_of_ble_eq_true rfl⟩ (⟨zlb rfl, zlb rfl, hi⟩) rfl rfl rfl (fun _ => rfl) (fun _ => rfl) fun q5 => ?_
      refine zz_aload_n F (i := 0) dX5_wearOut_28 rfl rfl ?_
      refine zz_iconst F (v := (1 : Int32)) dX5_wearOut_29 (by decide) ?_
      refine zz_aload_n F (i := 0) dX5_wearOut_30 rfl rfl ?_
      refine zz_getf F dX5_wearOut_31 wfRX5_50 zCl_5 rfl (⟨zlb rfl, zlb rfl, hi⟩) rfl (by decide) rfl rfl ?_
      refine zz_aload_n F (i := 0) dX5_wearOut_34 rfl rfl ?_
      refine zz_getf F dX5_wearOut_35 wfRX5_53 zCl_5 rfl (⟨zlb rfl, zlb rfl, hi⟩) rfl (by decide) rfl rfl ?_
      refine zz_isub F dX5_wearOut_38 ?_
      refine zz_abs F dX5_wearOut_39 wmRX5_120 wMath_abs (Nat.le_of_ble_eq_true rfl) (Nat.le_of_ble_eq_true rfl) ?_
      refine zz_iconst F (v := (5 : Int32)) dX5_wearOut_42 (by decide) ?_
      refine zz_join (pj := 51) (Lj := fun q6 => [some (zr 0 7 i)]) (Sj := fun q6 => [zi q6, zi (1 : Int32), zr 0 7 i]) (Mj := fun q6 => [q5]) (fun q6 => ?_) (fun κ8 hj7 => ?_)
      · refine zz_bind ?_
        refine zz_callVr F (ρ := [0]) (so := fun q10 => []) (Mo := fun q10 => [q10]) (zfTu_wearPart i (1 : Int32) q6 hi q5) dX5_wearOut_51 wcRX5_117 wy_yX5_wearPart rfl ⟨rel3, rfl, rfl, Nat.le_of_ble_eq_true rfl, Nat.le_of_ble_eq_true rfl, Nat.le_of_ble_eq_true rfl⟩ (⟨zlb rfl, zlb rfl, hi⟩) rfl rfl rfl (fun _ => rfl) (fun _ => rfl) fun q10 => ?_
        refine zz_aload_n F (i := 0) dX5_wearOut_54 rfl rfl ?_
        refine zz_iconst F (v := (2 : Int32)) dX5_wearOut_55 (by decide) ?_
        refine zz_aload_n F (i := 0) dX5_wearOut_56 rfl rfl ?_
        refine zz_getr F dX5_wearOut_57 wfRX5_34 zCl_5 rfl (⟨zlb rfl, zlb rfl, hi⟩) rfl (by decide) rfl (r' := 0) (by decide) ?_
        refine zz_aload_n F (i := 0) dX5_wearOut_60 rfl rfl ?_
        refine zz_getf F dX5_wearOut_61 wfRX5_50 zCl_5 rfl (⟨zlb rfl, zlb rfl, hi⟩) rfl (by decide) rfl rfl ?_
        refine zz_bind ?_
        refine zz_callVr F (ρ := [0]) (so := fun q11 => [zi q11.1, zi (2 : Int32), zr 0 7 i]) (Mo := fun q11 => [q11.2]) (zfEx_put i (q10 7 i 8) hi q10) dX5_wearOut_64 wcRX5_123 wy_yX1_put rfl ⟨rel3, rfl, rfl, Nat.le_of_ble_eq_true rfl, Nat.le_of_ble_eq_true rfl, Nat.le_of_ble_eq_true rfl⟩ (⟨zlb rfl, zlb rfl, hi⟩) rfl rfl rfl (fun _ => rfl) (fun _ => rfl) fun q11 => ?_
        refine zz_aload_n F (i := 0) dX5_wearOut_67 rfl rfl ?_
        refine zz_getf F dX5_wearOut_68 wfRX5_47 zCl_5 rfl (⟨zlb rfl, zlb rfl, hi⟩) rfl (by decide) rfl rfl ?_
        refine zz_abs F dX5_wearOut_71 wmRX5_120 wMath_abs (Nat.le_of_ble_eq_true rfl) (Nat.le_of_ble_eq_true rfl) ?_
        refine zz_iadd F dX5_wearOut_74 ?_
        refine zz_bind ?_
        refine zz_callVr F (ρ := [0]) (so := fun q12 => []) (Mo := fun q12 => [q12]) (zfTu_wearPart i (2 : Int32) (q11.1 + (zabs (q11.2 7 i 7))) hi q11.2) dX5_wearOut_75 wcRX5_117 wy_yX5_wearPart rfl ⟨rel3, rfl, rfl, Nat.le_of_ble_eq_true rfl, Nat.le_of_ble_eq_true rfl, Nat.le_of_ble_eq_true rfl⟩ (⟨zlb rfl, zlb rfl, hi⟩) rfl rfl rfl (fun _ => rfl) (fun _ => rfl) fun q12 => ?_
        exact zz_return F dX5_wearOut_78 rfl (hκ _)
      · refine zz_icmp_lt F (tgt := 50) dX5_wearOut_43 (by decide) (fun h => zz_t h ?_) (fun h => zz_f h ?_)
        · refine zz_iconst F (v := (1 : Int32)) dX5_wearOut_50 (by decide) ?_
          exact zz_sub (zs_k zs_z) (hj7 (1 : Int32))
        · refine zz_iconst F (v := (3 : Int32)) dX5_wearOut_46 (by decide) ?_
          refine zz_goto F (tgt := 51) dX5_wearOut_47 (by decide) ?_
          exact zz_sub (zs_k zs_z) (hj7 (3 : Int32))
    · refine zz_icmp_le F (tgt := 24) dX5_wearOut_17 (by decide) (fun h => zz_t h ?_) (fun h => zz_f h ?_)
      · refine zz_iconst F (v := (1 : Int32)) dX5_wearOut_24 (by decide) ?_
        exact zz_sub (zs_k zs_z) (hj2 (1 : Int32))
      · refine zz_iconst F (v := (2 : Int32)) dX5_wearOut_20 (by decide) ?_
        refine zz_goto F (tgt := 25) dX5_wearOut_21 (by decide) ?_
        exact zz_sub (zs_k zs_z) (hj2 (2 : Int32))
  · exact zz_return F dX5_wearOut_8 rfl (hκ _)
theorem zfTu_wearOut (i : Nat) (hi : i < 8) (s0 : zM) : ∀ a, fTu_wearOut i s0 = some a → zMet yX5_wearOut cX5_wearOut 1 none 3 67 [(0, [])] [zr 0 7 i] [s0] ((fun a => ((.inl ((fun _ => (none : Option zV)) a), (fun q => [q]) a) : zO)) a) := fun a ha => zMet_of (L0 := [some (zr 0 7 i)]) (φ := Option.bind (fTu_wearOut i s0) (fun a => some ((fun a => ((.inl ((fun _ => (none : Option zV)) a), (fun q => [q]) a) : zO)) a))) (by decide) (fun _ => Nat.le_of_ble_eq_true rfl) (zl0 0 rfl) (fun X F => bfTu_wearOut F i hi s0 (fun _ => rfl)) (by rw [ha]; rfl)

theorem dX6_finishes_0 : decode cX6_finishes 0 = .ok (.aload_n 0, 1) := by decide +kernel
theorem dX6_finishes_1 : decode cX6_finishes 1 = .ok (.getfield 15, 3) := by decide +kernel
theorem dX6_finishes_4 : decode cX6_finishes 4 = .ok (.iconst (-1), 1) := by decide +kernel
theorem dX6_finishes_5 : decode cX6_finishes 5 = .ok (.if_icmp .ne 5, 3) := by decide +kernel
theorem dX6_finishes_8 : decode cX6_finishes 8 = .ok (.iconst 0, 1) := by decide +kernel
theorem dX6_finishes_9 : decode cX6_finishes 9 = .ok (.ireturn, 1) := by decide +kernel
theorem dX6_finishes_10 : decode cX6_finishes 10 = .ok (.aload_n 0, 1) := by decide +kernel
theorem dX6_finishes_11 : decode cX6_finishes 11 = .ok (.dup, 1) := by decide +kernel
theorem dX6_finishes_12 : decode cX6_finishes 12 = .ok (.getfield 25, 3) := by decide +kernel
theorem dX6_finishes_15 : decode cX6_finishes 15 = .ok (.iconst 1, 1) := by decide +kernel
theorem dX6_finishes_16 : decode cX6_finishes 16 = .ok (.isub, 1) := by decide +kernel
theorem dX6_finishes_17 : decode cX6_finishes 17 = .ok (.putfield 25, 3) := by decide +kernel
theorem dX6_finishes_20 : decode cX6_finishes 20 = .ok (.aload_n 0, 1) := by decide +kernel
theorem dX6_finishes_21 : decode cX6_finishes 21 = .ok (.getfield 25, 3) := by decide +kernel
theorem dX6_finishes_24 : decode cX6_finishes 24 = .ok (.ifCond .le 5, 3) := by decide +kernel
theorem dX6_finishes_27 : decode cX6_finishes 27 = .ok (.iconst 0, 1) := by decide +kernel
theorem dX6_finishes_28 : decode cX6_finishes 28 = .ok (.ireturn, 1) := by decide +kernel
theorem dX6_finishes_29 : decode cX6_finishes 29 = .ok (.aload_n 0, 1) := by decide +kernel
theorem dX6_finishes_30 : decode cX6_finishes 30 = .ok (.iconst (-1), 1) := by decide +kernel
theorem dX6_finishes_31 : decode cX6_finishes 31 = .ok (.putfield 15, 3) := by decide +kernel
theorem dX6_finishes_34 : decode cX6_finishes 34 = .ok (.iconst 1, 1) := by decide +kernel
theorem dX6_finishes_35 : decode cX6_finishes 35 = .ok (.ireturn, 1) := by decide +kernel
theorem wfRX6_15 : zFl RX6 15 6 3 := ⟨_, rfl, by decide, zm_f 258 (by decide +kernel) rfl⟩
theorem wfRX6_25 : zFl RX6 25 6 4 := ⟨_, rfl, by decide, zm_f 261 (by decide +kernel) rfl⟩
theorem wpRX6_25 : zFw RX6 25 6 4 .int := ⟨_, rfl, by decide, zm_f 261 (by decide +kernel) rfl, rfl, by decide +kernel⟩
theorem wpRX6_15 : zFw RX6 15 6 3 .int := ⟨_, rfl, by decide, zm_f 258 (by decide +kernel) rfl, rfl, by decide +kernel⟩
def fVe_finishes (i : Nat) (s0 : zM) : Option (Int32 × zM) :=
  if (s0 13 i 3) = (-1 : Int32) then
  some ((0 : Int32), s0)
else
  zlet (zu s0 13 i 4 ((s0 13 i 4) - (1 : Int32))) fun s0_1 =>
    if (s0_1 13 i 4) ≤ 0 then
    zlet (zu s0_1 13 i 3 (-1 : Int32)) fun s0_2 =>
      some ((1 : Int32), s0_2)
  else
    some ((0 : Int32), s0_1)
set_option maxHeartbeats 4000000 in
set_option maxRecDepth 20000 in
theorem bfVe_finishes {X : zX} (F : zFr X cX6_finishes 1 RX6 (some .boolean)) (i : Nat) (hi : i < 3) (s0 : zM) {κ : Int32 × zM → Option zO} (hκ : ∀ a, κ a = some ((fun a => ((.inl ((fun q => some (zi q.1)) a), (fun q => [q.2]) a) : zO)) a)) : zZ X [(0, [])] 0 0 1 0 [some (zr 0 13 i)] [] [s0] (Option.bind (fVe_finishes i s0) κ) := by
  unfold fVe_finishes
  refine zz_aload_n F (i := 0) dX6_finishes_0 rfl rfl ?_
  refine zz_getf F dX6_finishes_1 wfRX6_15 zCl_6 rfl (⟨zlb rfl, zlb rfl, hi⟩) rfl (by decide) rfl rfl ?_
  refine zz_iconst F (v := (-1 : Int32)) dX6_finishes_4 (by decide) ?_
  refine zz_icmp_ne F (tgt := 10) dX6_finishes_5 (by decide) (fun h => zz_f h ?_) (fun h => zz_t h ?_)
  · refine zz_aload_n F (i := 0) dX6_finishes_10 rfl rfl ?_
    refine zz_dup F dX6_finishes_11 rfl ?_
    refine zz_getf F dX6_finishes_12 wfRX6_25 zCl_6 rfl (⟨zlb rfl, zlb rfl, hi⟩) rfl (by decide) rfl rfl ?_
    refine zz_iconst F (v := (1 : Int32)) dX6_finishes_15 (by decide) ?_
    refine zz_isub F dX6_finishes_16 ?_
    refine zz_put F (Ms' := [(zu s0 13 i 4 ((s0 13 i 4) - (1 : Int32)))]) dX6_finishes_17 wpRX6_25 zCl_6 rfl (⟨zlb rfl, zlb rfl, hi⟩) rfl (by decide) rfl rfl rfl ?_
    refine zz_letm (Mf := fun s0_1 => [s0_1]) fun s0_1 => ?_
    refine zz_aload_n F (i := 0) dX6_finishes_20 rfl rfl ?_
    refine zz_getf F dX6_finishes_21 wfRX6_25 zCl_6 rfl (⟨zlb rfl, zlb rfl, hi⟩) rfl (by decide) rfl rfl ?_
    refine zz_if_le F (tgt := 29) dX6_finishes_24 (by decide) (fun h => zz_t h ?_) (fun h => zz_f h ?_)
    · refine zz_aload_n F (i := 0) dX6_finishes_29 rfl rfl ?_
      refine zz_iconst F (v := (-1 : Int32)) dX6_finishes_30 (by decide) ?_
      refine zz_put F (Ms' := [(zu s0_1 13 i 3 (-1 : Int32))]) dX6_finishes_31 wpRX6_15 zCl_6 rfl (⟨zlb rfl, zlb rfl, hi⟩) rfl (by decide) rfl rfl rfl ?_
      refine zz_letm (Mf := fun s0_2 => [s0_2]) fun s0_2 => ?_
      refine zz_iconst F (v := (1 : Int32)) dX6_finishes_34 (by decide) ?_
      exact zz_zreturn F dX6_finishes_35 rfl rfl (hκ _)
    · refine zz_iconst F (v := (0 : Int32)) dX6_finishes_27 (by decide) ?_
      exact zz_zreturn F dX6_finishes_28 rfl rfl (hκ _)
  · refine zz_iconst F (v := (0 : Int32)) dX6_finishes_8 (by decide) ?_
    exact zz_zreturn F dX6_finishes_9 rfl rfl (hκ _)
theorem zfVe_finishes (i : Nat) (hi : i < 3) (s0 : zM) : ∀ a, fVe_finishes i s0 = some a → zMet yX6_finishes cX6_finishes 1 (some .boolean) 0 0 [(0, [])] [zr 0 13 i] [s0] ((fun a => ((.inl ((fun q => some (zi q.1)) a), (fun q => [q.2]) a) : zO)) a) := fun a ha => zMet_of (L0 := [some (zr 0 13 i)]) (φ := Option.bind (fVe_finishes i s0) (fun a => some ((fun a => ((.inl ((fun q => some (zi q.1)) a), (fun q => [q.2]) a) : zO)) a))) (by decide) (fun _ => Nat.le_of_ble_eq_true rfl) (zl0 0 rfl) (fun X F => bfVe_finishes F i hi s0 (fun _ => rfl)) (by rw [ha]; rfl)

theorem dX3_hasTurbine_0 : decode cX3_hasTurbine 0 = .ok (.iload_n 1, 1) := by decide +kernel
theorem dX3_hasTurbine_1 : decode cX3_hasTurbine 1 = .ok (.ifCond .lt 15, 3) := by decide +kernel
theorem dX3_hasTurbine_4 : decode cX3_hasTurbine 4 = .ok (.iload_n 1, 1) := by decide +kernel
theorem dX3_hasTurbine_5 : decode cX3_hasTurbine 5 = .ok (.aload_n 0, 1) := by decide +kernel
theorem dX3_hasTurbine_6 : decode cX3_hasTurbine 6 = .ok (.getfield 56, 3) := by decide +kernel
theorem dX3_hasTurbine_9 : decode cX3_hasTurbine 9 = .ok (.if_icmp .ge 7, 3) := by decide +kernel
theorem dX3_hasTurbine_12 : decode cX3_hasTurbine 12 = .ok (.iconst 1, 1) := by decide +kernel
theorem dX3_hasTurbine_13 : decode cX3_hasTurbine 13 = .ok (.goto 4, 3) := by decide +kernel
theorem dX3_hasTurbine_16 : decode cX3_hasTurbine 16 = .ok (.iconst 0, 1) := by decide +kernel
theorem dX3_hasTurbine_17 : decode cX3_hasTurbine 17 = .ok (.ireturn, 1) := by decide +kernel
def fSe_hasTurbine (a1 : Int32) (s0 : zM) : Option (Int32) :=
  if a1 < 0 then
  some (0 : Int32)
else
  if (s0 0 0 5) ≤ a1 then
    some (0 : Int32)
  else
    some (1 : Int32)
set_option maxHeartbeats 4000000 in
set_option maxRecDepth 20000 in
theorem bfSe_hasTurbine {X : zX} (F : zFr X cX3_hasTurbine 2 RX3 (some .boolean)) (a1 : Int32)  (s0 : zM) {κ : Int32 → Option zO} (hκ : ∀ a, κ a = some ((fun a => ((.inl ((fun q => some (zi q)) a), (fun _ => [s0]) a) : zO)) a)) : zZ X [(0, [])] 0 0 2 0 [some (zr 0 0 0), some (zi a1)] [] [s0] (Option.bind (fSe_hasTurbine a1 s0) κ) := by
  unfold fSe_hasTurbine
  refine zz_iload_n F (i := 1) dX3_hasTurbine_0 rfl rfl ?_
  refine zz_if_lt F (tgt := 16) dX3_hasTurbine_1 (by decide) (fun h => zz_t h ?_) (fun h => zz_f h ?_)
  · refine zz_iconst F (v := (0 : Int32)) dX3_hasTurbine_16 (by decide) ?_
    exact zz_zreturn F dX3_hasTurbine_17 rfl rfl (hκ _)
  · refine zz_iload_n F (i := 1) dX3_hasTurbine_4 rfl rfl ?_
    refine zz_aload_n F (i := 0) dX3_hasTurbine_5 rfl rfl ?_
    refine zz_getf F dX3_hasTurbine_6 wfRX3_56 zCl_3 rfl (⟨zlb rfl, zlb rfl, zlb rfl⟩) rfl (by decide) rfl rfl ?_
    refine zz_icmp_ge F (tgt := 16) dX3_hasTurbine_9 (by decide) (fun h => zz_t h ?_) (fun h => zz_f h ?_)
    · refine zz_iconst F (v := (0 : Int32)) dX3_hasTurbine_16 (by decide) ?_
      exact zz_zreturn F dX3_hasTurbine_17 rfl rfl (hκ _)
    · refine zz_iconst F (v := (1 : Int32)) dX3_hasTurbine_12 (by decide) ?_
      refine zz_goto F (tgt := 17) dX3_hasTurbine_13 (by decide) ?_
      exact zz_zreturn F dX3_hasTurbine_17 rfl rfl (hκ _)
theorem zfSe_hasTurbine (a1 : Int32)  (s0 : zM) : ∀ a, fSe_hasTurbine a1 s0 = some a → zMet yX3_hasTurbine cX3_hasTurbine 2 (some .boolean) 0 0 [(0, [])] [zr 0 0 0, zi a1] [s0] ((fun a => ((.inl ((fun q => some (zi q)) a), (fun _ => [s0]) a) : zO)) a) := fun a ha => zMet_of (L0 := [some (zr 0 0 0), some (zi a1)]) (φ := Option.bind (fSe_hasTurbine a1 s0) (fun a => some ((fun a => ((.inl ((fun q => some (zi q)) a), (fun _ => [s0]) a) : zO)) a))) (by decide) (fun _ => Nat.le_of_ble_eq_true rfl) (zl0 0 rfl) (fun X F => bfSe_hasTurbine F a1 s0 (fun _ => rfl)) (by rw [ha]; rfl)

theorem dX3_work_0 : decode cX3_work 0 = .ok (.aload_n 1, 1) := by decide +kernel
theorem dX3_work_1 : decode cX3_work 1 = .ok (.getfield 199, 3) := by decide +kernel
theorem dX3_work_4 : decode cX3_work 4 = .ok (.ifCond .ne 4, 3) := by decide +kernel
theorem dX3_work_7 : decode cX3_work 7 = .ok (.return_, 1) := by decide +kernel
theorem dX3_work_8 : decode cX3_work 8 = .ok (.aload_n 0, 1) := by decide +kernel
theorem dX3_work_9 : decode cX3_work 9 = .ok (.getfield 32, 3) := by decide +kernel
theorem dX3_work_12 : decode cX3_work 12 = .ok (.getfield 203, 3) := by decide +kernel
theorem dX3_work_15 : decode cX3_work 15 = .ok (.aload_n 1, 1) := by decide +kernel
theorem dX3_work_16 : decode cX3_work 16 = .ok (.getfield 71, 3) := by decide +kernel
theorem dX3_work_19 : decode cX3_work 19 = .ok (.bipush 10, 2) := by decide +kernel
theorem dX3_work_21 : decode cX3_work 21 = .ok (.iadd, 1) := by decide +kernel
theorem dX3_work_22 : decode cX3_work 22 = .ok (.if_icmp .le 13, 3) := by decide +kernel
theorem dX3_work_25 : decode cX3_work 25 = .ok (.aload_n 1, 1) := by decide +kernel
theorem dX3_work_26 : decode cX3_work 26 = .ok (.dup, 1) := by decide +kernel
theorem dX3_work_27 : decode cX3_work 27 = .ok (.getfield 206, 3) := by decide +kernel
theorem dX3_work_30 : decode cX3_work 30 = .ok (.iconst 1, 1) := by decide +kernel
theorem dX3_work_31 : decode cX3_work 31 = .ok (.iadd, 1) := by decide +kernel
theorem dX3_work_32 : decode cX3_work 32 = .ok (.putfield 206, 3) := by decide +kernel
theorem dX3_work_35 : decode cX3_work 35 = .ok (.aload_n 1, 1) := by decide +kernel
theorem dX3_work_36 : decode cX3_work 36 = .ok (.getfield 209, 3) := by decide +kernel
theorem dX3_work_39 : decode cX3_work 39 = .ok (.istore_n 2, 1) := by decide +kernel
theorem dX3_work_40 : decode cX3_work 40 = .ok (.aload_n 1, 1) := by decide +kernel
theorem dX3_work_41 : decode cX3_work 41 = .ok (.invokevirtual 212, 3) := by decide +kernel
theorem dX3_work_44 : decode cX3_work 44 = .ok (.ifCond .eq 48, 3) := by decide +kernel
theorem dX3_work_47 : decode cX3_work 47 = .ok (.aload_n 0, 1) := by decide +kernel
theorem dX3_work_48 : decode cX3_work 48 = .ok (.aload_n 1, 1) := by decide +kernel
theorem dX3_work_49 : decode cX3_work 49 = .ok (.getfield 96, 3) := by decide +kernel
theorem dX3_work_52 : decode cX3_work 52 = .ok (.invokevirtual 216, 3) := by decide +kernel
theorem dX3_work_55 : decode cX3_work 55 = .ok (.ifCond .eq 37, 3) := by decide +kernel
theorem dX3_work_58 : decode cX3_work 58 = .ok (.iload_n 2, 1) := by decide +kernel
theorem dX3_work_59 : decode cX3_work 59 = .ok (.ifCond .lt 33, 3) := by decide +kernel
theorem dX3_work_62 : decode cX3_work 62 = .ok (.iload_n 2, 1) := by decide +kernel
theorem dX3_work_63 : decode cX3_work 63 = .ok (.iconst 3, 1) := by decide +kernel
theorem dX3_work_64 : decode cX3_work 64 = .ok (.if_icmp .ge 28, 3) := by decide +kernel
theorem dX3_work_67 : decode cX3_work 67 = .ok (.aload_n 0, 1) := by decide +kernel
theorem dX3_work_68 : decode cX3_work 68 = .ok (.getfield 11, 3) := by decide +kernel
theorem dX3_work_71 : decode cX3_work 71 = .ok (.aload_n 1, 1) := by decide +kernel
theorem dX3_work_72 : decode cX3_work 72 = .ok (.getfield 96, 3) := by decide +kernel
theorem dX3_work_75 : decode cX3_work 75 = .ok (.aaload, 1) := by decide +kernel
theorem dX3_work_76 : decode cX3_work 76 = .ok (.getfield 220, 3) := by decide +kernel
theorem dX3_work_79 : decode cX3_work 79 = .ok (.iload_n 2, 1) := by decide +kernel
theorem dX3_work_80 : decode cX3_work 80 = .ok (.iconst 0, 1) := by decide +kernel
theorem dX3_work_81 : decode cX3_work 81 = .ok (.iastore, 1) := by decide +kernel
theorem dX3_work_82 : decode cX3_work 82 = .ok (.aload_n 0, 1) := by decide +kernel
theorem dX3_work_83 : decode cX3_work 83 = .ok (.dup, 1) := by decide +kernel
theorem dX3_work_84 : decode cX3_work 84 = .ok (.getfield 77, 3) := by decide +kernel
theorem dX3_work_87 : decode cX3_work 87 = .ok (.iconst 1, 1) := by decide +kernel
theorem dX3_work_88 : decode cX3_work 88 = .ok (.iadd, 1) := by decide +kernel
theorem dX3_work_89 : decode cX3_work 89 = .ok (.putfield 77, 3) := by decide +kernel
theorem dX3_work_92 : decode cX3_work 92 = .ok (.return_, 1) := by decide +kernel
theorem wfRX3_199 : zFl RX3 199 6 2 := ⟨_, rfl, by decide, zm_f 257 (by decide +kernel) rfl⟩
theorem wfRX3_203 : zFl RX3 203 7 2 := ⟨_, rfl, by decide, zm_f 90 (by decide +kernel) rfl⟩
theorem wfRX3_71 : zFl RX3 71 6 0 := ⟨_, rfl, by decide, zm_f 250 (by decide +kernel) rfl⟩
theorem wfRX3_206 : zFl RX3 206 6 5 := ⟨_, rfl, by decide, zm_f 264 (by decide +kernel) rfl⟩
theorem wpRX3_206 : zFw RX3 206 6 5 .int := ⟨_, rfl, by decide, zm_f 264 (by decide +kernel) rfl, rfl, by decide +kernel⟩
theorem wfRX3_209 : zFl RX3 209 6 3 := ⟨_, rfl, by decide, zm_f 259 (by decide +kernel) rfl⟩
theorem wcRX3_212 : Cond.methodLink RX3 212 yX6_finishes ∈ zTg ∧ Cond.instanceMethod yX6_finishes ∈ zTg ∧ Cond.selects RX6 yX6_finishes yX6_finishes ∈ zTg ∧ Cond.initialized RX6 ∈ zTg ∧ Cond.code yX6_finishes cX6_finishes 1 (some .boolean) ∈ zTg := ⟨zm_f 711 (by decide +kernel) rfl, zm_f 712 (by decide +kernel) rfl, zm_f 713 (by decide +kernel) rfl, zm_f 44 (by decide +kernel) rfl, zm_f 714 (by decide +kernel) rfl⟩
theorem wy_yX6_finishes : yX6_finishes.cls = RX6 ∧ yX6_finishes.cls ≠ "java/lang/invoke/MethodHandle" ∧ yX6_finishes.cls ≠ "java/lang/invoke/VarHandle" ∧ (parseMethodDescriptor yX6_finishes.desc).map (fun d => d.parameters.length) = some 0 := by decide +kernel
theorem wfRX3_96 : zFl RX3 96 6 1 := ⟨_, rfl, by decide, zm_f 253 (by decide +kernel) rfl⟩
theorem wcRX3_216 : Cond.methodLink RX3 216 yX3_hasTurbine ∈ zTg ∧ Cond.instanceMethod yX3_hasTurbine ∈ zTg ∧ Cond.selects RX3 yX3_hasTurbine yX3_hasTurbine ∈ zTg ∧ Cond.initialized RX3 ∈ zTg ∧ Cond.code yX3_hasTurbine cX3_hasTurbine 2 (some .boolean) ∈ zTg := ⟨zm_f 715 (by decide +kernel) rfl, zm_f 501 (by decide +kernel) rfl, zm_f 502 (by decide +kernel) rfl, zm_f 38 (by decide +kernel) rfl, zm_f 503 (by decide +kernel) rfl⟩
theorem wy_yX3_hasTurbine : yX3_hasTurbine.cls = RX3 ∧ yX3_hasTurbine.cls ≠ "java/lang/invoke/MethodHandle" ∧ yX3_hasTurbine.cls ≠ "java/lang/invoke/VarHandle" ∧ (parseMethodDescriptor yX3_hasTurbine.desc).map (fun d => d.parameters.length) = some 1 := by decide +kernel
theorem wfRX3_220 : zFl RX3 220 5 11 := ⟨_, rfl, by decide, zm_f 190 (by decide +kernel) rfl⟩
theorem wfRX3_77 : zFl RX3 77 3 10 := ⟨_, rfl, by decide, zm_f 301 (by decide +kernel) rfl⟩
theorem wpRX3_77 : zFw RX3 77 3 10 .int := ⟨_, rfl, by decide, zm_f 301 (by decide +kernel) rfl, rfl, by decide +kernel⟩
def fSe_work (i : Nat) (s0 : zM) : Option (zM) :=
  if (s0 13 i 2 &&& 1) = 0 then
  some s0
else
  Option.bind (if (s0 4 0 2) ≤ ((s0 13 i 0) + (10 : Int32)) then
    some s0
  else
    zlet (zu s0 13 i 5 ((s0 13 i 5) + (1 : Int32))) fun s0_5 =>
      some s0_5) fun q1 =>
    zlet ((q1 13 i 3)) fun v6 =>
    Option.bind (fVe_finishes i q1) fun q7 =>
    if q7.1 = 0 then
    some q7.2
  else
    Option.bind (fSe_hasTurbine (q7.2 13 i 1) q7.2) fun q8 =>
      if q8 = 0 then
      some q7.2
    else
      if v6 < 0 then
        some q7.2
      else
        if (3 : Int32) ≤ v6 then
          some q7.2
        else
          zix (q7.2 13 i 1) 8 fun j9 =>
            zix v6 3 fun j10 =>
            zlet (zu q7.2 8 j9 j10 (0 : Int32)) fun s0_11 =>
            zlet (zu s0_11 0 0 10 ((s0_11 0 0 10) + (1 : Int32))) fun s0_12 =>
            some s0_12
set_option maxHeartbeats 4000000 in
set_option maxRecDepth 20000 in
theorem bfSe_work {X : zX} (F : zFr X cX3_work 3 RX3 none) (i : Nat) (hi : i < 3) (s0 : zM) {κ : zM → Option zO} (hκ : ∀ a, κ a = some ((fun a => ((.inl ((fun _ => (none : Option zV)) a), (fun q => [q]) a) : zO)) a)) : zZ X [(0, [])] 1 21 3 0 [some (zr 0 0 0), some (zr 0 13 i), none] [] [s0] (Option.bind (fSe_work i s0) κ) := by
  unfold fSe_work
  refine zz_aload_n F (i := 1) dX3_work_0 rfl rfl ?_
  refine zz_getb F dX3_work_1 wfRX3_199 zCl_6 rfl (⟨zlb rfl, zlb rfl, hi⟩) rfl (by decide) rfl rfl ?_
  refine zz_if_ne F (tgt := 8) dX3_work_4 (by decide) (fun h => zz_f h ?_) (fun h => zz_t h ?_)
  · refine zz_aload_n F (i := 0) dX3_work_8 rfl rfl ?_
    refine zz_getr F dX3_work_9 wfRX3_32 zCl_3 rfl (⟨zlb rfl, zlb rfl, zlb rfl⟩) rfl (by decide) rfl (r' := 0) (by decide) ?_
    refine zz_getf F dX3_work_12 wfRX3_203 zCl_7 rfl (⟨zlb rfl, zlb rfl, zlb rfl⟩) rfl (by decide) rfl rfl ?_
    refine zz_aload_n F (i := 1) dX3_work_15 rfl rfl ?_
    refine zz_getf F dX3_work_16 wfRX3_71 zCl_6 rfl (⟨zlb rfl, zlb rfl, hi⟩) rfl (by decide) rfl rfl ?_
    refine zz_bipush F (v := (10 : Int32)) dX3_work_19 (by decide) ?_
    refine zz_iadd F dX3_work_21 ?_
    refine zz_join (pj := 35) (Lj := fun q1 => [some (zr 0 0 0), some (zr 0 13 i), none]) (Sj := fun q1 => []) (Mj := fun q1 => [q1]) (fun q1 => ?_) (fun κ3 hj2 => ?_)
    · refine zz_aload_n F (i := 1) dX3_work_35 rfl rfl ?_
      refine zz_getf F dX3_work_36 wfRX3_209 zCl_6 rfl (⟨zlb rfl, zlb rfl, hi⟩) rfl (by decide) rfl rfl ?_
      refine zz_istore_n F (i := 2) (L' := [some (zr 0 0 0), some (zr 0 13 i), some (zi (q1 13 i 3))]) dX3_work_39 rfl (by decide) rfl rfl ?_
      refine zz_letl (Lf := fun v6 => [some (zr 0 0 0), some (zr 0 13 i), some (zi v6)]) fun v6 => ?_
      refine zz_aload_n F (i := 1) dX3_work_40 rfl rfl ?_
      refine zz_bind ?_
      refine zz_callVr F (ρ := [0]) (so := fun q7 => [zi q7.1]) (Mo := fun q7 => [q7.2]) (zfVe_finishes i hi q1) dX3_work_41 wcRX3_212 wy_yX6_finishes rfl ⟨rel3, rfl, rfl, Nat.le_of_ble_eq_true rfl, Nat.le_of_ble_eq_true rfl, Nat.le_of_ble_eq_true rfl⟩ (⟨zlb rfl, zlb rfl, hi⟩) rfl rfl rfl (fun _ => rfl) (fun _ => rfl) fun q7 => ?_
      refine zz_if_eq F (tgt := 92) dX3_work_44 (by decide) (fun h => zz_t h ?_) (fun h => zz_f h ?_)
      · exact zz_return F dX3_work_92 rfl (hκ _)
      · refine zz_aload_n F (i := 0) dX3_work_47 rfl rfl ?_
        refine zz_aload_n F (i := 1) dX3_work_48 rfl rfl ?_
        refine zz_getf F dX3_work_49 wfRX3_96 zCl_6 rfl (⟨zlb rfl, zlb rfl, hi⟩) rfl (by decide) rfl rfl ?_
        refine zz_bind ?_
        refine zz_callVr F (ρ := [0]) (so := fun q8 => [zi q8]) (Mo := fun q8 => [q7.2]) (zfSe_hasTurbine (q7.2 13 i 1) q7.2) dX3_work_52 wcRX3_216 wy_yX3_hasTurbine rfl ⟨rel3, rfl, rfl, Nat.le_of_ble_eq_true rfl, Nat.le_of_ble_eq_true rfl, Nat.le_of_ble_eq_true rfl⟩ (⟨zlb rfl, zlb rfl, zlb rfl⟩) rfl rfl rfl (fun _ => rfl) (fun _ => rfl) fun q8 => ?_
        refine zz_if_eq F (tgt := 92) dX3_work_55 (by decide) (fun h => zz_t h ?_) (fun h => zz_f h ?_)
        · exact zz_return F dX3_work_92 rfl (hκ _)
        · refine zz_iload_n F (i := 2) dX3_work_58 rfl rfl ?_
          refine zz_if_lt F (tgt := 92) dX3_work_59 (by decide) (fun h => zz_t h ?_) (fun h => zz_f h ?_)
          · exact zz_return F dX3_work_92 rfl (hκ _)
          · refine zz_iload_n F (i := 2) dX3_work_62 rfl rfl ?_
            refine zz_iconst F (v := (3 : Int32)) dX3_work_63 (by decide) ?_
            refine zz_icmp_ge F (tgt := 92) dX3_work_64 (by decide) (fun h => zz_t h ?_) (fun h => zz_f h ?_)
            · exact zz_return F dX3_work_92 rfl (hκ _)
            · refine zz_aload_n F (i := 0) dX3_work_67 rfl rfl ?_
              refine zz_getr F dX3_work_68 wfRX3_11 zCl_3 rfl (⟨zlb rfl, zlb rfl, zlb rfl⟩) rfl (by decide) rfl (r' := 0) (by decide) ?_
              refine zz_aload_n F (i := 1) dX3_work_71 rfl rfl ?_
              refine zz_getf F dX3_work_72 wfRX3_96 zCl_6 rfl (⟨zlb rfl, zlb rfl, hi⟩) rfl (by decide) rfl rfl ?_
              refine zz_ix fun j9 hj9 hinj9 hej9 => zz_aal F dX3_work_75 rfl (⟨zlb rfl, zlb rfl, zlb rfl⟩) rfl (by decide) rfl hinj9 hej9 rfl ?_
              refine zz_getr F dX3_work_76 wfRX3_220 zCl_5 rfl (⟨zlb rfl, zlb rfl, hj9⟩) rfl (by decide) rfl (r' := 0) (by decide) ?_
              refine zz_iload_n F (i := 2) dX3_work_79 rfl rfl ?_
              refine zz_iconst F (v := (0 : Int32)) dX3_work_80 (by decide) ?_
              refine zz_ix fun j10 hj10 hinj10 hej10 => zz_ias F (Ms' := [(zu q7.2 8 j9 j10 (0 : Int32))]) dX3_work_81 rfl (⟨zlb rfl, zlb rfl, hj9⟩) rfl hinj10 hej10 rfl ?_
              refine zz_letm (Mf := fun s0_11 => [s0_11]) fun s0_11 => ?_
              refine zz_aload_n F (i := 0) dX3_work_82 rfl rfl ?_
              refine zz_dup F dX3_work_83 rfl ?_
              refine zz_getf F dX3_work_84 wfRX3_77 zCl_3 rfl (⟨zlb rfl, zlb rfl, zlb rfl⟩) rfl (by decide) rfl rfl ?_
              refine zz_iconst F (v := (1 : Int32)) dX3_work_87 (by decide) ?_
              refine zz_iadd F dX3_work_88 ?_
              refine zz_put F (Ms' := [(zu s0_11 0 0 10 ((s0_11 0 0 10) + (1 : Int32)))]) dX3_work_89 wpRX3_77 zCl_3 rfl (⟨zlb rfl, zlb rfl, zlb rfl⟩) rfl (by decide) rfl rfl rfl ?_
              refine zz_letm (Mf := fun s0_12 => [s0_12]) fun s0_12 => ?_
              exact zz_return F dX3_work_92 rfl (hκ _)
    · refine zz_icmp_le F (tgt := 35) dX3_work_22 (by decide) (fun h => zz_t h ?_) (fun h => zz_f h ?_)
      · exact zz_sub (zs_k (zs_k (zs_k zs_z))) (hj2 s0)
      · refine zz_aload_n F (i := 1) dX3_work_25 rfl rfl ?_
        refine zz_dup F dX3_work_26 rfl ?_
        refine zz_getf F dX3_work_27 wfRX3_206 zCl_6 rfl (⟨zlb rfl, zlb rfl, hi⟩) rfl (by decide) rfl rfl ?_
        refine zz_iconst F (v := (1 : Int32)) dX3_work_30 (by decide) ?_
        refine zz_iadd F dX3_work_31 ?_
        refine zz_put F (Ms' := [(zu s0 13 i 5 ((s0 13 i 5) + (1 : Int32)))]) dX3_work_32 wpRX3_206 zCl_6 rfl (⟨zlb rfl, zlb rfl, hi⟩) rfl (by decide) rfl rfl rfl ?_
        refine zz_letm (Mf := fun s0_5 => [s0_5]) fun s0_5 => ?_
        exact zz_sub (zs_k (zs_k (zs_k zs_z))) (hj2 s0_5)
  · exact zz_return F dX3_work_7 rfl (hκ _)
theorem zfSe_work (i : Nat) (hi : i < 3) (s0 : zM) : ∀ a, fSe_work i s0 = some a → zMet yX3_work cX3_work 3 none 1 21 [(0, [])] [zr 0 0 0, zr 0 13 i] [s0] ((fun a => ((.inl ((fun _ => (none : Option zV)) a), (fun q => [q]) a) : zO)) a) := fun a ha => zMet_of (L0 := [some (zr 0 0 0), some (zr 0 13 i), none]) (φ := Option.bind (fSe_work i s0) (fun a => some ((fun a => ((.inl ((fun _ => (none : Option zV)) a), (fun q => [q]) a) : zO)) a))) (by decide) (fun _ => Nat.le_of_ble_eq_true rfl) (zl0 1 rfl) (fun X F => bfSe_work F i hi s0 (fun _ => rfl)) (by rw [ha]; rfl)

theorem dX3_passHour_0 : decode cX3_passHour 0 = .ok (.aload_n 0, 1) := by decide +kernel
theorem dX3_passHour_1 : decode cX3_passHour 1 = .ok (.dup, 1) := by decide +kernel
theorem dX3_passHour_2 : decode cX3_passHour 2 = .ok (.getfield 74, 3) := by decide +kernel
theorem dX3_passHour_5 : decode cX3_passHour 5 = .ok (.iconst 1, 1) := by decide +kernel
theorem dX3_passHour_6 : decode cX3_passHour 6 = .ok (.iadd, 1) := by decide +kernel
theorem dX3_passHour_7 : decode cX3_passHour 7 = .ok (.putfield 74, 3) := by decide +kernel
theorem dX3_passHour_10 : decode cX3_passHour 10 = .ok (.iconst 0, 1) := by decide +kernel
theorem dX3_passHour_11 : decode cX3_passHour 11 = .ok (.istore_n 1, 1) := by decide +kernel
theorem dX3_passHour_12 : decode cX3_passHour 12 = .ok (.iload_n 1, 1) := by decide +kernel
theorem dX3_passHour_13 : decode cX3_passHour 13 = .ok (.aload_n 0, 1) := by decide +kernel
theorem dX3_passHour_14 : decode cX3_passHour 14 = .ok (.getfield 56, 3) := by decide +kernel
theorem dX3_passHour_17 : decode cX3_passHour 17 = .ok (.if_icmp .ge 26, 3) := by decide +kernel
theorem dX3_passHour_20 : decode cX3_passHour 20 = .ok (.aload_n 0, 1) := by decide +kernel
theorem dX3_passHour_21 : decode cX3_passHour 21 = .ok (.getfield 11, 3) := by decide +kernel
theorem dX3_passHour_24 : decode cX3_passHour 24 = .ok (.iload_n 1, 1) := by decide +kernel
theorem dX3_passHour_25 : decode cX3_passHour 25 = .ok (.aaload, 1) := by decide +kernel
theorem dX3_passHour_26 : decode cX3_passHour 26 = .ok (.aload_n 0, 1) := by decide +kernel
theorem dX3_passHour_27 : decode cX3_passHour 27 = .ok (.getfield 32, 3) := by decide +kernel
theorem dX3_passHour_30 : decode cX3_passHour 30 = .ok (.aload_n 0, 1) := by decide +kernel
theorem dX3_passHour_31 : decode cX3_passHour 31 = .ok (.getfield 43, 3) := by decide +kernel
theorem dX3_passHour_34 : decode cX3_passHour 34 = .ok (.invokevirtual 139, 3) := by decide +kernel
theorem dX3_passHour_37 : decode cX3_passHour 37 = .ok (.iinc 1 1, 3) := by decide +kernel
theorem dX3_passHour_40 : decode cX3_passHour 40 = .ok (.goto (-28), 3) := by decide +kernel
theorem dX3_passHour_43 : decode cX3_passHour 43 = .ok (.aload_n 0, 1) := by decide +kernel
theorem dX3_passHour_44 : decode cX3_passHour 44 = .ok (.getfield 32, 3) := by decide +kernel
theorem dX3_passHour_47 : decode cX3_passHour 47 = .ok (.getfield 143, 3) := by decide +kernel
theorem dX3_passHour_50 : decode cX3_passHour 50 = .ok (.invokestatic 146, 3) := by decide +kernel
theorem dX3_passHour_53 : decode cX3_passHour 53 = .ok (.istore_n 1, 1) := by decide +kernel
theorem dX3_passHour_54 : decode cX3_passHour 54 = .ok (.iconst 0, 1) := by decide +kernel
theorem dX3_passHour_55 : decode cX3_passHour 55 = .ok (.istore_n 2, 1) := by decide +kernel
theorem dX3_passHour_56 : decode cX3_passHour 56 = .ok (.iload_n 2, 1) := by decide +kernel
theorem dX3_passHour_57 : decode cX3_passHour 57 = .ok (.aload_n 0, 1) := by decide +kernel
theorem dX3_passHour_58 : decode cX3_passHour 58 = .ok (.getfield 56, 3) := by decide +kernel
theorem dX3_passHour_61 : decode cX3_passHour 61 = .ok (.if_icmp .ge 34, 3) := by decide +kernel
theorem dX3_passHour_64 : decode cX3_passHour 64 = .ok (.aload_n 0, 1) := by decide +kernel
theorem dX3_passHour_65 : decode cX3_passHour 65 = .ok (.getfield 11, 3) := by decide +kernel
theorem dX3_passHour_68 : decode cX3_passHour 68 = .ok (.iload_n 2, 1) := by decide +kernel
theorem dX3_passHour_69 : decode cX3_passHour 69 = .ok (.aaload, 1) := by decide +kernel
theorem dX3_passHour_70 : decode cX3_passHour 70 = .ok (.aload_n 0, 1) := by decide +kernel
theorem dX3_passHour_71 : decode cX3_passHour 71 = .ok (.getfield 32, 3) := by decide +kernel
theorem dX3_passHour_74 : decode cX3_passHour 74 = .ok (.getfield 143, 3) := by decide +kernel
theorem dX3_passHour_77 : decode cX3_passHour 77 = .ok (.aload_n 0, 1) := by decide +kernel
theorem dX3_passHour_78 : decode cX3_passHour 78 = .ok (.iload_n 2, 1) := by decide +kernel
theorem dX3_passHour_79 : decode cX3_passHour 79 = .ok (.invokevirtual 150, 3) := by decide +kernel
theorem dX3_passHour_82 : decode cX3_passHour 82 = .ok (.invokestatic 153, 3) := by decide +kernel
theorem dX3_passHour_85 : decode cX3_passHour 85 = .ok (.iload_n 1, 1) := by decide +kernel
theorem dX3_passHour_86 : decode cX3_passHour 86 = .ok (.invokevirtual 156, 3) := by decide +kernel
theorem dX3_passHour_89 : decode cX3_passHour 89 = .ok (.iinc 2 1, 3) := by decide +kernel
theorem dX3_passHour_92 : decode cX3_passHour 92 = .ok (.goto (-36), 3) := by decide +kernel
theorem dX3_passHour_95 : decode cX3_passHour 95 = .ok (.aload_n 0, 1) := by decide +kernel
theorem dX3_passHour_96 : decode cX3_passHour 96 = .ok (.invokevirtual 160, 3) := by decide +kernel
theorem dX3_passHour_99 : decode cX3_passHour 99 = .ok (.aload_n 0, 1) := by decide +kernel
theorem dX3_passHour_100 : decode cX3_passHour 100 = .ok (.iconst (-1), 1) := by decide +kernel
theorem dX3_passHour_101 : decode cX3_passHour 101 = .ok (.aload_n 0, 1) := by decide +kernel
theorem dX3_passHour_102 : decode cX3_passHour 102 = .ok (.getfield 32, 3) := by decide +kernel
theorem dX3_passHour_105 : decode cX3_passHour 105 = .ok (.getfield 163, 3) := by decide +kernel
theorem dX3_passHour_108 : decode cX3_passHour 108 = .ok (.bipush 7, 2) := by decide +kernel
theorem dX3_passHour_110 : decode cX3_passHour 110 = .ok (.invokevirtual 166, 3) := by decide +kernel
theorem dX3_passHour_113 : decode cX3_passHour 113 = .ok (.istore_n 2, 1) := by decide +kernel
theorem dX3_passHour_114 : decode cX3_passHour 114 = .ok (.aload_n 0, 1) := by decide +kernel
theorem dX3_passHour_115 : decode cX3_passHour 115 = .ok (.getfield 39, 3) := by decide +kernel
theorem dX3_passHour_118 : decode cX3_passHour 118 = .ok (.iload_n 1, 1) := by decide +kernel
theorem dX3_passHour_119 : decode cX3_passHour 119 = .ok (.aload_n 0, 1) := by decide +kernel
theorem dX3_passHour_120 : decode cX3_passHour 120 = .ok (.getfield 56, 3) := by decide +kernel
theorem dX3_passHour_123 : decode cX3_passHour 123 = .ok (.imul, 1) := by decide +kernel
theorem dX3_passHour_124 : decode cX3_passHour 124 = .ok (.iload_n 2, 1) := by decide +kernel
theorem dX3_passHour_125 : decode cX3_passHour 125 = .ok (.aload_n 0, 1) := by decide +kernel
theorem dX3_passHour_126 : decode cX3_passHour 126 = .ok (.getfield 32, 3) := by decide +kernel
theorem dX3_passHour_129 : decode cX3_passHour 129 = .ok (.getfield 170, 3) := by decide +kernel
theorem dX3_passHour_132 : decode cX3_passHour 132 = .ok (.invokevirtual 173, 3) := by decide +kernel
theorem dX3_passHour_135 : decode cX3_passHour 135 = .ok (.iconst 0, 1) := by decide +kernel
theorem dX3_passHour_136 : decode cX3_passHour 136 = .ok (.istore_n 3, 1) := by decide +kernel
theorem dX3_passHour_137 : decode cX3_passHour 137 = .ok (.iload_n 3, 1) := by decide +kernel
theorem dX3_passHour_138 : decode cX3_passHour 138 = .ok (.aload_n 0, 1) := by decide +kernel
theorem dX3_passHour_139 : decode cX3_passHour 139 = .ok (.getfield 56, 3) := by decide +kernel
theorem dX3_passHour_142 : decode cX3_passHour 142 = .ok (.if_icmp .ge 18, 3) := by decide +kernel
theorem dX3_passHour_145 : decode cX3_passHour 145 = .ok (.aload_n 0, 1) := by decide +kernel
theorem dX3_passHour_146 : decode cX3_passHour 146 = .ok (.getfield 11, 3) := by decide +kernel
theorem dX3_passHour_149 : decode cX3_passHour 149 = .ok (.iload_n 3, 1) := by decide +kernel
theorem dX3_passHour_150 : decode cX3_passHour 150 = .ok (.aaload, 1) := by decide +kernel
theorem dX3_passHour_151 : decode cX3_passHour 151 = .ok (.invokevirtual 177, 3) := by decide +kernel
theorem dX3_passHour_154 : decode cX3_passHour 154 = .ok (.iinc 3 1, 3) := by decide +kernel
theorem dX3_passHour_157 : decode cX3_passHour 157 = .ok (.goto (-20), 3) := by decide +kernel
theorem dX3_passHour_160 : decode cX3_passHour 160 = .ok (.iconst 0, 1) := by decide +kernel
theorem dX3_passHour_161 : decode cX3_passHour 161 = .ok (.istore_n 3, 1) := by decide +kernel
theorem dX3_passHour_162 : decode cX3_passHour 162 = .ok (.iload_n 3, 1) := by decide +kernel
theorem dX3_passHour_163 : decode cX3_passHour 163 = .ok (.aload_n 0, 1) := by decide +kernel
theorem dX3_passHour_164 : decode cX3_passHour 164 = .ok (.getfield 68, 3) := by decide +kernel
theorem dX3_passHour_167 : decode cX3_passHour 167 = .ok (.if_icmp .ge 19, 3) := by decide +kernel
theorem dX3_passHour_170 : decode cX3_passHour 170 = .ok (.aload_n 0, 1) := by decide +kernel
theorem dX3_passHour_171 : decode cX3_passHour 171 = .ok (.aload_n 0, 1) := by decide +kernel
theorem dX3_passHour_172 : decode cX3_passHour 172 = .ok (.getfield 25, 3) := by decide +kernel
theorem dX3_passHour_175 : decode cX3_passHour 175 = .ok (.iload_n 3, 1) := by decide +kernel
theorem dX3_passHour_176 : decode cX3_passHour 176 = .ok (.aaload, 1) := by decide +kernel
theorem dX3_passHour_177 : decode cX3_passHour 177 = .ok (.invokevirtual 180, 3) := by decide +kernel
theorem dX3_passHour_180 : decode cX3_passHour 180 = .ok (.iinc 3 1, 3) := by decide +kernel
theorem dX3_passHour_183 : decode cX3_passHour 183 = .ok (.goto (-21), 3) := by decide +kernel
theorem dX3_passHour_186 : decode cX3_passHour 186 = .ok (.iload_n 2, 1) := by decide +kernel
theorem dX3_passHour_187 : decode cX3_passHour 187 = .ok (.ireturn, 1) := by decide +kernel
theorem wfRX3_74 : zFl RX3 74 3 8 := ⟨_, rfl, by decide, zm_f 298 (by decide +kernel) rfl⟩
theorem wpRX3_74 : zFw RX3 74 3 8 .int := ⟨_, rfl, by decide, zm_f 298 (by decide +kernel) rfl, rfl, by decide +kernel⟩
theorem wfRX3_43 : zFl RX3 43 3 9 := ⟨_, rfl, by decide, zm_f 299 (by decide +kernel) rfl⟩
theorem wcRX3_139 : Cond.methodLink RX3 139 yX5_settle ∈ zTg ∧ Cond.instanceMethod yX5_settle ∈ zTg ∧ Cond.selects RX5 yX5_settle yX5_settle ∈ zTg ∧ Cond.initialized RX5 ∈ zTg ∧ Cond.code yX5_settle cX5_settle 5 none ∈ zTg := ⟨zm_f 605 (by decide +kernel) rfl, zm_f 606 (by decide +kernel) rfl, zm_f 607 (by decide +kernel) rfl, zm_f 41 (by decide +kernel) rfl, zm_f 608 (by decide +kernel) rfl⟩
theorem wy_yX5_settle : yX5_settle.cls = RX5 ∧ yX5_settle.cls ≠ "java/lang/invoke/MethodHandle" ∧ yX5_settle.cls ≠ "java/lang/invoke/VarHandle" ∧ (parseMethodDescriptor yX5_settle.desc).map (fun d => d.parameters.length) = some 2 := by decide +kernel
theorem wfRX3_143 : zFl RX3 143 7 1 := ⟨_, rfl, by decide, zm_f 87 (by decide +kernel) rfl⟩
theorem wcRX3_146 : Cond.methodLink RX3 146 yX7_power ∈ zTg ∧ Cond.static yX7_power ∈ zTg ∧ Cond.initialized yX7_power.cls ∈ zTg ∧ Cond.code yX7_power cX7_power 1 (some .int) ∈ zTg := ⟨zm_f 631 (by decide +kernel) rfl, zm_f 396 (by decide +kernel) rfl, zm_f 55 (by decide +kernel) rfl, zm_f 397 (by decide +kernel) rfl⟩
theorem wcRX3_150 : Cond.methodLink RX3 150 yX3_deficitOf ∈ zTg ∧ Cond.instanceMethod yX3_deficitOf ∈ zTg ∧ Cond.selects RX3 yX3_deficitOf yX3_deficitOf ∈ zTg ∧ Cond.initialized RX3 ∈ zTg ∧ Cond.code yX3_deficitOf cX3_deficitOf 6 (some .int) ∈ zTg := ⟨zm_f 632 (by decide +kernel) rfl, zm_f 521 (by decide +kernel) rfl, zm_f 522 (by decide +kernel) rfl, zm_f 38 (by decide +kernel) rfl, zm_f 523 (by decide +kernel) rfl⟩
theorem wy_yX3_deficitOf : yX3_deficitOf.cls = RX3 ∧ yX3_deficitOf.cls ≠ "java/lang/invoke/MethodHandle" ∧ yX3_deficitOf.cls ≠ "java/lang/invoke/VarHandle" ∧ (parseMethodDescriptor yX3_deficitOf.desc).map (fun d => d.parameters.length) = some 1 := by decide +kernel
theorem wcRX3_153 : Cond.methodLink RX3 153 yX7_wind ∈ zTg ∧ Cond.static yX7_wind ∈ zTg ∧ Cond.initialized yX7_wind.cls ∈ zTg ∧ Cond.code yX7_wind cX7_wind 2 (some .int) ∈ zTg := ⟨zm_f 633 (by decide +kernel) rfl, zm_f 393 (by decide +kernel) rfl, zm_f 55 (by decide +kernel) rfl, zm_f 394 (by decide +kernel) rfl⟩
theorem wy_yX7_wind : yX7_wind.cls ≠ "java/lang/invoke/MethodHandle" ∧ yX7_wind.cls ≠ "java/lang/invoke/VarHandle" ∧ (parseMethodDescriptor yX7_wind.desc).map (fun d => d.parameters.length) = some 2 := by decide +kernel
theorem wcRX3_156 : Cond.methodLink RX3 156 yX5_take ∈ zTg ∧ Cond.instanceMethod yX5_take ∈ zTg ∧ Cond.selects RX5 yX5_take yX5_take ∈ zTg ∧ Cond.initialized RX5 ∈ zTg ∧ Cond.code yX5_take cX5_take 3 none ∈ zTg := ⟨zm_f 634 (by decide +kernel) rfl, zm_f 635 (by decide +kernel) rfl, zm_f 636 (by decide +kernel) rfl, zm_f 41 (by decide +kernel) rfl, zm_f 637 (by decide +kernel) rfl⟩
theorem wy_yX5_take : yX5_take.cls = RX5 ∧ yX5_take.cls ≠ "java/lang/invoke/MethodHandle" ∧ yX5_take.cls ≠ "java/lang/invoke/VarHandle" ∧ (parseMethodDescriptor yX5_take.desc).map (fun d => d.parameters.length) = some 2 := by decide +kernel
theorem wcRX3_160 : Cond.methodLink RX3 160 yX3_loadStrings ∈ zTg ∧ Cond.instanceMethod yX3_loadStrings ∈ zTg ∧ Cond.selects RX3 yX3_loadStrings yX3_loadStrings ∈ zTg ∧ Cond.initialized RX3 ∈ zTg ∧ Cond.code yX3_loadStrings cX3_loadStrings 2 none ∈ zTg := ⟨zm_f 648 (by decide +kernel) rfl, zm_f 650 (by decide +kernel) rfl, zm_f 8 (by decide +kernel) rfl, zm_f 38 (by decide +kernel) rfl, zm_f 651 (by decide +kernel) rfl⟩
theorem wy_yX3_loadStrings : yX3_loadStrings.cls = RX3 ∧ yX3_loadStrings.cls ≠ "java/lang/invoke/MethodHandle" ∧ yX3_loadStrings.cls ≠ "java/lang/invoke/VarHandle" ∧ (parseMethodDescriptor yX3_loadStrings.desc).map (fun d => d.parameters.length) = some 0 := by decide +kernel
theorem wfRX3_163 : zFl RX3 163 7 4 := ⟨_, rfl, by decide, zm_f 95 (by decide +kernel) rfl⟩
theorem wfRX3_39 : zFl RX3 39 3 4 := ⟨_, rfl, by decide, zm_f 288 (by decide +kernel) rfl⟩
theorem wfRX3_170 : zFl RX3 170 7 3 := ⟨_, rfl, by decide, zm_f 93 (by decide +kernel) rfl⟩
theorem wcRX3_173 : Cond.methodLink RX3 173 yX2_book ∈ zTg ∧ Cond.instanceMethod yX2_book ∈ zTg ∧ Cond.selects RX2 yX2_book yX2_book ∈ zTg ∧ Cond.initialized RX2 ∈ zTg ∧ Cond.code yX2_book cX2_book 5 none ∈ zTg := ⟨zm_f 669 (by decide +kernel) rfl, zm_f 670 (by decide +kernel) rfl, zm_f 671 (by decide +kernel) rfl, zm_f 40 (by decide +kernel) rfl, zm_f 672 (by decide +kernel) rfl⟩
theorem wy_yX2_book : yX2_book.cls = RX2 ∧ yX2_book.cls ≠ "java/lang/invoke/MethodHandle" ∧ yX2_book.cls ≠ "java/lang/invoke/VarHandle" ∧ (parseMethodDescriptor yX2_book.desc).map (fun d => d.parameters.length) = some 3 := by decide +kernel
theorem wcRX3_177 : Cond.methodLink RX3 177 yX5_wearOut ∈ zTg ∧ Cond.instanceMethod yX5_wearOut ∈ zTg ∧ Cond.selects RX5 yX5_wearOut yX5_wearOut ∈ zTg ∧ Cond.initialized RX5 ∈ zTg ∧ Cond.code yX5_wearOut cX5_wearOut 1 none ∈ zTg := ⟨zm_f 680 (by decide +kernel) rfl, zm_f 681 (by decide +kernel) rfl, zm_f 682 (by decide +kernel) rfl, zm_f 41 (by decide +kernel) rfl, zm_f 683 (by decide +kernel) rfl⟩
theorem wy_yX5_wearOut : yX5_wearOut.cls = RX5 ∧ yX5_wearOut.cls ≠ "java/lang/invoke/MethodHandle" ∧ yX5_wearOut.cls ≠ "java/lang/invoke/VarHandle" ∧ (parseMethodDescriptor yX5_wearOut.desc).map (fun d => d.parameters.length) = some 0 := by decide +kernel
theorem wcRX3_180 : Cond.methodLink RX3 180 yX3_work ∈ zTg ∧ Cond.instanceMethod yX3_work ∈ zTg ∧ Cond.selects RX3 yX3_work yX3_work ∈ zTg ∧ Cond.initialized RX3 ∈ zTg ∧ Cond.code yX3_work cX3_work 3 none ∈ zTg := ⟨zm_f 707 (by decide +kernel) rfl, zm_f 709 (by decide +kernel) rfl, zm_f 16 (by decide +kernel) rfl, zm_f 38 (by decide +kernel) rfl, zm_f 710 (by decide +kernel) rfl⟩
theorem wy_yX3_work : yX3_work.cls = RX3 ∧ yX3_work.cls ≠ "java/lang/invoke/MethodHandle" ∧ yX3_work.cls ≠ "java/lang/invoke/VarHandle" ∧ (parseMethodDescriptor yX3_work.desc).map (fun d => d.parameters.length) = some 1 := by decide +kernel
def fSe_passHour_l12  (q2 : Int32 × zM) : Option ((Int32 × zM) ⊕ ((zM))) :=
  if (q2.2 0 0 5) ≤ q2.1 then
  some (.inr q2.2)
else
  zix q2.1 8 fun j4 =>
    Option.bind (fTu_settle j4 (q2.2 0 0 9) q2.2) fun q5 =>
    zlet (q2.1 + 1) fun v6 =>
    some (.inl (v6, q5))
def fSe_passHour_l56 (q7 : (Int32)) (q8 : Int32 × zM) : Option ((Int32 × zM) ⊕ ((zM))) :=
  if (q8.2 0 0 5) ≤ q8.1 then
  some (.inr q8.2)
else
  zix q8.1 8 fun j10 =>
    Option.bind (fSe_deficitOf q8.1 q8.2) fun q11 =>
    Option.bind (fWa_wind (q8.2 4 0 1) q11) fun q12 =>
    Option.bind (fTu_take j10 q12 q7 q8.2) fun q13 =>
    zlet (q8.1 + 1) fun v14 =>
    some (.inl (v14, q13))
def fSe_passHour_l137  (q18 : Int32 × zM) : Option ((Int32 × zM) ⊕ ((zM))) :=
  if (q18.2 0 0 5) ≤ q18.1 then
  some (.inr q18.2)
else
  zix q18.1 8 fun j20 =>
    Option.bind (fTu_wearOut j20 q18.2) fun q21 =>
    zlet (q18.1 + 1) fun v22 =>
    some (.inl (v22, q21))
def fSe_passHour_l162  (q23 : Int32 × zM) : Option ((Int32 × zM) ⊕ ((zM))) :=
  if (q23.2 0 0 7) ≤ q23.1 then
  some (.inr q23.2)
else
  zix q23.1 3 fun j25 =>
    Option.bind (fSe_work j25 q23.2) fun q26 =>
    zlet (q23.1 + 1) fun v27 =>
    some (.inl (v27, q26))
def fSe_passHour  (s0 : zM) : Option (Int32 × zM) :=
  zlet (zu s0 0 0 8 ((s0 0 0 8) + (1 : Int32))) fun s0_1 =>
  Option.bind (ziter (fSe_passHour_l12 ) 1000 ((0 : Int32), s0_1)) fun q3 =>
  Option.bind (fWa_power (q3 4 0 1)) fun q7 =>
  Option.bind (ziter (fSe_passHour_l56 q7) 1000 ((0 : Int32), q3)) fun q9 =>
  Option.bind (fSe_loadStrings q9) fun q15 =>
  Option.bind (fSe_giveUp (-1 : Int32) (q15 4 0 4) (7 : Int32) q15) fun q16 =>
  Option.bind (fLe_book (q7 * (q16.2 0 0 5)) q16.1 (q16.2 4 0 3) q16.2) fun q17 =>
  Option.bind (ziter (fSe_passHour_l137 ) 1000 ((0 : Int32), q17)) fun q19 =>
  Option.bind (ziter (fSe_passHour_l162 ) 1000 ((0 : Int32), q19)) fun q24 =>
  some (q16.1, q24)
set_option maxHeartbeats 4000000 in
set_option maxRecDepth 20000 in
theorem bfSe_passHour_l12 {X : zX} (F : zFr X cX3_passHour 4 RX3 (some .int))   {ψ : (Int32 × zM) ⊕ ((zM)) → Option zO} (h1 : ∀ q2 : Int32 × zM, zZ X [(0, [])] 4 87 4 12 [some (zr 0 0 0), some (zi q2.1), none, none] [] [q2.2] (ψ (.inl q2))) (h2 : ∀ q3 : zM, zZ X [(0, [])] 4 87 4 43 [some (zr 0 0 0), none, none, none] [] [q3] (ψ (.inr q3))) (q2 : Int32 × zM) : zZ X [(0, [])] 4 87 4 12 [some (zr 0 0 0), some (zi q2.1), none, none] [] [q2.2] (Option.bind (fSe_passHour_l12  q2) ψ) := by
  unfold fSe_passHour_l12
  refine zz_iload_n F (i := 1) dX3_passHour_12 rfl rfl ?_
  refine zz_aload_n F (i := 0) dX3_passHour_13 rfl rfl ?_
  refine zz_getf F dX3_passHour_14 wfRX3_56 zCl_3 rfl (⟨zlb rfl, zlb rfl, zlb rfl⟩) rfl (by decide) rfl rfl ?_
  refine zz_icmp_ge F (tgt := 43) dX3_passHour_17 (by decide) (fun h => zz_t h ?_) (fun h => zz_f h ?_)
  · exact zz_sub (zs_k (zs_n (zs_k (zs_k zs_z)))) (h2 q2.2)
  · refine zz_aload_n F (i := 0) dX3_passHour_20 rfl rfl ?_
    refine zz_getr F dX3_passHour_21 wfRX3_11 zCl_3 rfl (⟨zlb rfl, zlb rfl, zlb rfl⟩) rfl (by decide) rfl (r' := 0) (by decide) ?_
    refine zz_iload_n F (i := 1) dX3_passHour_24 rfl rfl ?_
    refine zz_ix fun j4 hj4 hinj4 hej4 => zz_aal F dX3_passHour_25 rfl (⟨zlb rfl, zlb rfl, zlb rfl⟩) rfl (by decide) rfl hinj4 hej4 rfl ?_
    refine zz_aload_n F (i := 0) dX3_passHour_26 rfl rfl ?_
    refine zz_getr F dX3_passHour_27 wfRX3_32 zCl_3 rfl (⟨zlb rfl, zlb rfl, zlb rfl⟩) rfl (by decide) rfl (r' := 0) (by decide) ?_
    refine zz_aload_n F (i := 0) dX3_passHour_30 rfl rfl ?_
    refine zz_getf F dX3_passHour_31 wfRX3_43 zCl_3 rfl (⟨zlb rfl, zlb rfl, zlb rfl⟩) rfl (by decide) rfl rfl ?_
    refine zz_bind ?_
    refine zz_callVr F (ρ := [0]) (so := fun q5 => []) (Mo := fun q5 => [q5]) (zfTu_settle j4 (q2.2 0 0 9) hj4 q2.2) dX3_passHour_34 wcRX3_139 wy_yX5_settle rfl ⟨rel3, rfl, rfl, Nat.le_of_ble_eq_true rfl, Nat.le_of_ble_eq_true rfl, Nat.le_of_ble_eq_true rfl⟩ (⟨zlb rfl, zlb rfl, hj4⟩) rfl rfl rfl (fun _ => rfl) (fun _ => rfl) fun q5 => ?_
    refine zz_iinc F (i := 1) (v := q2.1 + 1) (L' := [some (zr 0 0 0), some (zi (q2.1 + 1)), none, none]) dX3_passHour_37 rfl (by first | rfl | decide) (by decide) rfl rfl ?_
    refine zz_letl (Lf := fun v6 => [some (zr 0 0 0), some (zi v6), none, none]) fun v6 => ?_
    refine zz_goto F (tgt := 12) dX3_passHour_40 (by decide) ?_
    exact zz_sub (zs_k (zs_k (zs_k (zs_k zs_z)))) (h1 (v6, q5))
set_option maxHeartbeats 4000000 in
set_option maxRecDepth 20000 in
theorem bfSe_passHour_l56 {X : zX} (F : zFr X cX3_passHour 4 RX3 (some .int)) (q7 : (Int32))  {ψ : (Int32 × zM) ⊕ ((zM)) → Option zO} (h1 : ∀ q8 : Int32 × zM, zZ X [(0, [])] 4 87 4 56 [some (zr 0 0 0), some (zi q7), some (zi q8.1), none] [] [q8.2] (ψ (.inl q8))) (h2 : ∀ q9 : zM, zZ X [(0, [])] 4 87 4 95 [some (zr 0 0 0), some (zi q7), none, none] [] [q9] (ψ (.inr q9))) (q8 : Int32 × zM) : zZ X [(0, [])] 4 87 4 56 [some (zr 0 0 0), some (zi q7), some (zi q8.1), none] [] [q8.2] (Option.bind (fSe_passHour_l56 q7 q8) ψ) := by
  unfold fSe_passHour_l56
  refine zz_iload_n F (i := 2) dX3_passHour_56 rfl rfl ?_
  refine zz_aload_n F (i := 0) dX3_passHour_57 rfl rfl ?_
  refine zz_getf F dX3_passHour_58 wfRX3_56 zCl_3 rfl (⟨zlb rfl, zlb rfl, zlb rfl⟩) rfl (by decide) rfl rfl ?_
  refine zz_icmp_ge F (tgt := 95) dX3_passHour_61 (by decide) (fun h => zz_t h ?_) (fun h => zz_f h ?_)
  · exact zz_sub (zs_k (zs_k (zs_n (zs_k zs_z)))) (h2 q8.2)
  · refine zz_aload_n F (i := 0) dX3_passHour_64 rfl rfl ?_
    refine zz_getr F dX3_passHour_65 wfRX3_11 zCl_3 rfl (⟨zlb rfl, zlb rfl, zlb rfl⟩) rfl (by decide) rfl (r' := 0) (by decide) ?_
    refine zz_iload_n F (i := 2) dX3_passHour_68 rfl rfl ?_
    refine zz_ix fun j10 hj10 hinj10 hej10 => zz_aal F dX3_passHour_69 rfl (⟨zlb rfl, zlb rfl, zlb rfl⟩) rfl (by decide) rfl hinj10 hej10 rfl ?_
    refine zz_aload_n F (i := 0) dX3_passHour_70 rfl rfl ?_
    refine zz_getr F dX3_passHour_71 wfRX3_32 zCl_3 rfl (⟨zlb rfl, zlb rfl, zlb rfl⟩) rfl (by decide) rfl (r' := 0) (by decide) ?_
    refine zz_getf F dX3_passHour_74 wfRX3_143 zCl_7 rfl (⟨zlb rfl, zlb rfl, zlb rfl⟩) rfl (by decide) rfl rfl ?_
    refine zz_aload_n F (i := 0) dX3_passHour_77 rfl rfl ?_
    refine zz_iload_n F (i := 2) dX3_passHour_78 rfl rfl ?_
    refine zz_bind ?_
    refine zz_callVr F (ρ := [0]) (so := fun q11 => [zi q11, zi (q8.2 4 0 1), zr 0 7 j10]) (Mo := fun q11 => [q8.2]) (zfSe_deficitOf q8.1 q8.2) dX3_passHour_79 wcRX3_150 wy_yX3_deficitOf rfl ⟨rel3, rfl, rfl, Nat.le_of_ble_eq_true rfl, Nat.le_of_ble_eq_true rfl, Nat.le_of_ble_eq_true rfl⟩ (⟨zlb rfl, zlb rfl, zlb rfl⟩) rfl rfl rfl (fun _ => rfl) (fun _ => rfl) fun q11 => ?_
    refine zz_bind ?_
    refine zz_callSr F (ρ := []) (so := fun q12 => [zi q12, zr 0 7 j10]) (Mo := fun q12 => [q8.2]) (zfWa_wind (q8.2 4 0 1) q11) dX3_passHour_82 wcRX3_153 wy_yX7_wind rfl ⟨rel4, rfl, rfl, Nat.le_of_ble_eq_true rfl, Nat.le_of_ble_eq_true rfl, Nat.le_of_ble_eq_true rfl⟩ rfl (fun _ => rfl) (fun _ => rfl) fun q12 => ?_
    refine zz_iload_n F (i := 1) dX3_passHour_85 rfl rfl ?_
    refine zz_bind ?_
    refine zz_callVr F (ρ := [0]) (so := fun q13 => []) (Mo := fun q13 => [q13]) (zfTu_take j10 q12 q7 hj10 q8.2) dX3_passHour_86 wcRX3_156 wy_yX5_take rfl ⟨rel3, rfl, rfl, Nat.le_of_ble_eq_true rfl, Nat.le_of_ble_eq_true rfl, Nat.le_of_ble_eq_true rfl⟩ (⟨zlb rfl, zlb rfl, hj10⟩) rfl rfl rfl (fun _ => rfl) (fun _ => rfl) fun q13 => ?_
    refine zz_iinc F (i := 2) (v := q8.1 + 1) (L' := [some (zr 0 0 0), some (zi q7), some (zi (q8.1 + 1)), none]) dX3_passHour_89 rfl (by first | rfl | decide) (by decide) rfl rfl ?_
    refine zz_letl (Lf := fun v14 => [some (zr 0 0 0), some (zi q7), some (zi v14), none]) fun v14 => ?_
    refine zz_goto F (tgt := 56) dX3_passHour_92 (by decide) ?_
    exact zz_sub (zs_k (zs_k (zs_k (zs_k zs_z)))) (h1 (v14, q13))
set_option maxHeartbeats 4000000 in
set_option maxRecDepth 20000 in
theorem bfSe_passHour_l137 {X : zX} (F : zFr X cX3_passHour 4 RX3 (some .int)) (q16 : (Int32 × zM))  {ψ : (Int32 × zM) ⊕ ((zM)) → Option zO} (h1 : ∀ q18 : Int32 × zM, zZ X [(0, [])] 4 87 4 137 [some (zr 0 0 0), none, some (zi q16.1), some (zi q18.1)] [] [q18.2] (ψ (.inl q18))) (h2 : ∀ q19 : zM, zZ X [(0, [])] 4 87 4 160 [some (zr 0 0 0), none, some (zi q16.1), none] [] [q19] (ψ (.inr q19))) (q18 : Int32 × zM) : zZ X [(0, [])] 4 87 4 137 [some (zr 0 0 0), none, some (zi q16.1), some (zi q18.1)] [] [q18.2] (Option.bind (fSe_passHour_l137  q18) ψ) := by
  unfold fSe_passHour_l137
  refine zz_iload_n F (i := 3) dX3_passHour_137 rfl rfl ?_
  refine zz_aload_n F (i := 0) dX3_passHour_138 rfl rfl ?_
  refine zz_getf F dX3_passHour_139 wfRX3_56 zCl_3 rfl (⟨zlb rfl, zlb rfl, zlb rfl⟩) rfl (by decide) rfl rfl ?_
  refine zz_icmp_ge F (tgt := 160) dX3_passHour_142 (by decide) (fun h => zz_t h ?_) (fun h => zz_f h ?_)
  · exact zz_sub (zs_k (zs_k (zs_k (zs_n zs_z)))) (h2 q18.2)
  · refine zz_aload_n F (i := 0) dX3_passHour_145 rfl rfl ?_
    refine zz_getr F dX3_passHour_146 wfRX3_11 zCl_3 rfl (⟨zlb rfl, zlb rfl, zlb rfl⟩) rfl (by decide) rfl (r' := 0) (by decide) ?_
    refine zz_iload_n F (i := 3) dX3_passHour_149 rfl rfl ?_
    refine zz_ix fun j20 hj20 hinj20 hej20 => zz_aal F dX3_passHour_150 rfl (⟨zlb rfl, zlb rfl, zlb rfl⟩) rfl (by decide) rfl hinj20 hej20 rfl ?_
    refine zz_bind ?_
    refine zz_callVr F (ρ := [0]) (so := fun q21 => []) (Mo := fun q21 => [q21]) (zfTu_wearOut j20 hj20 q18.2) dX3_passHour_151 wcRX3_177 wy_yX5_wearOut rfl ⟨rel3, rfl, rfl, Nat.le_of_ble_eq_true rfl, Nat.le_of_ble_eq_true rfl, Nat.le_of_ble_eq_true rfl⟩ (⟨zlb rfl, zlb rfl, hj20⟩) rfl rfl rfl (fun _ => rfl) (fun _ => rfl) fun q21 => ?_
    refine zz_iinc F (i := 3) (v := q18.1 + 1) (L' := [some (zr 0 0 0), none, some (zi q16.1), some (zi (q18.1 + 1))]) dX3_passHour_154 rfl (by first | rfl | decide) (by decide) rfl rfl ?_
    refine zz_letl (Lf := fun v22 => [some (zr 0 0 0), none, some (zi q16.1), some (zi v22)]) fun v22 => ?_
    refine zz_goto F (tgt := 137) dX3_passHour_157 (by decide) ?_
    exact zz_sub (zs_k (zs_k (zs_k (zs_k zs_z)))) (h1 (v22, q21))
set_option maxHeartbeats 4000000 in
set_option maxRecDepth 20000 in
theorem bfSe_passHour_l162 {X : zX} (F : zFr X cX3_passHour 4 RX3 (some .int)) (q16 : (Int32 × zM))  {ψ : (Int32 × zM) ⊕ ((zM)) → Option zO} (h1 : ∀ q23 : Int32 × zM, zZ X [(0, [])] 4 87 4 162 [some (zr 0 0 0), none, some (zi q16.1), some (zi q23.1)] [] [q23.2] (ψ (.inl q23))) (h2 : ∀ q24 : zM, zZ X [(0, [])] 4 87 4 186 [none, none, some (zi q16.1), none] [] [q24] (ψ (.inr q24))) (q23 : Int32 × zM) : zZ X [(0, [])] 4 87 4 162 [some (zr 0 0 0), none, some (zi q16.1), some (zi q23.1)] [] [q23.2] (Option.bind (fSe_passHour_l162  q23) ψ) := by
  unfold fSe_passHour_l162
  refine zz_iload_n F (i := 3) dX3_passHour_162 rfl rfl ?_
  refine zz_aload_n F (i := 0) dX3_passHour_163 rfl rfl ?_
  refine zz_getf F dX3_passHour_164 wfRX3_68 zCl_3 rfl (⟨zlb rfl, zlb rfl, zlb rfl⟩) rfl (by decide) rfl rfl ?_
  refine zz_icmp_ge F (tgt := 186) dX3_passHour_167 (by decide) (fun h => zz_t h ?_) (fun h => zz_f h ?_)
  · exact zz_sub (zs_n (zs_k (zs_k (zs_n zs_z)))) (h2 q23.2)
  · refine zz_aload_n F (i := 0) dX3_passHour_170 rfl rfl ?_
    refine zz_aload_n F (i := 0) dX3_passHour_171 rfl rfl ?_
    refine zz_getr F dX3_passHour_172 wfRX3_25 zCl_3 rfl (⟨zlb rfl, zlb rfl, zlb rfl⟩) rfl (by decide) rfl (r' := 0) (by decide) ?_
    refine zz_iload_n F (i := 3) dX3_passHour_175 rfl rfl ?_
    refine zz_ix fun j25 hj25 hinj25 hej25 => zz_aal F dX3_passHour_176 rfl (⟨zlb rfl, zlb rfl, zlb rfl⟩) rfl (by decide) rfl hinj25 hej25 rfl ?_
    refine zz_bind ?_
    refine zz_callVr F (ρ := [0]) (so := fun q26 => []) (Mo := fun q26 => [q26]) (zfSe_work j25 hj25 q23.2) dX3_passHour_177 wcRX3_180 wy_yX3_work rfl ⟨rel3, rfl, rfl, Nat.le_of_ble_eq_true rfl, Nat.le_of_ble_eq_true rfl, Nat.le_of_ble_eq_true rfl⟩ (⟨zlb rfl, zlb rfl, zlb rfl⟩) rfl rfl rfl (fun _ => rfl) (fun _ => rfl) fun q26 => ?_
    refine zz_iinc F (i := 3) (v := q23.1 + 1) (L' := [some (zr 0 0 0), none, some (zi q16.1), some (zi (q23.1 + 1))]) dX3_passHour_180 rfl (by first | rfl | decide) (by decide) rfl rfl ?_
    refine zz_letl (Lf := fun v27 => [some (zr 0 0 0), none, some (zi q16.1), some (zi v27)]) fun v27 => ?_
    refine zz_goto F (tgt := 162) dX3_passHour_183 (by decide) ?_
    exact zz_sub (zs_k (zs_k (zs_k (zs_k zs_z)))) (h1 (v27, q26))
set_option maxHeartbeats 4000000 in
set_option maxRecDepth 20000 in
theorem bfSe_passHour {X : zX} (F : zFr X cX3_passHour 4 RX3 (some .int))   (s0 : zM) {κ : Int32 × zM → Option zO} (hκ : ∀ a, κ a = some ((fun a => ((.inl ((fun q => some (zi q.1)) a), (fun q => [q.2]) a) : zO)) a)) : zZ X [(0, [])] 4 87 4 0 [some (zr 0 0 0), none, none, none] [] [s0] (Option.bind (fSe_passHour s0) κ) := by
  unfold fSe_passHour
  refine zz_aload_n F (i := 0) dX3_passHour_0 rfl rfl ?_
  refine zz_dup F dX3_passHour_1 rfl ?_
  refine zz_getf F dX3_passHour_2 wfRX3_74 zCl_3 rfl (⟨zlb rfl, zlb rfl, zlb rfl⟩) rfl (by decide) rfl rfl ?_
  refine zz_iconst F (v := (1 : Int32)) dX3_passHour_5 (by decide) ?_
  refine zz_iadd F dX3_passHour_6 ?_
  refine zz_put F (Ms' := [(zu s0 0 0 8 ((s0 0 0 8) + (1 : Int32)))]) dX3_passHour_7 wpRX3_74 zCl_3 rfl (⟨zlb rfl, zlb rfl, zlb rfl⟩) rfl (by decide) rfl rfl rfl ?_
  refine zz_letm (Mf := fun s0_1 => [s0_1]) fun s0_1 => ?_
  refine zz_iconst F (v := (0 : Int32)) dX3_passHour_10 (by decide) ?_
  refine zz_istore_n F (i := 1) (L' := [some (zr 0 0 0), some (zi (0 : Int32)), none, none]) dX3_passHour_11 rfl (by decide) rfl rfl ?_
  refine zz_sub (zs_k (zs_k (zs_k (zs_k zs_z)))) ?_
  refine zz_bind ?_
  refine zz_iter (Lf := fun q2 => [some (zr 0 0 0), some (zi q2.1), none, none]) (Mf := fun q2 => [q2.2]) (fun q2 _ e34 e35 => bfSe_passHour_l12 F   e34 (fun q3 => ?_)  q2) 1000 ((0 : Int32), s0_1)
  rw [e35]
  refine zz_aload_n F (i := 0) dX3_passHour_43 rfl rfl ?_
  refine zz_getr F dX3_passHour_44 wfRX3_32 zCl_3 rfl (⟨zlb rfl, zlb rfl, zlb rfl⟩) rfl (by decide) rfl (r' := 0) (by decide) ?_
  refine zz_getf F dX3_passHour_47 wfRX3_143 zCl_7 rfl (⟨zlb rfl, zlb rfl, zlb rfl⟩) rfl (by decide) rfl rfl ?_
  refine zz_bind ?_
  refine zz_callSr F (ρ := []) (so := fun q7 => [zi q7]) (Mo := fun q7 => [q3]) (zfWa_power (q3 4 0 1)) dX3_passHour_50 wcRX3_146 wy_yX7_power rfl ⟨rel4, rfl, rfl, Nat.le_of_ble_eq_true rfl, Nat.le_of_ble_eq_true rfl, Nat.le_of_ble_eq_true rfl⟩ rfl (fun _ => rfl) (fun _ => rfl) fun q7 => ?_
  refine zz_istore_n F (i := 1) (L' := [some (zr 0 0 0), some (zi q7), none, none]) dX3_passHour_53 rfl (by decide) rfl rfl ?_
  refine zz_iconst F (v := (0 : Int32)) dX3_passHour_54 (by decide) ?_
  refine zz_istore_n F (i := 2) (L' := [some (zr 0 0 0), some (zi q7), some (zi (0 : Int32)), none]) dX3_passHour_55 rfl (by decide) rfl rfl ?_
  refine zz_sub (zs_k (zs_k (zs_k (zs_k zs_z)))) ?_
  refine zz_bind ?_
  refine zz_iter (Lf := fun q8 => [some (zr 0 0 0), some (zi q7), some (zi q8.1), none]) (Mf := fun q8 => [q8.2]) (fun q8 _ e32 e33 => bfSe_passHour_l56 F q7  e32 (fun q9 => ?_)  q8) 1000 ((0 : Int32), q3)
  rw [e33]
  refine zz_aload_n F (i := 0) dX3_passHour_95 rfl rfl ?_
  refine zz_bind ?_
  refine zz_callVr F (ρ := [0]) (so := fun q15 => []) (Mo := fun q15 => [q15]) (zfSe_loadStrings q9) dX3_passHour_96 wcRX3_160 wy_yX3_loadStrings rfl ⟨rel3, rfl, rfl, Nat.le_of_ble_eq_true rfl, Nat.le_of_ble_eq_true rfl, Nat.le_of_ble_eq_true rfl⟩ (⟨zlb rfl, zlb rfl, zlb rfl⟩) rfl rfl rfl (fun _ => rfl) (fun _ => rfl) fun q15 => ?_
  refine zz_aload_n F (i := 0) dX3_passHour_99 rfl rfl ?_
  refine zz_iconst F (v := (-1 : Int32)) dX3_passHour_100 (by decide) ?_
  refine zz_aload_n F (i := 0) dX3_passHour_101 rfl rfl ?_
  refine zz_getr F dX3_passHour_102 wfRX3_32 zCl_3 rfl (⟨zlb rfl, zlb rfl, zlb rfl⟩) rfl (by decide) rfl (r' := 0) (by decide) ?_
  refine zz_getf F dX3_passHour_105 wfRX3_163 zCl_7 rfl (⟨zlb rfl, zlb rfl, zlb rfl⟩) rfl (by decide) rfl rfl ?_
  refine zz_bipush F (v := (7 : Int32)) dX3_passHour_108 (by decide) ?_
  refine zz_bind ?_
  refine zz_callVr F (ρ := [0]) (so := fun q16 => [zi q16.1]) (Mo := fun q16 => [q16.2]) (zfSe_giveUp (-1 : Int32) (q15 4 0 4) (7 : Int32) q15) dX3_passHour_110 wcRX3_166 wy_yX3_giveUp rfl ⟨rel3, rfl, rfl, Nat.le_of_ble_eq_true rfl, Nat.le_of_ble_eq_true rfl, Nat.le_of_ble_eq_true rfl⟩ (⟨zlb rfl, zlb rfl, zlb rfl⟩) rfl rfl rfl (fun _ => rfl) (fun _ => rfl) fun q16 => ?_
  refine zz_istore_n F (i := 2) (L' := [some (zr 0 0 0), some (zi q7), some (zi q16.1), none]) dX3_passHour_113 rfl (by decide) rfl rfl ?_
  refine zz_aload_n F (i := 0) dX3_passHour_114 rfl rfl ?_
  refine zz_getr F dX3_passHour_115 wfRX3_39 zCl_3 rfl (⟨zlb rfl, zlb rfl, zlb rfl⟩) rfl (by decide) rfl (r' := 0) (by decide) ?_
  refine zz_iload_n F (i := 1) dX3_passHour_118 rfl rfl ?_
  refine zz_aload_n F (i := 0) dX3_passHour_119 rfl rfl ?_
  refine zz_getf F dX3_passHour_120 wfRX3_56 zCl_3 rfl (⟨zlb rfl, zlb rfl, zlb rfl⟩) rfl (by decide) rfl rfl ?_
  refine zz_imul F dX3_passHour_123 ?_
  refine zz_iload_n F (i := 2) dX3_passHour_124 rfl rfl ?_
  refine zz_aload_n F (i := 0) dX3_passHour_125 rfl rfl ?_
  refine zz_getr F dX3_passHour_126 wfRX3_32 zCl_3 rfl (⟨zlb rfl, zlb rfl, zlb rfl⟩) rfl (by decide) rfl (r' := 0) (by decide) ?_
  refine zz_getf F dX3_passHour_129 wfRX3_170 zCl_7 rfl (⟨zlb rfl, zlb rfl, zlb rfl⟩) rfl (by decide) rfl rfl ?_
  refine zz_bind ?_
  refine zz_callVr F (ρ := [0]) (so := fun q17 => []) (Mo := fun q17 => [q17]) (zfLe_book (q7 * (q16.2 0 0 5)) q16.1 (q16.2 4 0 3) q16.2) dX3_passHour_132 wcRX3_173 wy_yX2_book rfl ⟨rel3, rfl, rfl, Nat.le_of_ble_eq_true rfl, Nat.le_of_ble_eq_true rfl, Nat.le_of_ble_eq_true rfl⟩ (⟨zlb rfl, zlb rfl, zlb rfl⟩) rfl rfl rfl (fun _ => rfl) (fun _ => rfl) fun q17 => ?_
  refine zz_iconst F (v := (0 : Int32)) dX3_passHour_135 (by decide) ?_
  refine zz_istore_n F (i := 3) (L' := [some (zr 0 0 0), some (zi q7), some (zi q16.1), some (zi (0 : Int32))]) dX3_passHour_136 rfl (by decide) rfl rfl ?_
  refine zz_sub (zs_k (zs_n (zs_k (zs_k zs_z)))) ?_
  refine zz_bind ?_
  refine zz_iter (Lf := fun q18 => [some (zr 0 0 0), none, some (zi q16.1), some (zi q18.1)]) (Mf := fun q18 => [q18.2]) (fun q18 _ e30 e31 => bfSe_passHour_l137 F q16  e30 (fun q19 => ?_)  q18) 1000 ((0 : Int32), q17)
  rw [e31]
  refine zz_iconst F (v := (0 : Int32)) dX3_passHour_160 (by decide) ?_
  refine zz_istore_n F (i := 3) (L' := [some (zr 0 0 0), none, some (zi q16.1), some (zi (0 : Int32))]) dX3_passHour_161 rfl (by decide) rfl rfl ?_
  refine zz_sub (zs_k (zs_k (zs_k (zs_k zs_z)))) ?_
  refine zz_bind ?_
  refine zz_iter (Lf := fun q23 => [some (zr 0 0 0), none, some (zi q16.1), some (zi q23.1)]) (Mf := fun q23 => [q23.2]) (fun q23 _ e28 e29 => bfSe_passHour_l162 F q16  e28 (fun q24 => ?_)  q23) 1000 ((0 : Int32), q19)
  rw [e29]
  refine zz_iload_n F (i := 2) dX3_passHour_186 rfl rfl ?_
  exact zz_ireturn F dX3_passHour_187 rfl (hκ _)
theorem zfSe_passHour   (s0 : zM) : ∀ a, fSe_passHour s0 = some a → zMet yX3_passHour cX3_passHour 4 (some .int) 4 87 [(0, [])] [zr 0 0 0] [s0] ((fun a => ((.inl ((fun q => some (zi q.1)) a), (fun q => [q.2]) a) : zO)) a) := fun a ha => zMet_of (L0 := [some (zr 0 0 0), none, none, none]) (φ := Option.bind (fSe_passHour s0) (fun a => some ((fun a => ((.inl ((fun q => some (zi q.1)) a), (fun q => [q.2]) a) : zO)) a))) (by decide) (fun _ => Nat.le_of_ble_eq_true rfl) (zl0 3 rfl) (fun X F => bfSe_passHour F s0 (fun _ => rfl)) (by rw [ha]; rfl)

theorem dX3_passHours_0 : decode cX3_passHours 0 = .ok (.iconst 0, 1) := by decide +kernel
theorem dX3_passHours_1 : decode cX3_passHours 1 = .ok (.istore_n 2, 1) := by decide +kernel
theorem dX3_passHours_2 : decode cX3_passHours 2 = .ok (.iconst 0, 1) := by decide +kernel
theorem dX3_passHours_3 : decode cX3_passHours 3 = .ok (.istore_n 3, 1) := by decide +kernel
theorem dX3_passHours_4 : decode cX3_passHours 4 = .ok (.iload_n 3, 1) := by decide +kernel
theorem dX3_passHours_5 : decode cX3_passHours 5 = .ok (.iload_n 1, 1) := by decide +kernel
theorem dX3_passHours_6 : decode cX3_passHours 6 = .ok (.if_icmp .ge 16, 3) := by decide +kernel
theorem dX3_passHours_9 : decode cX3_passHours 9 = .ok (.iload_n 2, 1) := by decide +kernel
theorem dX3_passHours_10 : decode cX3_passHours 10 = .ok (.aload_n 0, 1) := by decide +kernel
theorem dX3_passHours_11 : decode cX3_passHours 11 = .ok (.invokevirtual 135, 3) := by decide +kernel
theorem dX3_passHours_14 : decode cX3_passHours 14 = .ok (.iadd, 1) := by decide +kernel
theorem dX3_passHours_15 : decode cX3_passHours 15 = .ok (.istore_n 2, 1) := by decide +kernel
theorem dX3_passHours_16 : decode cX3_passHours 16 = .ok (.iinc 3 1, 3) := by decide +kernel
theorem dX3_passHours_19 : decode cX3_passHours 19 = .ok (.goto (-15), 3) := by decide +kernel
theorem dX3_passHours_22 : decode cX3_passHours 22 = .ok (.iload_n 2, 1) := by decide +kernel
theorem dX3_passHours_23 : decode cX3_passHours 23 = .ok (.ireturn, 1) := by decide +kernel
theorem wcRX3_135 : Cond.methodLink RX3 135 yX3_passHour ∈ zTg ∧ Cond.instanceMethod yX3_passHour ∈ zTg ∧ Cond.selects RX3 yX3_passHour yX3_passHour ∈ zTg ∧ Cond.initialized RX3 ∈ zTg ∧ Cond.code yX3_passHour cX3_passHour 4 (some .int) ∈ zTg := ⟨zm_f 746 (by decide +kernel) rfl, zm_f 602 (by decide +kernel) rfl, zm_f 603 (by decide +kernel) rfl, zm_f 38 (by decide +kernel) rfl, zm_f 604 (by decide +kernel) rfl⟩
theorem wy_yX3_passHour : yX3_passHour.cls = RX3 ∧ yX3_passHour.cls ≠ "java/lang/invoke/MethodHandle" ∧ yX3_passHour.cls ≠ "java/lang/invoke/VarHandle" ∧ (parseMethodDescriptor yX3_passHour.desc).map (fun d => d.parameters.length) = some 0 := by decide +kernel
def fSe_passHours_l4 (a1 : Int32) (q1 : Int32 × Int32 × zM) : Option ((Int32 × Int32 × zM) ⊕ ((Int32 × zM))) :=
  if a1 ≤ q1.2.1 then
  some (.inr (q1.1, q1.2.2))
else
  Option.bind (fSe_passHour q1.2.2) fun q3 =>
    zlet ((q1.1 + q3.1)) fun v4 =>
    zlet (q1.2.1 + 1) fun v5 =>
    some (.inl (v4, v5, q3.2))
def fSe_passHours (a1 : Int32) (s0 : zM) : Option (Int32 × zM) :=
  Option.bind (ziter (fSe_passHours_l4 a1) 1000 ((0 : Int32), (0 : Int32), s0)) fun q2 =>
  some (q2.1, q2.2)
set_option maxHeartbeats 4000000 in
set_option maxRecDepth 20000 in
theorem bfSe_passHours_l4 {X : zX} (F : zFr X cX3_passHours 4 RX3 (some .int)) (a1 : Int32)  {ψ : (Int32 × Int32 × zM) ⊕ ((Int32 × zM)) → Option zO} (h1 : ∀ q1 : Int32 × Int32 × zM, zZ X [(0, [])] 5 110 4 4 [some (zr 0 0 0), some (zi a1), some (zi q1.1), some (zi q1.2.1)] [] [q1.2.2] (ψ (.inl q1))) (h2 : ∀ q2 : Int32 × zM, zZ X [(0, [])] 5 110 4 22 [none, none, some (zi q2.1), none] [] [q2.2] (ψ (.inr q2))) (q1 : Int32 × Int32 × zM) : zZ X [(0, [])] 5 110 4 4 [some (zr 0 0 0), some (zi a1), some (zi q1.1), some (zi q1.2.1)] [] [q1.2.2] (Option.bind (fSe_passHours_l4 a1 q1) ψ) := by
  unfold fSe_passHours_l4
  refine zz_iload_n F (i := 3) dX3_passHours_4 rfl rfl ?_
  refine zz_iload_n F (i := 1) dX3_passHours_5 rfl rfl ?_
  refine zz_icmp_ge F (tgt := 22) dX3_passHours_6 (by decide) (fun h => zz_t h ?_) (fun h => zz_f h ?_)
  · exact zz_sub (zs_n (zs_n (zs_k (zs_n zs_z)))) (h2 (q1.1, q1.2.2))
  · refine zz_iload_n F (i := 2) dX3_passHours_9 rfl rfl ?_
    refine zz_aload_n F (i := 0) dX3_passHours_10 rfl rfl ?_
    refine zz_bind ?_
    refine zz_callVr F (ρ := [0]) (so := fun q3 => [zi q3.1, zi q1.1]) (Mo := fun q3 => [q3.2]) (zfSe_passHour q1.2.2) dX3_passHours_11 wcRX3_135 wy_yX3_passHour rfl ⟨rel3, rfl, rfl, Nat.le_of_ble_eq_true rfl, Nat.le_of_ble_eq_true rfl, Nat.le_of_ble_eq_true rfl⟩ (⟨zlb rfl, zlb rfl, zlb rfl⟩) rfl rfl rfl (fun _ => rfl) (fun _ => rfl) fun q3 => ?_
    refine zz_iadd F dX3_passHours_14 ?_
    refine zz_istore_n F (i := 2) (L' := [some (zr 0 0 0), some (zi a1), some (zi (q1.1 + q3.1)), some (zi q1.2.1)]) dX3_passHours_15 rfl (by decide) rfl rfl ?_
    refine zz_letl (Lf := fun v4 => [some (zr 0 0 0), some (zi a1), some (zi v4), some (zi q1.2.1)]) fun v4 => ?_
    refine zz_iinc F (i := 3) (v := q1.2.1 + 1) (L' := [some (zr 0 0 0), some (zi a1), some (zi v4), some (zi (q1.2.1 + 1))]) dX3_passHours_16 rfl (by first | rfl | decide) (by decide) rfl rfl ?_
    refine zz_letl (Lf := fun v5 => [some (zr 0 0 0), some (zi a1), some (zi v4), some (zi v5)]) fun v5 => ?_
    refine zz_goto F (tgt := 4) dX3_passHours_19 (by decide) ?_
    exact zz_sub (zs_k (zs_k (zs_k (zs_k zs_z)))) (h1 (v4, v5, q3.2))
set_option maxHeartbeats 4000000 in
set_option maxRecDepth 20000 in
theorem bfSe_passHours {X : zX} (F : zFr X cX3_passHours 4 RX3 (some .int)) (a1 : Int32)  (s0 : zM) {κ : Int32 × zM → Option zO} (hκ : ∀ a, κ a = some ((fun a => ((.inl ((fun q => some (zi q.1)) a), (fun q => [q.2]) a) : zO)) a)) : zZ X [(0, [])] 5 110 4 0 [some (zr 0 0 0), some (zi a1), none, none] [] [s0] (Option.bind (fSe_passHours a1 s0) κ) := by
  unfold fSe_passHours
  refine zz_iconst F (v := (0 : Int32)) dX3_passHours_0 (by decide) ?_
  refine zz_istore_n F (i := 2) (L' := [some (zr 0 0 0), some (zi a1), some (zi (0 : Int32)), none]) dX3_passHours_1 rfl (by decide) rfl rfl ?_
  refine zz_iconst F (v := (0 : Int32)) dX3_passHours_2 (by decide) ?_
  refine zz_istore_n F (i := 3) (L' := [some (zr 0 0 0), some (zi a1), some (zi (0 : Int32)), some (zi (0 : Int32))]) dX3_passHours_3 rfl (by decide) rfl rfl ?_
  refine zz_sub (zs_k (zs_k (zs_k (zs_k zs_z)))) ?_
  refine zz_bind ?_
  refine zz_iter (Lf := fun q1 => [some (zr 0 0 0), some (zi a1), some (zi q1.1), some (zi q1.2.1)]) (Mf := fun q1 => [q1.2.2]) (fun q1 _ e6 e7 => bfSe_passHours_l4 F a1  e6 (fun q2 => ?_)  q1) 1000 ((0 : Int32), (0 : Int32), s0)
  rw [e7]
  refine zz_iload_n F (i := 2) dX3_passHours_22 rfl rfl ?_
  exact zz_ireturn F dX3_passHours_23 rfl (hκ _)
theorem zfSe_passHours (a1 : Int32)  (s0 : zM) : ∀ a, fSe_passHours a1 s0 = some a → zMet yX3_passHours cX3_passHours 4 (some .int) 5 110 [(0, [])] [zr 0 0 0, zi a1] [s0] ((fun a => ((.inl ((fun q => some (zi q.1)) a), (fun q => [q.2]) a) : zO)) a) := fun a ha => zMet_of (L0 := [some (zr 0 0 0), some (zi a1), none, none]) (φ := Option.bind (fSe_passHours a1 s0) (fun a => some ((fun a => ((.inl ((fun q => some (zi q.1)) a), (fun q => [q.2]) a) : zO)) a))) (by decide) (fun _ => Nat.le_of_ble_eq_true rfl) (zl0 2 rfl) (fun X F => bfSe_passHours F a1 s0 (fun _ => rfl)) (by rw [ha]; rfl)

theorem dX9_blow_0 : decode cX9_blow 0 = .ok (.iload_n 1, 1) := by decide +kernel
theorem dX9_blow_1 : decode cX9_blow 1 = .ok (.iconst 1, 1) := by decide +kernel
theorem dX9_blow_2 : decode cX9_blow 2 = .ok (.bipush 24, 2) := by decide +kernel
theorem dX9_blow_4 : decode cX9_blow 4 = .ok (.invokestatic 26, 3) := by decide +kernel
theorem dX9_blow_7 : decode cX9_blow 7 = .ok (.ifCond .ne 59, 3) := by decide +kernel
theorem dX9_blow_10 : decode cX9_blow 10 = .ok (.iload_n 2, 1) := by decide +kernel
theorem dX9_blow_11 : decode cX9_blow 11 = .ok (.iconst 0, 1) := by decide +kernel
theorem dX9_blow_12 : decode cX9_blow 12 = .ok (.bipush 7, 2) := by decide +kernel
theorem dX9_blow_14 : decode cX9_blow 14 = .ok (.invokestatic 26, 3) := by decide +kernel
theorem dX9_blow_17 : decode cX9_blow 17 = .ok (.ifCond .ne 49, 3) := by decide +kernel
theorem dX9_blow_20 : decode cX9_blow 20 = .ok (.iload_n 3, 1) := by decide +kernel
theorem dX9_blow_21 : decode cX9_blow 21 = .ok (.iconst 0, 1) := by decide +kernel
theorem dX9_blow_22 : decode cX9_blow 22 = .ok (.bipush 30, 2) := by decide +kernel
theorem dX9_blow_24 : decode cX9_blow 24 = .ok (.invokestatic 26, 3) := by decide +kernel
theorem dX9_blow_27 : decode cX9_blow 27 = .ok (.ifCond .ne 39, 3) := by decide +kernel
theorem dX9_blow_30 : decode cX9_blow 30 = .ok (.iload 4, 2) := by decide +kernel
theorem dX9_blow_32 : decode cX9_blow 32 = .ok (.iconst 0, 1) := by decide +kernel
theorem dX9_blow_33 : decode cX9_blow 33 = .ok (.bipush 60, 2) := by decide +kernel
theorem dX9_blow_35 : decode cX9_blow 35 = .ok (.invokestatic 26, 3) := by decide +kernel
theorem dX9_blow_38 : decode cX9_blow 38 = .ok (.ifCond .ne 28, 3) := by decide +kernel
theorem dX9_blow_41 : decode cX9_blow 41 = .ok (.iload 5, 2) := by decide +kernel
theorem dX9_blow_43 : decode cX9_blow 43 = .ok (.bipush (-50), 2) := by decide +kernel
theorem dX9_blow_45 : decode cX9_blow 45 = .ok (.sipush 200, 3) := by decide +kernel
theorem dX9_blow_48 : decode cX9_blow 48 = .ok (.invokestatic 26, 3) := by decide +kernel
theorem dX9_blow_51 : decode cX9_blow 51 = .ok (.ifCond .ne 15, 3) := by decide +kernel
theorem dX9_blow_54 : decode cX9_blow 54 = .ok (.iload 6, 2) := by decide +kernel
theorem dX9_blow_56 : decode cX9_blow 56 = .ok (.iconst 0, 1) := by decide +kernel
theorem dX9_blow_57 : decode cX9_blow 57 = .ok (.sipush 20000, 3) := by decide +kernel
theorem dX9_blow_60 : decode cX9_blow 60 = .ok (.invokestatic 26, 3) := by decide +kernel
theorem dX9_blow_63 : decode cX9_blow 63 = .ok (.ifCond .eq 13, 3) := by decide +kernel
theorem dX9_blow_66 : decode cX9_blow 66 = .ok (.new 30, 3) := by decide +kernel
theorem dX9_blow_69 : decode cX9_blow 69 = .ok (.dup, 1) := by decide +kernel
theorem dX9_blow_70 : decode cX9_blow 70 = .ok (.ldc 98, 2) := by decide +kernel
theorem dX9_blow_72 : decode cX9_blow 72 = .ok (.invokespecial 34, 3) := by decide +kernel
theorem dX9_blow_75 : decode cX9_blow 75 = .ok (.athrow, 1) := by decide +kernel
theorem dX9_blow_76 : decode cX9_blow 76 = .ok (.aload_n 0, 1) := by decide +kernel
theorem dX9_blow_77 : decode cX9_blow 77 = .ok (.getfield 10, 3) := by decide +kernel
theorem dX9_blow_80 : decode cX9_blow 80 = .ok (.getfield 100, 3) := by decide +kernel
theorem dX9_blow_83 : decode cX9_blow 83 = .ok (.iload_n 2, 1) := by decide +kernel
theorem dX9_blow_84 : decode cX9_blow 84 = .ok (.iload_n 3, 1) := by decide +kernel
theorem dX9_blow_85 : decode cX9_blow 85 = .ok (.iload 4, 2) := by decide +kernel
theorem dX9_blow_87 : decode cX9_blow 87 = .ok (.iload 5, 2) := by decide +kernel
theorem dX9_blow_89 : decode cX9_blow 89 = .ok (.iload 6, 2) := by decide +kernel
theorem dX9_blow_91 : decode cX9_blow 91 = .ok (.invokevirtual 104, 3) := by decide +kernel
theorem dX9_blow_94 : decode cX9_blow 94 = .ok (.aload_n 0, 1) := by decide +kernel
theorem dX9_blow_95 : decode cX9_blow 95 = .ok (.getfield 10, 3) := by decide +kernel
theorem dX9_blow_98 : decode cX9_blow 98 = .ok (.iload_n 1, 1) := by decide +kernel
theorem dX9_blow_99 : decode cX9_blow 99 = .ok (.invokevirtual 110, 3) := by decide +kernel
theorem dX9_blow_102 : decode cX9_blow 102 = .ok (.ireturn, 1) := by decide +kernel
theorem wsRX9_98 : (RX9, 98, "no such HOURS") ∈ zstr := by decide +kernel
theorem wfRX9_100 : zFl RX9 100 3 3 := ⟨_, rfl, by decide, zm_f 287 (by decide +kernel) rfl⟩
theorem wcRX9_104 : Cond.methodLink RX9 104 yX8_set ∈ zTg ∧ Cond.instanceMethod yX8_set ∈ zTg ∧ Cond.selects RX8 yX8_set yX8_set ∈ zTg ∧ Cond.initialized RX8 ∈ zTg ∧ Cond.code yX8_set cX8_set 6 none ∈ zTg := ⟨zm_f 825 (by decide +kernel) rfl, zm_f 573 (by decide +kernel) rfl, zm_f 574 (by decide +kernel) rfl, zm_f 39 (by decide +kernel) rfl, zm_f 575 (by decide +kernel) rfl⟩
theorem wy_yX8_set : yX8_set.cls = RX8 ∧ yX8_set.cls ≠ "java/lang/invoke/MethodHandle" ∧ yX8_set.cls ≠ "java/lang/invoke/VarHandle" ∧ (parseMethodDescriptor yX8_set.desc).map (fun d => d.parameters.length) = some 5 := by decide +kernel
theorem wcRX9_110 : Cond.methodLink RX9 110 yX3_passHours ∈ zTg ∧ Cond.instanceMethod yX3_passHours ∈ zTg ∧ Cond.selects RX3 yX3_passHours yX3_passHours ∈ zTg ∧ Cond.initialized RX3 ∈ zTg ∧ Cond.code yX3_passHours cX3_passHours 4 (some .int) ∈ zTg := ⟨zm_f 742 (by decide +kernel) rfl, zm_f 743 (by decide +kernel) rfl, zm_f 744 (by decide +kernel) rfl, zm_f 38 (by decide +kernel) rfl, zm_f 745 (by decide +kernel) rfl⟩
theorem wy_yX3_passHours : yX3_passHours.cls = RX3 ∧ yX3_passHours.cls ≠ "java/lang/invoke/MethodHandle" ∧ yX3_passHours.cls ≠ "java/lang/invoke/VarHandle" ∧ (parseMethodDescriptor yX3_passHours.desc).map (fun d => d.parameters.length) = some 1 := by decide +kernel
def fWB_blow (a1 : Int32) (a2 : Int32) (a3 : Int32) (a4 : Int32) (a5 : Int32) (a6 : Int32) (s0 : zM) (s1 : zM) (s2 : zM) (s3 : zM) : Option ((Int32 × zM) ⊕ (String × zM)) :=
  Option.bind (fWB_outside a1 (1 : Int32) (24 : Int32)) fun q1 =>
  if q1 = 0 then
  Option.bind (fWB_outside a2 (0 : Int32) (7 : Int32)) fun q2 =>
    if q2 = 0 then
    Option.bind (fWB_outside a3 (0 : Int32) (30 : Int32)) fun q3 =>
      if q3 = 0 then
      Option.bind (fWB_outside a4 (0 : Int32) (60 : Int32)) fun q4 =>
        if q4 = 0 then
        Option.bind (fWB_outside a5 (-50 : Int32) (200 : Int32)) fun q5 =>
          if q5 = 0 then
          Option.bind (fWB_outside a6 (0 : Int32) (20000 : Int32)) fun q6 =>
            if q6 = 0 then
            Option.bind (fWe_set a2 a3 a4 a5 a6 s1) fun q7 =>
              Option.bind (fSe_passHours a1 q7) fun q8 =>
              some (.inl (q8.1, q8.2))
          else
            some (.inr ("java/lang/IllegalArgumentException", s1))
        else
          some (.inr ("java/lang/IllegalArgumentException", s1))
      else
        some (.inr ("java/lang/IllegalArgumentException", s1))
    else
      some (.inr ("java/lang/IllegalArgumentException", s1))
  else
    some (.inr ("java/lang/IllegalArgumentException", s1))
else
  some (.inr ("java/lang/IllegalArgumentException", s1))
set_option maxHeartbeats 4000000 in
set_option maxRecDepth 20000 in
theorem bfWB_blow {X : zX} (F : zFr X cX9_blow 7 RX9 (some .int)) (a1 : Int32) (a2 : Int32) (a3 : Int32) (a4 : Int32) (a5 : Int32) (a6 : Int32)  (s0 : zM) (s1 : zM) (s2 : zM) (s3 : zM) {κ : (Int32 × zM) ⊕ (String × zM) → Option zO} (hκ : ∀ a, κ a = some ((zts (fun q => some (zi q.1)) (fun q => [s0, q.2, s2, s3]) (fun b => b.1) (fun b => [s0, b.2, s2, s3])) a)) : zZ X [(2, [1, 2, 3]), (0, []), (0, []), (1, [])] 6 133 7 0 [some (zr 0 0 0), some (zi a1), some (zi a2), some (zi a3), some (zi a4), some (zi a5), some (zi a6)] [] [s0, s1, s2, s3] (Option.bind (fWB_blow a1 a2 a3 a4 a5 a6 s0 s1 s2 s3) κ) := by
  unfold fWB_blow
  refine zz_iload_n F (i := 1) dX9_blow_0 rfl rfl ?_
  refine zz_iconst F (v := (1 : Int32)) dX9_blow_1 (by decide) ?_
  refine zz_bipush F (v := (24 : Int32)) dX9_blow_2 (by decide) ?_
  refine zz_bind ?_
  refine zz_callSr F (ρ := []) (so := fun q1 => [zi q1]) (Mo := fun q1 => [s0, s1, s2, s3]) (zfWB_outside a1 (1 : Int32) (24 : Int32)) dX9_blow_4 wcRX9_26 wy_yX9_outside rfl ⟨rel0, rfl, rfl, Nat.le_of_ble_eq_true rfl, Nat.le_of_ble_eq_true rfl, Nat.le_of_ble_eq_true rfl⟩ rfl (fun _ => rfl) (fun _ => rfl) fun q1 => ?_
  refine zz_if_ne F (tgt := 66) dX9_blow_7 (by decide) (fun h => zz_f h ?_) (fun h => zz_t h ?_)
  · exact zz_throw F (cls := "java/lang/IllegalArgumentException") dX9_blow_66 dX9_blow_69 dX9_blow_70 dX9_blow_72 dX9_blow_75 (by decide) wtRX9_30_34k wsRX9_98 wtRX9_30_34g wtRX9_30_34n wtRX9_30_34o (Nat.le_of_ble_eq_true rfl) (Nat.le_of_ble_eq_true rfl) (hκ _)
  · refine zz_iload_n F (i := 2) dX9_blow_10 rfl rfl ?_
    refine zz_iconst F (v := (0 : Int32)) dX9_blow_11 (by decide) ?_
    refine zz_bipush F (v := (7 : Int32)) dX9_blow_12 (by decide) ?_
    refine zz_bind ?_
    refine zz_callSr F (ρ := []) (so := fun q2 => [zi q2]) (Mo := fun q2 => [s0, s1, s2, s3]) (zfWB_outside a2 (0 : Int32) (7 : Int32)) dX9_blow_14 wcRX9_26 wy_yX9_outside rfl ⟨rel0, rfl, rfl, Nat.le_of_ble_eq_true rfl, Nat.le_of_ble_eq_true rfl, Nat.le_of_ble_eq_true rfl⟩ rfl (fun _ => rfl) (fun _ => rfl) fun q2 => ?_
    refine zz_if_ne F (tgt := 66) dX9_blow_17 (by decide) (fun h => zz_f h ?_) (fun h => zz_t h ?_)
    · exact zz_throw F (cls := "java/lang/IllegalArgumentException") dX9_blow_66 dX9_blow_69 dX9_blow_70 dX9_blow_72 dX9_blow_75 (by decide) wtRX9_30_34k wsRX9_98 wtRX9_30_34g wtRX9_30_34n wtRX9_30_34o (Nat.le_of_ble_eq_true rfl) (Nat.le_of_ble_eq_true rfl) (hκ _)
    · refine zz_iload_n F (i := 3) dX9_blow_20 rfl rfl ?_
      refine zz_iconst F (v := (0 : Int32)) dX9_blow_21 (by decide) ?_
      refine zz_bipush F (v := (30 : Int32)) dX9_blow_22 (by decide) ?_
      refine zz_bind ?_
      refine zz_callSr F (ρ := []) (so := fun q3 => [zi q3]) (Mo := fun q3 => [s0, s1, s2, s3]) (zfWB_outside a3 (0 : Int32) (30 : Int32)) dX9_blow_24 wcRX9_26 wy_yX9_outside rfl ⟨rel0, rfl, rfl, Nat.le_of_ble_eq_true rfl, Nat.le_of_ble_eq_true rfl, Nat.le_of_ble_eq_true rfl⟩ rfl (fun _ => rfl) (fun _ => rfl) fun q3 => ?_
      refine zz_if_ne F (tgt := 66) dX9_blow_27 (by decide) (fun h => zz_f h ?_) (fun h => zz_t h ?_)
      · exact zz_throw F (cls := "java/lang/IllegalArgumentException") dX9_blow_66 dX9_blow_69 dX9_blow_70 dX9_blow_72 dX9_blow_75 (by decide) wtRX9_30_34k wsRX9_98 wtRX9_30_34g wtRX9_30_34n wtRX9_30_34o (Nat.le_of_ble_eq_true rfl) (Nat.le_of_ble_eq_true rfl) (hκ _)
      · refine zz_iload F (i := 4) dX9_blow_30 rfl ?_
        refine zz_iconst F (v := (0 : Int32)) dX9_blow_32 (by decide) ?_
        refine zz_bipush F (v := (60 : Int32)) dX9_blow_33 (by decide) ?_
        refine zz_bind ?_
        refine zz_callSr F (ρ := []) (so := fun q4 => [zi q4]) (Mo := fun q4 => [s0, s1, s2, s3]) (zfWB_outside a4 (0 : Int32) (60 : Int32)) dX9_blow_35 wcRX9_26 wy_yX9_outside rfl ⟨rel0, rfl, rfl, Nat.le_of_ble_eq_true rfl, Nat.le_of_ble_eq_true rfl, Nat.le_of_ble_eq_true rfl⟩ rfl (fun _ => rfl) (fun _ => rfl) fun q4 => ?_
        refine zz_if_ne F (tgt := 66) dX9_blow_38 (by decide) (fun h => zz_f h ?_) (fun h => zz_t h ?_)
        · exact zz_throw F (cls := "java/lang/IllegalArgumentException") dX9_blow_66 dX9_blow_69 dX9_blow_70 dX9_blow_72 dX9_blow_75 (by decide) wtRX9_30_34k wsRX9_98 wtRX9_30_34g wtRX9_30_34n wtRX9_30_34o (Nat.le_of_ble_eq_true rfl) (Nat.le_of_ble_eq_true rfl) (hκ _)
        · refine zz_iload F (i := 5) dX9_blow_41 rfl ?_
          refine zz_bipush F (v := (-50 : Int32)) dX9_blow_43 (by decide) ?_
          refine zz_sipush F (v := (200 : Int32)) dX9_blow_45 (by decide) ?_
          refine zz_bind ?_
          refine zz_callSr F (ρ := []) (so := fun q5 => [zi q5]) (Mo := fun q5 => [s0, s1, s2, s3]) (zfWB_outside a5 (-50 : Int32) (200 : Int32)) dX9_blow_48 wcRX9_26 wy_yX9_outside rfl ⟨rel0, rfl, rfl, Nat.le_of_ble_eq_true rfl, Nat.le_of_ble_eq_true rfl, Nat.le_of_ble_eq_true rfl⟩ rfl (fun _ => rfl) (fun _ => rfl) fun q5 => ?_
          refine zz_if_ne F (tgt := 66) dX9_blow_51 (by decide) (fun h => zz_f h ?_) (fun h => zz_t h ?_)
          · exact zz_throw F (cls := "java/lang/IllegalArgumentException") dX9_blow_66 dX9_blow_69 dX9_blow_70 dX9_blow_72 dX9_blow_75 (by decide) wtRX9_30_34k wsRX9_98 wtRX9_30_34g wtRX9_30_34n wtRX9_30_34o (Nat.le_of_ble_eq_true rfl) (Nat.le_of_ble_eq_true rfl) (hκ _)
          · refine zz_iload F (i := 6) dX9_blow_54 rfl ?_
            refine zz_iconst F (v := (0 : Int32)) dX9_blow_56 (by decide) ?_
            refine zz_sipush F (v := (20000 : Int32)) dX9_blow_57 (by decide) ?_
            refine zz_bind ?_
            refine zz_callSr F (ρ := []) (so := fun q6 => [zi q6]) (Mo := fun q6 => [s0, s1, s2, s3]) (zfWB_outside a6 (0 : Int32) (20000 : Int32)) dX9_blow_60 wcRX9_26 wy_yX9_outside rfl ⟨rel0, rfl, rfl, Nat.le_of_ble_eq_true rfl, Nat.le_of_ble_eq_true rfl, Nat.le_of_ble_eq_true rfl⟩ rfl (fun _ => rfl) (fun _ => rfl) fun q6 => ?_
            refine zz_if_eq F (tgt := 76) dX9_blow_63 (by decide) (fun h => zz_t h ?_) (fun h => zz_f h ?_)
            · refine zz_aload_n F (i := 0) dX9_blow_76 rfl rfl ?_
              refine zz_getr F dX9_blow_77 wfRX9_10 zCl_8 rfl (⟨zlb rfl, zlb rfl, zlb rfl⟩) rfl (by decide) rfl (r' := 1) (by decide) ?_
              refine zz_getr F dX9_blow_80 wfRX9_100 zCl_3 rfl (⟨zlb rfl, zlb rfl, zlb rfl⟩) rfl (by decide) rfl (r' := 1) (by decide) ?_
              refine zz_iload_n F (i := 2) dX9_blow_83 rfl rfl ?_
              refine zz_iload_n F (i := 3) dX9_blow_84 rfl rfl ?_
              refine zz_iload F (i := 4) dX9_blow_85 rfl ?_
              refine zz_iload F (i := 5) dX9_blow_87 rfl ?_
              refine zz_iload F (i := 6) dX9_blow_89 rfl ?_
              refine zz_bind ?_
              refine zz_callVr F (ρ := [1]) (so := fun q7 => []) (Mo := fun q7 => [s0, q7, s2, s3]) (zfWe_set a2 a3 a4 a5 a6 s1) dX9_blow_91 wcRX9_104 wy_yX8_set rfl ⟨rel1, rfl, rfl, Nat.le_of_ble_eq_true rfl, Nat.le_of_ble_eq_true rfl, Nat.le_of_ble_eq_true rfl⟩ (⟨zlb rfl, zlb rfl, zlb rfl⟩) rfl rfl rfl (fun _ => rfl) (fun _ => rfl) fun q7 => ?_
              refine zz_aload_n F (i := 0) dX9_blow_94 rfl rfl ?_
              refine zz_getr F dX9_blow_95 wfRX9_10 zCl_8 rfl (⟨zlb rfl, zlb rfl, zlb rfl⟩) rfl (by decide) rfl (r' := 1) (by decide) ?_
              refine zz_iload_n F (i := 1) dX9_blow_98 rfl rfl ?_
              refine zz_bind ?_
              refine zz_callVr F (ρ := [1]) (so := fun q8 => [zi q8.1]) (Mo := fun q8 => [s0, q8.2, s2, s3]) (zfSe_passHours a1 q7) dX9_blow_99 wcRX9_110 wy_yX3_passHours rfl ⟨rel1, rfl, rfl, Nat.le_of_ble_eq_true rfl, Nat.le_of_ble_eq_true rfl, Nat.le_of_ble_eq_true rfl⟩ (⟨zlb rfl, zlb rfl, zlb rfl⟩) rfl rfl rfl (fun _ => rfl) (fun _ => rfl) fun q8 => ?_
              exact zz_ireturn F dX9_blow_102 rfl (hκ _)
            · exact zz_throw F (cls := "java/lang/IllegalArgumentException") dX9_blow_66 dX9_blow_69 dX9_blow_70 dX9_blow_72 dX9_blow_75 (by decide) wtRX9_30_34k wsRX9_98 wtRX9_30_34g wtRX9_30_34n wtRX9_30_34o (Nat.le_of_ble_eq_true rfl) (Nat.le_of_ble_eq_true rfl) (hκ _)
theorem zfWB_blow (a1 : Int32) (a2 : Int32) (a3 : Int32) (a4 : Int32) (a5 : Int32) (a6 : Int32)  (s0 : zM) (s1 : zM) (s2 : zM) (s3 : zM) : ∀ a, fWB_blow a1 a2 a3 a4 a5 a6 s0 s1 s2 s3 = some a → zMet yX9_blow cX9_blow 7 (some .int) 6 133 [(2, [1, 2, 3]), (0, []), (0, []), (1, [])] [zr 0 0 0, zi a1, zi a2, zi a3, zi a4, zi a5, zi a6] [s0, s1, s2, s3] ((zts (fun q => some (zi q.1)) (fun q => [s0, q.2, s2, s3]) (fun b => b.1) (fun b => [s0, b.2, s2, s3])) a) := fun a ha => zMet_of (L0 := [some (zr 0 0 0), some (zi a1), some (zi a2), some (zi a3), some (zi a4), some (zi a5), some (zi a6)]) (φ := Option.bind (fWB_blow a1 a2 a3 a4 a5 a6 s0 s1 s2 s3) (fun a => some ((zts (fun q => some (zi q.1)) (fun q => [s0, q.2, s2, s3]) (fun b => b.1) (fun b => [s0, b.2, s2, s3])) a))) (by decide) (fun _ => Nat.le_of_ble_eq_true rfl) (zl0 0 rfl) (fun X F => bfWB_blow F a1 a2 a3 a4 a5 a6 s0 s1 s2 s3 (fun _ => rfl)) (by rw [ha]; rfl)
