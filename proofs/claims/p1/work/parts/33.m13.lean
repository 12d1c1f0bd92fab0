theorem dX10_wear_0 : decode cX10_wear 0 = .ok (.aload_n 2, 1) := by decide +kernel
theorem dX10_wear_1 : decode cX10_wear 1 = .ok (.iconst 0, 1) := by decide +kernel
theorem dX10_wear_2 : decode cX10_wear 2 = .ok (.aload_n 2, 1) := by decide +kernel
theorem dX10_wear_3 : decode cX10_wear 3 = .ok (.iconst 5, 1) := by decide +kernel
theorem dX10_wear_4 : decode cX10_wear 4 = .ok (.iaload, 1) := by decide +kernel
theorem dX10_wear_5 : decode cX10_wear 5 = .ok (.bipush 12, 2) := by decide +kernel
theorem dX10_wear_7 : decode cX10_wear 7 = .ok (.if_icmp .le 7, 3) := by decide +kernel
theorem dX10_wear_10 : decode cX10_wear 10 = .ok (.iconst 2, 1) := by decide +kernel
theorem dX10_wear_11 : decode cX10_wear 11 = .ok (.goto 4, 3) := by decide +kernel
theorem dX10_wear_14 : decode cX10_wear 14 = .ok (.iconst 1, 1) := by decide +kernel
theorem dX10_wear_15 : decode cX10_wear 15 = .ok (.invokestatic 157, 3) := by decide +kernel
theorem dX10_wear_18 : decode cX10_wear 18 = .ok (.aload_n 2, 1) := by decide +kernel
theorem dX10_wear_19 : decode cX10_wear 19 = .ok (.iconst 1, 1) := by decide +kernel
theorem dX10_wear_20 : decode cX10_wear 20 = .ok (.aload_n 2, 1) := by decide +kernel
theorem dX10_wear_21 : decode cX10_wear 21 = .ok (.iconst 5, 1) := by decide +kernel
theorem dX10_wear_22 : decode cX10_wear 22 = .ok (.iaload, 1) := by decide +kernel
theorem dX10_wear_23 : decode cX10_wear 23 = .ok (.aload_n 2, 1) := by decide +kernel
theorem dX10_wear_24 : decode cX10_wear 24 = .ok (.bipush 22, 2) := by decide +kernel
theorem dX10_wear_26 : decode cX10_wear 26 = .ok (.iaload, 1) := by decide +kernel
theorem dX10_wear_27 : decode cX10_wear 27 = .ok (.isub, 1) := by decide +kernel
theorem dX10_wear_28 : decode cX10_wear 28 = .ok (.invokestatic 99, 3) := by decide +kernel
theorem dX10_wear_31 : decode cX10_wear 31 = .ok (.iconst 5, 1) := by decide +kernel
theorem dX10_wear_32 : decode cX10_wear 32 = .ok (.if_icmp .lt 7, 3) := by decide +kernel
theorem dX10_wear_35 : decode cX10_wear 35 = .ok (.iconst 3, 1) := by decide +kernel
theorem dX10_wear_36 : decode cX10_wear 36 = .ok (.goto 4, 3) := by decide +kernel
theorem dX10_wear_39 : decode cX10_wear 39 = .ok (.iconst 1, 1) := by decide +kernel
theorem dX10_wear_40 : decode cX10_wear 40 = .ok (.invokestatic 157, 3) := by decide +kernel
theorem dX10_wear_43 : decode cX10_wear 43 = .ok (.aload_n 2, 1) := by decide +kernel
theorem dX10_wear_44 : decode cX10_wear 44 = .ok (.iconst 2, 1) := by decide +kernel
theorem dX10_wear_45 : decode cX10_wear 45 = .ok (.aload_n 0, 1) := by decide +kernel
theorem dX10_wear_46 : decode cX10_wear 46 = .ok (.aload_n 2, 1) := by decide +kernel
theorem dX10_wear_47 : decode cX10_wear 47 = .ok (.aload_n 0, 1) := by decide +kernel
theorem dX10_wear_48 : decode cX10_wear 48 = .ok (.getfield 16, 3) := by decide +kernel
theorem dX10_wear_51 : decode cX10_wear 51 = .ok (.iload_n 1, 1) := by decide +kernel
theorem dX10_wear_52 : decode cX10_wear 52 = .ok (.aaload, 1) := by decide +kernel
theorem dX10_wear_53 : decode cX10_wear 53 = .ok (.invokevirtual 161, 3) := by decide +kernel
theorem dX10_wear_56 : decode cX10_wear 56 = .ok (.aload_n 2, 1) := by decide +kernel
theorem dX10_wear_57 : decode cX10_wear 57 = .ok (.iconst 4, 1) := by decide +kernel
theorem dX10_wear_58 : decode cX10_wear 58 = .ok (.iaload, 1) := by decide +kernel
theorem dX10_wear_59 : decode cX10_wear 59 = .ok (.invokestatic 99, 3) := by decide +kernel
theorem dX10_wear_62 : decode cX10_wear 62 = .ok (.iadd, 1) := by decide +kernel
theorem dX10_wear_63 : decode cX10_wear 63 = .ok (.invokestatic 157, 3) := by decide +kernel
theorem dX10_wear_66 : decode cX10_wear 66 = .ok (.return_, 1) := by decide +kernel
theorem wcRX10_157 : Cond.methodLink RX10 157 yX10_wears ∈ zTg ∧ Cond.static yX10_wears ∈ zTg ∧ Cond.initialized yX10_wears.cls ∈ zTg ∧ Cond.code yX10_wears cX10_wears 3 none ∈ zTg := ⟨zm_f 1167 (by decide +kernel) rfl, zm_f 1168 (by decide +kernel) rfl, zm_f 47 (by decide +kernel) rfl, zm_f 1169 (by decide +kernel) rfl⟩
theorem wy_yX10_wears : yX10_wears.cls ≠ "java/lang/invoke/MethodHandle" ∧ yX10_wears.cls ≠ "java/lang/invoke/VarHandle" ∧ (parseMethodDescriptor yX10_wears.desc).map (fun d => d.parameters.length) = some 3 := by decide +kernel
theorem wfRX10_16 : zFl RX10 16 9 1 := ⟨_, rfl, by decide, zm_f 970 (by decide +kernel) rfl⟩
theorem wcRX10_161 : Cond.methodLink RX10 161 yX10_load ∈ zTg ∧ Cond.instanceMethod yX10_load ∈ zTg ∧ Cond.selects RX10 yX10_load yX10_load ∈ zTg ∧ Cond.initialized RX10 ∈ zTg ∧ Cond.code yX10_load cX10_load 8 (some .int) ∈ zTg := ⟨zm_f 1170 (by decide +kernel) rfl, zm_f 1172 (by decide +kernel) rfl, zm_f 27 (by decide +kernel) rfl, zm_f 47 (by decide +kernel) rfl, zm_f 1173 (by decide +kernel) rfl⟩
theorem wy_yX10_load : yX10_load.cls = RX10 ∧ yX10_load.cls ≠ "java/lang/invoke/MethodHandle" ∧ yX10_load.cls ≠ "java/lang/invoke/VarHandle" ∧ (parseMethodDescriptor yX10_load.desc).map (fun d => d.parameters.length) = some 2 := by decide +kernel
def fMS_wear (a1 : Int32) (i : Nat) (s0 : zM) : Option (zM) :=
  zix (5 : Int32) 23 fun j1 =>
  Option.bind (if (s0 8 i j1) ≤ (12 : Int32) then
  some (1 : Int32)
else
  some (2 : Int32)) fun q2 =>
  Option.bind (fMS_wears i (0 : Int32) q2 s0) fun q6 =>
  zix (5 : Int32) 23 fun j7 =>
  zix (22 : Int32) 23 fun j8 =>
  Option.bind (if (zabs ((q6 8 i j7) - (q6 8 i j8))) < (5 : Int32) then
  some (1 : Int32)
else
  some (3 : Int32)) fun q9 =>
  Option.bind (fMS_wears i (1 : Int32) q9 q6) fun q13 =>
  zix a1 8 fun j14 =>
  Option.bind (fMS_load i j14 q13) fun q15 =>
  zix (4 : Int32) 23 fun j16 =>
  Option.bind (fMS_wears i (2 : Int32) (q15.1 + (zabs (q15.2 8 i j16))) q15.2) fun q17 =>
  some q17
set_option maxHeartbeats 4000000 in
set_option maxRecDepth 20000 in
theorem bfMS_wear {X : zX} (F : zFr X cX10_wear 3 RX10 none) (a1 : Int32) (i : Nat) (hi : i < 8) (s0 : zM) {κ : zM → Option zO} (hκ : ∀ a, κ a = some ((fun a => ((.inl ((fun _ => (none : Option zV)) a), (fun q => [q]) a) : zO)) a)) : zZ X [(3, [])] 2 87 3 0 [some (zr 0 0 0), some (zi a1), some (zr 0 8 i)] [] [s0] (Option.bind (fMS_wear a1 i s0) κ) := by
  unfold fMS_wear
  refine zz_aload_n F (i := 2) dX10_wear_0 rfl rfl ?_
  refine zz_iconst F (v := (0 : Int32)) dX10_wear_1 (by decide) ?_
  refine zz_aload_n F (i := 2) dX10_wear_2 rfl rfl ?_
  refine zz_iconst F (v := (5 : Int32)) dX10_wear_3 (by decide) ?_
  refine zz_ix fun j1 hj1 hinj1 hej1 => zz_ial F dX10_wear_4 rfl (⟨zlb rfl, zlb rfl, hi⟩) rfl hinj1 hej1 ?_
  refine zz_bipush F (v := (12 : Int32)) dX10_wear_5 (by decide) ?_
  refine zz_join (pj := 15) (Lj := fun q2 => [some (zr 0 0 0), some (zi a1), some (zr 0 8 i)]) (Sj := fun q2 => [zi q2, zi (0 : Int32), zr 0 8 i]) (Mj := fun q2 => [s0]) (fun q2 => ?_) (fun κ4 hj3 => ?_)
  · refine zz_bind ?_
    refine zz_callSr F (ρ := [0]) (so := fun q6 => []) (Mo := fun q6 => [q6]) (zfMS_wears i (0 : Int32) q2 hi s0) dX10_wear_15 wcRX10_157 wy_yX10_wears rfl ⟨rel18, rfl, rfl, Nat.le_of_ble_eq_true rfl, Nat.le_of_ble_eq_true rfl, Nat.le_of_ble_eq_true rfl⟩ rfl (fun _ => rfl) (fun _ => rfl) fun q6 => ?_
    refine zz_aload_n F (i := 2) dX10_wear_18 rfl rfl ?_
    refine zz_iconst F (v := (1 : Int32)) dX10_wear_19 (by decide) ?_
    refine zz_aload_n F (i := 2) dX10_wear_20 rfl rfl ?_
    refine zz_iconst F (v := (5 : Int32)) dX10_wear_21 (by decide) ?_
    refine zz_ix fun j7 hj7 hinj7 hej7 => zz_ial F dX10_wear_22 rfl (⟨zlb rfl, zlb rfl, hi⟩) rfl hinj7 hej7 ?_
    refine zz_aload_n F (i := 2) dX10_wear_23 rfl rfl ?_
    refine zz_bipush F (v := (22 : Int32)) dX10_wear_24 (by decide) ?_
    refine zz_ix fun j8 hj8 hinj8 hej8 => zz_ial F dX10_wear_26 rfl (⟨zlb rfl, zlb rfl, hi⟩) rfl hinj8 hej8 ?_
    refine zz_isub F dX10_wear_27 ?_
    refine zz_abs F dX10_wear_28 wmRX10_99 wMath_abs (Nat.le_of_ble_eq_true rfl) (Nat.le_of_ble_eq_true rfl) ?_
    refine zz_iconst F (v := (5 : Int32)) dX10_wear_31 (by decide) ?_
    refine zz_join (pj := 40) (Lj := fun q9 => [some (zr 0 0 0), some (zi a1), some (zr 0 8 i)]) (Sj := fun q9 => [zi q9, zi (1 : Int32), zr 0 8 i]) (Mj := fun q9 => [q6]) (fun q9 => ?_) (fun κ11 hj10 => ?_)
    · refine zz_bind ?_
      refine zz_callSr F (ρ := [0]) (so := fun q13 => []) (Mo := fun q13 => [q13]) (zfMS_wears i (1 : Int32) q9 hi q6) dX10_wear_40 wcRX10_157 wy_yX10_wears rfl ⟨rel18, rfl, rfl, Nat.le_of_ble_eq_true rfl, Nat.le_of_ble_eq_true rfl, Nat.le_of_ble_eq_true rfl⟩ rfl (fun _ => rfl) (fun _ => rfl) fun q13 => ?_
      refine zz_aload_n F (i := 2) dX10_wear_43 rfl rfl ?_
      refine zz_iconst F (v := (2 : Int32)) dX10_wear_44 (by decide) ?_
      refine zz_aload_n F (i := 0) dX10_wear_45 rfl rfl ?_
      refine zz_aload_n F (i := 2) dX10_wear_46 rfl rfl ?_
      refine zz_aload_n F (i := 0) dX10_wear_47 rfl rfl ?_
      refine zz_getr F dX10_wear_48 wfRX10_16 zCl_9 rfl (⟨zlb rfl, zlb rfl, zlb rfl⟩) rfl (by decide) rfl (r' := 0) (by decide) ?_
      refine zz_iload_n F (i := 1) dX10_wear_51 rfl rfl ?_
      refine zz_ix fun j14 hj14 hinj14 hej14 => zz_aal F dX10_wear_52 rfl (⟨zlb rfl, zlb rfl, zlb rfl⟩) rfl (by decide) rfl hinj14 hej14 rfl ?_
      refine zz_bind ?_
      refine zz_callVr F (ρ := [0]) (so := fun q15 => [zi q15.1, zi (2 : Int32), zr 0 8 i]) (Mo := fun q15 => [q15.2]) (zfMS_load i j14 hi hj14 q13) dX10_wear_53 wcRX10_161 wy_yX10_load rfl ⟨rel18, rfl, rfl, Nat.le_of_ble_eq_true rfl, Nat.le_of_ble_eq_true rfl, Nat.le_of_ble_eq_true rfl⟩ (⟨zlb rfl, zlb rfl, zlb rfl⟩) rfl rfl rfl (fun _ => rfl) (fun _ => rfl) fun q15 => ?_
      refine zz_aload_n F (i := 2) dX10_wear_56 rfl rfl ?_
      refine zz_iconst F (v := (4 : Int32)) dX10_wear_57 (by decide) ?_
      refine zz_ix fun j16 hj16 hinj16 hej16 => zz_ial F dX10_wear_58 rfl (⟨zlb rfl, zlb rfl, hi⟩) rfl hinj16 hej16 ?_
      refine zz_abs F dX10_wear_59 wmRX10_99 wMath_abs (Nat.le_of_ble_eq_true rfl) (Nat.le_of_ble_eq_true rfl) ?_
      refine zz_iadd F dX10_wear_62 ?_
      refine zz_bind ?_
      refine zz_callSr F (ρ := [0]) (so := fun q17 => []) (Mo := fun q17 => [q17]) (zfMS_wears i (2 : Int32) (q15.1 + (zabs (q15.2 8 i j16))) hi q15.2) dX10_wear_63 wcRX10_157 wy_yX10_wears rfl ⟨rel18, rfl, rfl, Nat.le_of_ble_eq_true rfl, Nat.le_of_ble_eq_true rfl, Nat.le_of_ble_eq_true rfl⟩ rfl (fun _ => rfl) (fun _ => rfl) fun q17 => ?_
      exact zz_return F dX10_wear_66 rfl (hκ _)
    · refine zz_icmp_lt F (tgt := 39) dX10_wear_32 (by decide) (fun h => zz_t h ?_) (fun h => zz_f h ?_)
      · refine zz_iconst F (v := (1 : Int32)) dX10_wear_39 (by decide) ?_
        exact zz_sub (zs_k (zs_k (zs_k zs_z))) (hj10 (1 : Int32))
      · refine zz_iconst F (v := (3 : Int32)) dX10_wear_35 (by decide) ?_
        refine zz_goto F (tgt := 40) dX10_wear_36 (by decide) ?_
        exact zz_sub (zs_k (zs_k (zs_k zs_z))) (hj10 (3 : Int32))
  · refine zz_icmp_le F (tgt := 14) dX10_wear_7 (by decide) (fun h => zz_t h ?_) (fun h => zz_f h ?_)
    · refine zz_iconst F (v := (1 : Int32)) dX10_wear_14 (by decide) ?_
      exact zz_sub (zs_k (zs_k (zs_k zs_z))) (hj3 (1 : Int32))
    · refine zz_iconst F (v := (2 : Int32)) dX10_wear_10 (by decide) ?_
      refine zz_goto F (tgt := 15) dX10_wear_11 (by decide) ?_
      exact zz_sub (zs_k (zs_k (zs_k zs_z))) (hj3 (2 : Int32))
theorem zfMS_wear (a1 : Int32) (i : Nat) (hi : i < 8) (s0 : zM) : ∀ a, fMS_wear a1 i s0 = some a → zMet yX10_wear cX10_wear 3 none 2 87 [(3, [])] [zr 0 0 0, zi a1, zr 0 8 i] [s0] ((fun a => ((.inl ((fun _ => (none : Option zV)) a), (fun q => [q]) a) : zO)) a) := fun a ha => zMet_of (L0 := [some (zr 0 0 0), some (zi a1), some (zr 0 8 i)]) (φ := Option.bind (fMS_wear a1 i s0) (fun a => some ((fun a => ((.inl ((fun _ => (none : Option zV)) a), (fun q => [q]) a) : zO)) a))) (by decide) (fun _ => Nat.le_of_ble_eq_true rfl) (zl0 0 rfl) (fun X F => bfMS_wear F a1 i hi s0 (fun _ => rfl)) (by rw [ha]; rfl)

theorem dX10_work_0 : decode cX10_work 0 = .ok (.aload_n 1, 1) := by decide +kernel
theorem dX10_work_1 : decode cX10_work 1 = .ok (.iconst 2, 1) := by decide +kernel
theorem dX10_work_2 : decode cX10_work 2 = .ok (.iaload, 1) := by decide +kernel
theorem dX10_work_3 : decode cX10_work 3 = .ok (.ifCond .ne 4, 3) := by decide +kernel
theorem dX10_work_6 : decode cX10_work 6 = .ok (.return_, 1) := by decide +kernel
theorem dX10_work_7 : decode cX10_work 7 = .ok (.aload_n 1, 1) := by decide +kernel
theorem dX10_work_8 : decode cX10_work 8 = .ok (.iconst 4, 1) := by decide +kernel
theorem dX10_work_9 : decode cX10_work 9 = .ok (.iaload, 1) := by decide +kernel
theorem dX10_work_10 : decode cX10_work 10 = .ok (.ifCond .le 46, 3) := by decide +kernel
theorem dX10_work_13 : decode cX10_work 13 = .ok (.aload_n 1, 1) := by decide +kernel
theorem dX10_work_14 : decode cX10_work 14 = .ok (.iconst 4, 1) := by decide +kernel
theorem dX10_work_15 : decode cX10_work 15 = .ok (.dup2, 1) := by decide +kernel
theorem dX10_work_16 : decode cX10_work 16 = .ok (.iaload, 1) := by decide +kernel
theorem dX10_work_17 : decode cX10_work 17 = .ok (.iconst 1, 1) := by decide +kernel
theorem dX10_work_18 : decode cX10_work 18 = .ok (.isub, 1) := by decide +kernel
theorem dX10_work_19 : decode cX10_work 19 = .ok (.iastore, 1) := by decide +kernel
theorem dX10_work_20 : decode cX10_work 20 = .ok (.aload_n 1, 1) := by decide +kernel
theorem dX10_work_21 : decode cX10_work 21 = .ok (.iconst 4, 1) := by decide +kernel
theorem dX10_work_22 : decode cX10_work 22 = .ok (.iaload, 1) := by decide +kernel
theorem dX10_work_23 : decode cX10_work 23 = .ok (.ifCond .ne 33, 3) := by decide +kernel
theorem dX10_work_26 : decode cX10_work 26 = .ok (.aload_n 0, 1) := by decide +kernel
theorem dX10_work_27 : decode cX10_work 27 = .ok (.getfield 11, 3) := by decide +kernel
theorem dX10_work_30 : decode cX10_work 30 = .ok (.aload_n 1, 1) := by decide +kernel
theorem dX10_work_31 : decode cX10_work 31 = .ok (.iconst 1, 1) := by decide +kernel
theorem dX10_work_32 : decode cX10_work 32 = .ok (.iaload, 1) := by decide +kernel
theorem dX10_work_33 : decode cX10_work 33 = .ok (.aaload, 1) := by decide +kernel
theorem dX10_work_34 : decode cX10_work 34 = .ok (.bipush 11, 2) := by decide +kernel
theorem dX10_work_36 : decode cX10_work 36 = .ok (.aload_n 1, 1) := by decide +kernel
theorem dX10_work_37 : decode cX10_work 37 = .ok (.iconst 3, 1) := by decide +kernel
theorem dX10_work_38 : decode cX10_work 38 = .ok (.iaload, 1) := by decide +kernel
theorem dX10_work_39 : decode cX10_work 39 = .ok (.iadd, 1) := by decide +kernel
theorem dX10_work_40 : decode cX10_work 40 = .ok (.iconst 0, 1) := by decide +kernel
theorem dX10_work_41 : decode cX10_work 41 = .ok (.iastore, 1) := by decide +kernel
theorem dX10_work_42 : decode cX10_work 42 = .ok (.aload_n 1, 1) := by decide +kernel
theorem dX10_work_43 : decode cX10_work 43 = .ok (.iconst 3, 1) := by decide +kernel
theorem dX10_work_44 : decode cX10_work 44 = .ok (.iconst (-1), 1) := by decide +kernel
theorem dX10_work_45 : decode cX10_work 45 = .ok (.iastore, 1) := by decide +kernel
theorem dX10_work_46 : decode cX10_work 46 = .ok (.aload_n 0, 1) := by decide +kernel
theorem dX10_work_47 : decode cX10_work 47 = .ok (.dup, 1) := by decide +kernel
theorem dX10_work_48 : decode cX10_work 48 = .ok (.getfield 85, 3) := by decide +kernel
theorem dX10_work_51 : decode cX10_work 51 = .ok (.iconst 1, 1) := by decide +kernel
theorem dX10_work_52 : decode cX10_work 52 = .ok (.iadd, 1) := by decide +kernel
theorem dX10_work_53 : decode cX10_work 53 = .ok (.putfield 85, 3) := by decide +kernel
theorem dX10_work_56 : decode cX10_work 56 = .ok (.aload_n 1, 1) := by decide +kernel
theorem dX10_work_57 : decode cX10_work 57 = .ok (.iconst 5, 1) := by decide +kernel
theorem dX10_work_58 : decode cX10_work 58 = .ok (.dup2, 1) := by decide +kernel
theorem dX10_work_59 : decode cX10_work 59 = .ok (.iaload, 1) := by decide +kernel
theorem dX10_work_60 : decode cX10_work 60 = .ok (.aload_n 0, 1) := by decide +kernel
theorem dX10_work_61 : decode cX10_work 61 = .ok (.getfield 67, 3) := by decide +kernel
theorem dX10_work_64 : decode cX10_work 64 = .ok (.aload_n 1, 1) := by decide +kernel
theorem dX10_work_65 : decode cX10_work 65 = .ok (.iconst 0, 1) := by decide +kernel
theorem dX10_work_66 : decode cX10_work 66 = .ok (.iaload, 1) := by decide +kernel
theorem dX10_work_67 : decode cX10_work 67 = .ok (.bipush 10, 2) := by decide +kernel
theorem dX10_work_69 : decode cX10_work 69 = .ok (.iadd, 1) := by decide +kernel
theorem dX10_work_70 : decode cX10_work 70 = .ok (.if_icmp .le 7, 3) := by decide +kernel
theorem dX10_work_73 : decode cX10_work 73 = .ok (.iconst 1, 1) := by decide +kernel
theorem dX10_work_74 : decode cX10_work 74 = .ok (.goto 4, 3) := by decide +kernel
theorem dX10_work_77 : decode cX10_work 77 = .ok (.iconst 0, 1) := by decide +kernel
theorem dX10_work_78 : decode cX10_work 78 = .ok (.iadd, 1) := by decide +kernel
theorem dX10_work_79 : decode cX10_work 79 = .ok (.iastore, 1) := by decide +kernel
theorem dX10_work_80 : decode cX10_work 80 = .ok (.return_, 1) := by decide +kernel
theorem wfRX10_85 : zFl RX10 85 9 21 := ⟨_, rfl, by decide, zm_f 1009 (by decide +kernel) rfl⟩
theorem wpRX10_85 : zFw RX10 85 9 21 .int := ⟨_, rfl, by decide, zm_f 1009 (by decide +kernel) rfl, rfl, by decide +kernel⟩
theorem wfRX10_67 : zFl RX10 67 9 13 := ⟨_, rfl, by decide, zm_f 993 (by decide +kernel) rfl⟩
def fMS_work (i : Nat) (s0 : zM) : Option (zM) :=
  zix (2 : Int32) 6 fun j1 =>
  if (s0 11 i j1) = 0 then
  some s0
else
  zix (4 : Int32) 6 fun j2 =>
    Option.bind (if (s0 11 i j2) ≤ 0 then
    some s0
  else
    zix (4 : Int32) 6 fun j7 =>
      zix (4 : Int32) 6 fun j8 =>
      zlet (zu s0 11 i j8 ((s0 11 i j7) - (1 : Int32))) fun s0_9 =>
      zix (4 : Int32) 6 fun j10 =>
      if (s0_9 11 i j10) = 0 then
      zix (1 : Int32) 6 fun j11 =>
        zix (s0_9 11 i j11) 8 fun j12 =>
        zix (3 : Int32) 6 fun j13 =>
        zix ((11 : Int32) + (s0_9 11 i j13)) 23 fun j14 =>
        zlet (zu s0_9 8 j12 j14 (0 : Int32)) fun s0_15 =>
        zix (3 : Int32) 6 fun j16 =>
        zlet (zu s0_15 11 i j16 (-1 : Int32)) fun s0_17 =>
        zlet (zu s0_17 0 0 21 ((s0_17 0 0 21) + (1 : Int32))) fun s0_18 =>
        some s0_18
    else
      some s0_9) fun q3 =>
    zix (5 : Int32) 6 fun j19 =>
    zix (0 : Int32) 6 fun j20 =>
    Option.bind (if (q3 0 0 13) ≤ ((q3 11 i j20) + (10 : Int32)) then
    some (0 : Int32)
  else
    some (1 : Int32)) fun q21 =>
    zix (5 : Int32) 6 fun j25 =>
    zlet (zu q3 11 i j25 ((q3 11 i j19) + q21)) fun s0_26 =>
    some s0_26
set_option maxHeartbeats 4000000 in
set_option maxRecDepth 20000 in
theorem bfMS_work {X : zX} (F : zFr X cX10_work 2 RX10 none) (i : Nat) (hi : i < 3) (s0 : zM) {κ : zM → Option zO} (hκ : ∀ a, κ a = some ((fun a => ((.inl ((fun _ => (none : Option zV)) a), (fun q => [q]) a) : zO)) a)) : zZ X [(3, [])] 0 0 2 0 [some (zr 0 0 0), some (zr 0 11 i)] [] [s0] (Option.bind (fMS_work i s0) κ) := by
  unfold fMS_work
  refine zz_aload_n F (i := 1) dX10_work_0 rfl rfl ?_
  refine zz_iconst F (v := (2 : Int32)) dX10_work_1 (by decide) ?_
  refine zz_ix fun j1 hj1 hinj1 hej1 => zz_ial F dX10_work_2 rfl (⟨zlb rfl, zlb rfl, hi⟩) rfl hinj1 hej1 ?_
  refine zz_if_ne F (tgt := 7) dX10_work_3 (by decide) (fun h => zz_f h ?_) (fun h => zz_t h ?_)
  · refine zz_aload_n F (i := 1) dX10_work_7 rfl rfl ?_
    refine zz_iconst F (v := (4 : Int32)) dX10_work_8 (by decide) ?_
    refine zz_ix fun j2 hj2 hinj2 hej2 => zz_ial F dX10_work_9 rfl (⟨zlb rfl, zlb rfl, hi⟩) rfl hinj2 hej2 ?_
    refine zz_join (pj := 56) (Lj := fun q3 => [some (zr 0 0 0), some (zr 0 11 i)]) (Sj := fun q3 => []) (Mj := fun q3 => [q3]) (fun q3 => ?_) (fun κ5 hj4 => ?_)
    · refine zz_aload_n F (i := 1) dX10_work_56 rfl rfl ?_
      refine zz_iconst F (v := (5 : Int32)) dX10_work_57 (by decide) ?_
      refine zz_dup2 F dX10_work_58 rfl rfl ?_
      refine zz_ix fun j19 hj19 hinj19 hej19 => zz_ial F dX10_work_59 rfl (⟨zlb rfl, zlb rfl, hi⟩) rfl hinj19 hej19 ?_
      refine zz_aload_n F (i := 0) dX10_work_60 rfl rfl ?_
      refine zz_getf F dX10_work_61 wfRX10_67 zCl_9 rfl (⟨zlb rfl, zlb rfl, zlb rfl⟩) rfl (by decide) rfl rfl ?_
      refine zz_aload_n F (i := 1) dX10_work_64 rfl rfl ?_
      refine zz_iconst F (v := (0 : Int32)) dX10_work_65 (by decide) ?_
      refine zz_ix fun j20 hj20 hinj20 hej20 => zz_ial F dX10_work_66 rfl (⟨zlb rfl, zlb rfl, hi⟩) rfl hinj20 hej20 ?_
      refine zz_bipush F (v := (10 : Int32)) dX10_work_67 (by decide) ?_
      refine zz_iadd F dX10_work_69 ?_
      refine zz_join (pj := 78) (Lj := fun q21 => [none, none]) (Sj := fun q21 => [zi q21, zi (q3 11 i j19), zi (5 : Int32), zr 0 11 i]) (Mj := fun q21 => [q3]) (fun q21 => ?_) (fun κ23 hj22 => ?_)
      · refine zz_iadd F dX10_work_78 ?_
        refine zz_ix fun j25 hj25 hinj25 hej25 => zz_ias F (Ms' := [(zu q3 11 i j25 ((q3 11 i j19) + q21))]) dX10_work_79 rfl (⟨zlb rfl, zlb rfl, hi⟩) rfl hinj25 hej25 rfl ?_
        refine zz_letm (Mf := fun s0_26 => [s0_26]) fun s0_26 => ?_
        exact zz_return F dX10_work_80 rfl (hκ _)
      · refine zz_icmp_le F (tgt := 77) dX10_work_70 (by decide) (fun h => zz_t h ?_) (fun h => zz_f h ?_)
        · refine zz_iconst F (v := (0 : Int32)) dX10_work_77 (by decide) ?_
          exact zz_sub (zs_n (zs_n zs_z)) (hj22 (0 : Int32))
        · refine zz_iconst F (v := (1 : Int32)) dX10_work_73 (by decide) ?_
          refine zz_goto F (tgt := 78) dX10_work_74 (by decide) ?_
          exact zz_sub (zs_n (zs_n zs_z)) (hj22 (1 : Int32))
    · refine zz_if_le F (tgt := 56) dX10_work_10 (by decide) (fun h => zz_t h ?_) (fun h => zz_f h ?_)
      · exact zz_sub (zs_k (zs_k zs_z)) (hj4 s0)
      · refine zz_aload_n F (i := 1) dX10_work_13 rfl rfl ?_
        refine zz_iconst F (v := (4 : Int32)) dX10_work_14 (by decide) ?_
        refine zz_dup2 F dX10_work_15 rfl rfl ?_
        refine zz_ix fun j7 hj7 hinj7 hej7 => zz_ial F dX10_work_16 rfl (⟨zlb rfl, zlb rfl, hi⟩) rfl hinj7 hej7 ?_
        refine zz_iconst F (v := (1 : Int32)) dX10_work_17 (by decide) ?_
        refine zz_isub F dX10_work_18 ?_
        refine zz_ix fun j8 hj8 hinj8 hej8 => zz_ias F (Ms' := [(zu s0 11 i j8 ((s0 11 i j7) - (1 : Int32)))]) dX10_work_19 rfl (⟨zlb rfl, zlb rfl, hi⟩) rfl hinj8 hej8 rfl ?_
        refine zz_letm (Mf := fun s0_9 => [s0_9]) fun s0_9 => ?_
        refine zz_aload_n F (i := 1) dX10_work_20 rfl rfl ?_
        refine zz_iconst F (v := (4 : Int32)) dX10_work_21 (by decide) ?_
        refine zz_ix fun j10 hj10 hinj10 hej10 => zz_ial F dX10_work_22 rfl (⟨zlb rfl, zlb rfl, hi⟩) rfl hinj10 hej10 ?_
        refine zz_if_ne F (tgt := 56) dX10_work_23 (by decide) (fun h => zz_f h ?_) (fun h => zz_t h ?_)
        · exact zz_sub (zs_k (zs_k zs_z)) (hj4 s0_9)
        · refine zz_aload_n F (i := 0) dX10_work_26 rfl rfl ?_
          refine zz_getr F dX10_work_27 wfRX10_11 zCl_9 rfl (⟨zlb rfl, zlb rfl, zlb rfl⟩) rfl (by decide) rfl (r' := 0) (by decide) ?_
          refine zz_aload_n F (i := 1) dX10_work_30 rfl rfl ?_
          refine zz_iconst F (v := (1 : Int32)) dX10_work_31 (by decide) ?_
          refine zz_ix fun j11 hj11 hinj11 hej11 => zz_ial F dX10_work_32 rfl (⟨zlb rfl, zlb rfl, hi⟩) rfl hinj11 hej11 ?_
          refine zz_ix fun j12 hj12 hinj12 hej12 => zz_aal F dX10_work_33 rfl (⟨zlb rfl, zlb rfl, zlb rfl⟩) rfl (by decide) rfl hinj12 hej12 rfl ?_
          refine zz_bipush F (v := (11 : Int32)) dX10_work_34 (by decide) ?_
          refine zz_aload_n F (i := 1) dX10_work_36 rfl rfl ?_
          refine zz_iconst F (v := (3 : Int32)) dX10_work_37 (by decide) ?_
          refine zz_ix fun j13 hj13 hinj13 hej13 => zz_ial F dX10_work_38 rfl (⟨zlb rfl, zlb rfl, hi⟩) rfl hinj13 hej13 ?_
          refine zz_iadd F dX10_work_39 ?_
          refine zz_iconst F (v := (0 : Int32)) dX10_work_40 (by decide) ?_
          refine zz_ix fun j14 hj14 hinj14 hej14 => zz_ias F (Ms' := [(zu s0_9 8 j12 j14 (0 : Int32))]) dX10_work_41 rfl (⟨zlb rfl, zlb rfl, hj12⟩) rfl hinj14 hej14 rfl ?_
          refine zz_letm (Mf := fun s0_15 => [s0_15]) fun s0_15 => ?_
          refine zz_aload_n F (i := 1) dX10_work_42 rfl rfl ?_
          refine zz_iconst F (v := (3 : Int32)) dX10_work_43 (by decide) ?_
          refine zz_iconst F (v := (-1 : Int32)) dX10_work_44 (by decide) ?_
          refine zz_ix fun j16 hj16 hinj16 hej16 => zz_ias F (Ms' := [(zu s0_15 11 i j16 (-1 : Int32))]) dX10_work_45 rfl (⟨zlb rfl, zlb rfl, hi⟩) rfl hinj16 hej16 rfl ?_
          refine zz_letm (Mf := fun s0_17 => [s0_17]) fun s0_17 => ?_
          refine zz_aload_n F (i := 0) dX10_work_46 rfl rfl ?_
          refine zz_dup F dX10_work_47 rfl ?_
          refine zz_getf F dX10_work_48 wfRX10_85 zCl_9 rfl (⟨zlb rfl, zlb rfl, zlb rfl⟩) rfl (by decide) rfl rfl ?_
          refine zz_iconst F (v := (1 : Int32)) dX10_work_51 (by decide) ?_
          refine zz_iadd F dX10_work_52 ?_
          refine zz_put F (Ms' := [(zu s0_17 0 0 21 ((s0_17 0 0 21) + (1 : Int32)))]) dX10_work_53 wpRX10_85 zCl_9 rfl (⟨zlb rfl, zlb rfl, zlb rfl⟩) rfl (by decide) rfl rfl rfl ?_
          refine zz_letm (Mf := fun s0_18 => [s0_18]) fun s0_18 => ?_
          exact zz_sub (zs_k (zs_k zs_z)) (hj4 s0_18)
  · exact zz_return F dX10_work_6 rfl (hκ _)
theorem zfMS_work (i : Nat) (hi : i < 3) (s0 : zM) : ∀ a, fMS_work i s0 = some a → zMet yX10_work cX10_work 2 none 0 0 [(3, [])] [zr 0 0 0, zr 0 11 i] [s0] ((fun a => ((.inl ((fun _ => (none : Option zV)) a), (fun q => [q]) a) : zO)) a) := fun a ha => zMet_of (L0 := [some (zr 0 0 0), some (zr 0 11 i)]) (φ := Option.bind (fMS_work i s0) (fun a => some ((fun a => ((.inl ((fun _ => (none : Option zV)) a), (fun q => [q]) a) : zO)) a))) (by decide) (fun _ => Nat.le_of_ble_eq_true rfl) (zl0 0 rfl) (fun X F => bfMS_work F i hi s0 (fun _ => rfl)) (by rw [ha]; rfl)

theorem dX10_hour_0 : decode cX10_hour 0 = .ok (.aload_n 0, 1) := by decide +kernel
theorem dX10_hour_1 : decode cX10_hour 1 = .ok (.dup, 1) := by decide +kernel
theorem dX10_hour_2 : decode cX10_hour 2 = .ok (.getfield 58, 3) := by decide +kernel
theorem dX10_hour_5 : decode cX10_hour 5 = .ok (.iconst 1, 1) := by decide +kernel
theorem dX10_hour_6 : decode cX10_hour 6 = .ok (.iadd, 1) := by decide +kernel
theorem dX10_hour_7 : decode cX10_hour 7 = .ok (.putfield 58, 3) := by decide +kernel
theorem dX10_hour_10 : decode cX10_hour 10 = .ok (.iconst 0, 1) := by decide +kernel
theorem dX10_hour_11 : decode cX10_hour 11 = .ok (.istore_n 1, 1) := by decide +kernel
theorem dX10_hour_12 : decode cX10_hour 12 = .ok (.iload_n 1, 1) := by decide +kernel
theorem dX10_hour_13 : decode cX10_hour 13 = .ok (.aload_n 0, 1) := by decide +kernel
theorem dX10_hour_14 : decode cX10_hour 14 = .ok (.getfield 43, 3) := by decide +kernel
theorem dX10_hour_17 : decode cX10_hour 17 = .ok (.if_icmp .ge 19, 3) := by decide +kernel
theorem dX10_hour_20 : decode cX10_hour 20 = .ok (.aload_n 0, 1) := by decide +kernel
theorem dX10_hour_21 : decode cX10_hour 21 = .ok (.aload_n 0, 1) := by decide +kernel
theorem dX10_hour_22 : decode cX10_hour 22 = .ok (.getfield 11, 3) := by decide +kernel
theorem dX10_hour_25 : decode cX10_hour 25 = .ok (.iload_n 1, 1) := by decide +kernel
theorem dX10_hour_26 : decode cX10_hour 26 = .ok (.aaload, 1) := by decide +kernel
theorem dX10_hour_27 : decode cX10_hour 27 = .ok (.invokevirtual 119, 3) := by decide +kernel
theorem dX10_hour_30 : decode cX10_hour 30 = .ok (.iinc 1 1, 3) := by decide +kernel
theorem dX10_hour_33 : decode cX10_hour 33 = .ok (.goto (-21), 3) := by decide +kernel
theorem dX10_hour_36 : decode cX10_hour 36 = .ok (.iconst 0, 1) := by decide +kernel
theorem dX10_hour_37 : decode cX10_hour 37 = .ok (.istore_n 1, 1) := by decide +kernel
theorem dX10_hour_38 : decode cX10_hour 38 = .ok (.iconst 0, 1) := by decide +kernel
theorem dX10_hour_39 : decode cX10_hour 39 = .ok (.istore_n 2, 1) := by decide +kernel
theorem dX10_hour_40 : decode cX10_hour 40 = .ok (.iload_n 2, 1) := by decide +kernel
theorem dX10_hour_41 : decode cX10_hour 41 = .ok (.aload_n 0, 1) := by decide +kernel
theorem dX10_hour_42 : decode cX10_hour 42 = .ok (.getfield 43, 3) := by decide +kernel
theorem dX10_hour_45 : decode cX10_hour 45 = .ok (.if_icmp .ge 59, 3) := by decide +kernel
theorem dX10_hour_48 : decode cX10_hour 48 = .ok (.aload_n 0, 1) := by decide +kernel
theorem dX10_hour_49 : decode cX10_hour 49 = .ok (.getfield 11, 3) := by decide +kernel
theorem dX10_hour_52 : decode cX10_hour 52 = .ok (.iload_n 2, 1) := by decide +kernel
theorem dX10_hour_53 : decode cX10_hour 53 = .ok (.aaload, 1) := by decide +kernel
theorem dX10_hour_54 : decode cX10_hour 54 = .ok (.astore_n 3, 1) := by decide +kernel
theorem dX10_hour_55 : decode cX10_hour 55 = .ok (.aload_n 0, 1) := by decide +kernel
theorem dX10_hour_56 : decode cX10_hour 56 = .ok (.getfield 64, 3) := by decide +kernel
theorem dX10_hour_59 : decode cX10_hour 59 = .ok (.bipush 100, 2) := by decide +kernel
theorem dX10_hour_61 : decode cX10_hour 61 = .ok (.aload_n 0, 1) := by decide +kernel
theorem dX10_hour_62 : decode cX10_hour 62 = .ok (.iload_n 2, 1) := by decide +kernel
theorem dX10_hour_63 : decode cX10_hour 63 = .ok (.invokevirtual 123, 3) := by decide +kernel
theorem dX10_hour_66 : decode cX10_hour 66 = .ok (.isub, 1) := by decide +kernel
theorem dX10_hour_67 : decode cX10_hour 67 = .ok (.imul, 1) := by decide +kernel
theorem dX10_hour_68 : decode cX10_hour 68 = .ok (.bipush 100, 2) := by decide +kernel
theorem dX10_hour_70 : decode cX10_hour 70 = .ok (.idiv, 1) := by decide +kernel
theorem dX10_hour_71 : decode cX10_hour 71 = .ok (.istore 4, 2) := by decide +kernel
theorem dX10_hour_73 : decode cX10_hour 73 = .ok (.aload_n 0, 1) := by decide +kernel
theorem dX10_hour_74 : decode cX10_hour 74 = .ok (.getfield 32, 3) := by decide +kernel
theorem dX10_hour_77 : decode cX10_hour 77 = .ok (.iload_n 2, 1) := by decide +kernel
theorem dX10_hour_78 : decode cX10_hour 78 = .ok (.aload_n 0, 1) := by decide +kernel
theorem dX10_hour_79 : decode cX10_hour 79 = .ok (.aload_n 3, 1) := by decide +kernel
theorem dX10_hour_80 : decode cX10_hour 80 = .ok (.iload 4, 2) := by decide +kernel
theorem dX10_hour_82 : decode cX10_hour 82 = .ok (.invokevirtual 125, 3) := by decide +kernel
theorem dX10_hour_85 : decode cX10_hour 85 = .ok (.iastore, 1) := by decide +kernel
theorem dX10_hour_86 : decode cX10_hour 86 = .ok (.aload_n 3, 1) := by decide +kernel
theorem dX10_hour_87 : decode cX10_hour 87 = .ok (.bipush 22, 2) := by decide +kernel
theorem dX10_hour_89 : decode cX10_hour 89 = .ok (.aload_n 3, 1) := by decide +kernel
theorem dX10_hour_90 : decode cX10_hour 90 = .ok (.iconst 5, 1) := by decide +kernel
theorem dX10_hour_91 : decode cX10_hour 91 = .ok (.iaload, 1) := by decide +kernel
theorem dX10_hour_92 : decode cX10_hour 92 = .ok (.iastore, 1) := by decide +kernel
theorem dX10_hour_93 : decode cX10_hour 93 = .ok (.aload_n 3, 1) := by decide +kernel
theorem dX10_hour_94 : decode cX10_hour 94 = .ok (.iconst 5, 1) := by decide +kernel
theorem dX10_hour_95 : decode cX10_hour 95 = .ok (.iload 4, 2) := by decide +kernel
theorem dX10_hour_97 : decode cX10_hour 97 = .ok (.iastore, 1) := by decide +kernel
theorem dX10_hour_98 : decode cX10_hour 98 = .ok (.iinc 2 1, 3) := by decide +kernel
theorem dX10_hour_101 : decode cX10_hour 101 = .ok (.goto (-61), 3) := by decide +kernel
theorem dX10_hour_104 : decode cX10_hour 104 = .ok (.iconst 0, 1) := by decide +kernel
theorem dX10_hour_105 : decode cX10_hour 105 = .ok (.istore_n 2, 1) := by decide +kernel
theorem dX10_hour_106 : decode cX10_hour 106 = .ok (.iload_n 2, 1) := by decide +kernel
theorem dX10_hour_107 : decode cX10_hour 107 = .ok (.aload_n 0, 1) := by decide +kernel
theorem dX10_hour_108 : decode cX10_hour 108 = .ok (.getfield 52, 3) := by decide +kernel
theorem dX10_hour_111 : decode cX10_hour 111 = .ok (.if_icmp .ge 50, 3) := by decide +kernel
theorem dX10_hour_114 : decode cX10_hour 114 = .ok (.aload_n 0, 1) := by decide +kernel
theorem dX10_hour_115 : decode cX10_hour 115 = .ok (.getfield 19, 3) := by decide +kernel
theorem dX10_hour_118 : decode cX10_hour 118 = .ok (.iload_n 2, 1) := by decide +kernel
theorem dX10_hour_119 : decode cX10_hour 119 = .ok (.aaload, 1) := by decide +kernel
theorem dX10_hour_120 : decode cX10_hour 120 = .ok (.astore_n 3, 1) := by decide +kernel
theorem dX10_hour_121 : decode cX10_hour 121 = .ok (.aload_n 3, 1) := by decide +kernel
theorem dX10_hour_122 : decode cX10_hour 122 = .ok (.iconst 2, 1) := by decide +kernel
theorem dX10_hour_123 : decode cX10_hour 123 = .ok (.aload_n 0, 1) := by decide +kernel
theorem dX10_hour_124 : decode cX10_hour 124 = .ok (.iload_n 2, 1) := by decide +kernel
theorem dX10_hour_125 : decode cX10_hour 125 = .ok (.aload_n 3, 1) := by decide +kernel
theorem dX10_hour_126 : decode cX10_hour 126 = .ok (.iconst 0, 1) := by decide +kernel
theorem dX10_hour_127 : decode cX10_hour 127 = .ok (.iaload, 1) := by decide +kernel
theorem dX10_hour_128 : decode cX10_hour 128 = .ok (.aload_n 3, 1) := by decide +kernel
theorem dX10_hour_129 : decode cX10_hour 129 = .ok (.iconst 1, 1) := by decide +kernel
theorem dX10_hour_130 : decode cX10_hour 130 = .ok (.iaload, 1) := by decide +kernel
theorem dX10_hour_131 : decode cX10_hour 131 = .ok (.bipush 10, 2) := by decide +kernel
theorem dX10_hour_133 : decode cX10_hour 133 = .ok (.idiv, 1) := by decide +kernel
theorem dX10_hour_134 : decode cX10_hour 134 = .ok (.isub, 1) := by decide +kernel
theorem dX10_hour_135 : decode cX10_hour 135 = .ok (.bipush 6, 2) := by decide +kernel
theorem dX10_hour_137 : decode cX10_hour 137 = .ok (.invokevirtual 129, 3) := by decide +kernel
theorem dX10_hour_140 : decode cX10_hour 140 = .ok (.iastore, 1) := by decide +kernel
theorem dX10_hour_141 : decode cX10_hour 141 = .ok (.aload_n 3, 1) := by decide +kernel
theorem dX10_hour_142 : decode cX10_hour 142 = .ok (.iconst 1, 1) := by decide +kernel
theorem dX10_hour_143 : decode cX10_hour 143 = .ok (.iconst 3, 1) := by decide +kernel
theorem dX10_hour_144 : decode cX10_hour 144 = .ok (.aload_n 3, 1) := by decide +kernel
theorem dX10_hour_145 : decode cX10_hour 145 = .ok (.iconst 1, 1) := by decide +kernel
theorem dX10_hour_146 : decode cX10_hour 146 = .ok (.iaload, 1) := by decide +kernel
theorem dX10_hour_147 : decode cX10_hour 147 = .ok (.imul, 1) := by decide +kernel
theorem dX10_hour_148 : decode cX10_hour 148 = .ok (.aload_n 3, 1) := by decide +kernel
theorem dX10_hour_149 : decode cX10_hour 149 = .ok (.iconst 2, 1) := by decide +kernel
theorem dX10_hour_150 : decode cX10_hour 150 = .ok (.iaload, 1) := by decide +kernel
theorem dX10_hour_151 : decode cX10_hour 151 = .ok (.iadd, 1) := by decide +kernel
theorem dX10_hour_152 : decode cX10_hour 152 = .ok (.iconst 4, 1) := by decide +kernel
theorem dX10_hour_153 : decode cX10_hour 153 = .ok (.idiv, 1) := by decide +kernel
theorem dX10_hour_154 : decode cX10_hour 154 = .ok (.iastore, 1) := by decide +kernel
theorem dX10_hour_155 : decode cX10_hour 155 = .ok (.iinc 2 1, 3) := by decide +kernel
theorem dX10_hour_158 : decode cX10_hour 158 = .ok (.goto (-52), 3) := by decide +kernel
theorem dX10_hour_161 : decode cX10_hour 161 = .ok (.aload_n 0, 1) := by decide +kernel
theorem dX10_hour_162 : decode cX10_hour 162 = .ok (.iconst (-1), 1) := by decide +kernel
theorem dX10_hour_163 : decode cX10_hour 163 = .ok (.aload_n 0, 1) := by decide +kernel
theorem dX10_hour_164 : decode cX10_hour 164 = .ok (.getfield 35, 3) := by decide +kernel
theorem dX10_hour_167 : decode cX10_hour 167 = .ok (.bipush 7, 2) := by decide +kernel
theorem dX10_hour_169 : decode cX10_hour 169 = .ok (.invokevirtual 129, 3) := by decide +kernel
theorem dX10_hour_172 : decode cX10_hour 172 = .ok (.istore_n 1, 1) := by decide +kernel
theorem dX10_hour_173 : decode cX10_hour 173 = .ok (.iconst 0, 1) := by decide +kernel
theorem dX10_hour_174 : decode cX10_hour 174 = .ok (.istore_n 2, 1) := by decide +kernel
theorem dX10_hour_175 : decode cX10_hour 175 = .ok (.iload_n 2, 1) := by decide +kernel
theorem dX10_hour_176 : decode cX10_hour 176 = .ok (.aload_n 0, 1) := by decide +kernel
theorem dX10_hour_177 : decode cX10_hour 177 = .ok (.getfield 43, 3) := by decide +kernel
theorem dX10_hour_180 : decode cX10_hour 180 = .ok (.if_icmp .ge 24, 3) := by decide +kernel
theorem dX10_hour_183 : decode cX10_hour 183 = .ok (.aload_n 0, 1) := by decide +kernel
theorem dX10_hour_184 : decode cX10_hour 184 = .ok (.getfield 11, 3) := by decide +kernel
theorem dX10_hour_187 : decode cX10_hour 187 = .ok (.iload_n 2, 1) := by decide +kernel
theorem dX10_hour_188 : decode cX10_hour 188 = .ok (.aaload, 1) := by decide +kernel
theorem dX10_hour_189 : decode cX10_hour 189 = .ok (.bipush 6, 2) := by decide +kernel
theorem dX10_hour_191 : decode cX10_hour 191 = .ok (.aload_n 0, 1) := by decide +kernel
theorem dX10_hour_192 : decode cX10_hour 192 = .ok (.getfield 32, 3) := by decide +kernel
theorem dX10_hour_195 : decode cX10_hour 195 = .ok (.iload_n 2, 1) := by decide +kernel
theorem dX10_hour_196 : decode cX10_hour 196 = .ok (.iaload, 1) := by decide +kernel
theorem dX10_hour_197 : decode cX10_hour 197 = .ok (.iastore, 1) := by decide +kernel
theorem dX10_hour_198 : decode cX10_hour 198 = .ok (.iinc 2 1, 3) := by decide +kernel
theorem dX10_hour_201 : decode cX10_hour 201 = .ok (.goto (-26), 3) := by decide +kernel
theorem dX10_hour_204 : decode cX10_hour 204 = .ok (.aload_n 0, 1) := by decide +kernel
theorem dX10_hour_205 : decode cX10_hour 205 = .ok (.dup, 1) := by decide +kernel
theorem dX10_hour_206 : decode cX10_hour 206 = .ok (.getfield 73, 3) := by decide +kernel
theorem dX10_hour_209 : decode cX10_hour 209 = .ok (.aload_n 0, 1) := by decide +kernel
theorem dX10_hour_210 : decode cX10_hour 210 = .ok (.getfield 43, 3) := by decide +kernel
theorem dX10_hour_213 : decode cX10_hour 213 = .ok (.aload_n 0, 1) := by decide +kernel
theorem dX10_hour_214 : decode cX10_hour 214 = .ok (.getfield 64, 3) := by decide +kernel
theorem dX10_hour_217 : decode cX10_hour 217 = .ok (.invokestatic 133, 3) := by decide +kernel
theorem dX10_hour_220 : decode cX10_hour 220 = .ok (.imul, 1) := by decide +kernel
theorem dX10_hour_221 : decode cX10_hour 221 = .ok (.iadd, 1) := by decide +kernel
theorem dX10_hour_222 : decode cX10_hour 222 = .ok (.putfield 73, 3) := by decide +kernel
theorem dX10_hour_225 : decode cX10_hour 225 = .ok (.aload_n 0, 1) := by decide +kernel
theorem dX10_hour_226 : decode cX10_hour 226 = .ok (.dup, 1) := by decide +kernel
theorem dX10_hour_227 : decode cX10_hour 227 = .ok (.getfield 76, 3) := by decide +kernel
theorem dX10_hour_230 : decode cX10_hour 230 = .ok (.iload_n 1, 1) := by decide +kernel
theorem dX10_hour_231 : decode cX10_hour 231 = .ok (.iadd, 1) := by decide +kernel
theorem dX10_hour_232 : decode cX10_hour 232 = .ok (.putfield 76, 3) := by decide +kernel
theorem dX10_hour_235 : decode cX10_hour 235 = .ok (.aload_n 0, 1) := by decide +kernel
theorem dX10_hour_236 : decode cX10_hour 236 = .ok (.iload_n 1, 1) := by decide +kernel
theorem dX10_hour_237 : decode cX10_hour 237 = .ok (.putfield 79, 3) := by decide +kernel
theorem dX10_hour_240 : decode cX10_hour 240 = .ok (.aload_n 0, 1) := by decide +kernel
theorem dX10_hour_241 : decode cX10_hour 241 = .ok (.dup, 1) := by decide +kernel
theorem dX10_hour_242 : decode cX10_hour 242 = .ok (.getfield 82, 3) := by decide +kernel
theorem dX10_hour_245 : decode cX10_hour 245 = .ok (.iload_n 1, 1) := by decide +kernel
theorem dX10_hour_246 : decode cX10_hour 246 = .ok (.aload_n 0, 1) := by decide +kernel
theorem dX10_hour_247 : decode cX10_hour 247 = .ok (.getfield 70, 3) := by decide +kernel
theorem dX10_hour_250 : decode cX10_hour 250 = .ok (.imul, 1) := by decide +kernel
theorem dX10_hour_251 : decode cX10_hour 251 = .ok (.bipush 100, 2) := by decide +kernel
theorem dX10_hour_253 : decode cX10_hour 253 = .ok (.idiv, 1) := by decide +kernel
theorem dX10_hour_254 : decode cX10_hour 254 = .ok (.iadd, 1) := by decide +kernel
theorem dX10_hour_255 : decode cX10_hour 255 = .ok (.putfield 82, 3) := by decide +kernel
theorem dX10_hour_258 : decode cX10_hour 258 = .ok (.aload_n 0, 1) := by decide +kernel
theorem dX10_hour_259 : decode cX10_hour 259 = .ok (.getfield 25, 3) := by decide +kernel
theorem dX10_hour_262 : decode cX10_hour 262 = .ok (.aload_n 0, 1) := by decide +kernel
theorem dX10_hour_263 : decode cX10_hour 263 = .ok (.getfield 58, 3) := by decide +kernel
theorem dX10_hour_266 : decode cX10_hour 266 = .ok (.bipush 32, 2) := by decide +kernel
theorem dX10_hour_268 : decode cX10_hour 268 = .ok (.irem, 1) := by decide +kernel
theorem dX10_hour_269 : decode cX10_hour 269 = .ok (.iaload, 1) := by decide +kernel
theorem dX10_hour_270 : decode cX10_hour 270 = .ok (.aload_n 0, 1) := by decide +kernel
theorem dX10_hour_271 : decode cX10_hour 271 = .ok (.getfield 58, 3) := by decide +kernel
theorem dX10_hour_274 : decode cX10_hour 274 = .ok (.if_icmp .ne 35, 3) := by decide +kernel
theorem dX10_hour_277 : decode cX10_hour 277 = .ok (.aload_n 0, 1) := by decide +kernel
theorem dX10_hour_278 : decode cX10_hour 278 = .ok (.dup, 1) := by decide +kernel
theorem dX10_hour_279 : decode cX10_hour 279 = .ok (.getfield 82, 3) := by decide +kernel
theorem dX10_hour_282 : decode cX10_hour 282 = .ok (.aload_n 0, 1) := by decide +kernel
theorem dX10_hour_283 : decode cX10_hour 283 = .ok (.getfield 29, 3) := by decide +kernel
theorem dX10_hour_286 : decode cX10_hour 286 = .ok (.aload_n 0, 1) := by decide +kernel
theorem dX10_hour_287 : decode cX10_hour 287 = .ok (.getfield 58, 3) := by decide +kernel
theorem dX10_hour_290 : decode cX10_hour 290 = .ok (.bipush 32, 2) := by decide +kernel
theorem dX10_hour_292 : decode cX10_hour 292 = .ok (.irem, 1) := by decide +kernel
theorem dX10_hour_293 : decode cX10_hour 293 = .ok (.iaload, 1) := by decide +kernel
theorem dX10_hour_294 : decode cX10_hour 294 = .ok (.iload_n 1, 1) := by decide +kernel
theorem dX10_hour_295 : decode cX10_hour 295 = .ok (.isub, 1) := by decide +kernel
theorem dX10_hour_296 : decode cX10_hour 296 = .ok (.invokestatic 99, 3) := by decide +kernel
theorem dX10_hour_299 : decode cX10_hour 299 = .ok (.bipush 20, 2) := by decide +kernel
theorem dX10_hour_301 : decode cX10_hour 301 = .ok (.imul, 1) := by decide +kernel
theorem dX10_hour_302 : decode cX10_hour 302 = .ok (.bipush 100, 2) := by decide +kernel
theorem dX10_hour_304 : decode cX10_hour 304 = .ok (.idiv, 1) := by decide +kernel
theorem dX10_hour_305 : decode cX10_hour 305 = .ok (.isub, 1) := by decide +kernel
theorem dX10_hour_306 : decode cX10_hour 306 = .ok (.putfield 82, 3) := by decide +kernel
theorem dX10_hour_309 : decode cX10_hour 309 = .ok (.iconst 0, 1) := by decide +kernel
theorem dX10_hour_310 : decode cX10_hour 310 = .ok (.istore_n 2, 1) := by decide +kernel
theorem dX10_hour_311 : decode cX10_hour 311 = .ok (.iload_n 2, 1) := by decide +kernel
theorem dX10_hour_312 : decode cX10_hour 312 = .ok (.aload_n 0, 1) := by decide +kernel
theorem dX10_hour_313 : decode cX10_hour 313 = .ok (.getfield 43, 3) := by decide +kernel
theorem dX10_hour_316 : decode cX10_hour 316 = .ok (.if_icmp .ge 32, 3) := by decide +kernel
theorem dX10_hour_319 : decode cX10_hour 319 = .ok (.aload_n 0, 1) := by decide +kernel
theorem dX10_hour_320 : decode cX10_hour 320 = .ok (.getfield 11, 3) := by decide +kernel
theorem dX10_hour_323 : decode cX10_hour 323 = .ok (.iload_n 2, 1) := by decide +kernel
theorem dX10_hour_324 : decode cX10_hour 324 = .ok (.aaload, 1) := by decide +kernel
theorem dX10_hour_325 : decode cX10_hour 325 = .ok (.iconst 3, 1) := by decide +kernel
theorem dX10_hour_326 : decode cX10_hour 326 = .ok (.iaload, 1) := by decide +kernel
theorem dX10_hour_327 : decode cX10_hour 327 = .ok (.iconst 2, 1) := by decide +kernel
theorem dX10_hour_328 : decode cX10_hour 328 = .ok (.if_icmp .ne 14, 3) := by decide +kernel
theorem dX10_hour_331 : decode cX10_hour 331 = .ok (.aload_n 0, 1) := by decide +kernel
theorem dX10_hour_332 : decode cX10_hour 332 = .ok (.iload_n 2, 1) := by decide +kernel
theorem dX10_hour_333 : decode cX10_hour 333 = .ok (.aload_n 0, 1) := by decide +kernel
theorem dX10_hour_334 : decode cX10_hour 334 = .ok (.getfield 11, 3) := by decide +kernel
theorem dX10_hour_337 : decode cX10_hour 337 = .ok (.iload_n 2, 1) := by decide +kernel
theorem dX10_hour_338 : decode cX10_hour 338 = .ok (.aaload, 1) := by decide +kernel
theorem dX10_hour_339 : decode cX10_hour 339 = .ok (.invokevirtual 136, 3) := by decide +kernel
theorem dX10_hour_342 : decode cX10_hour 342 = .ok (.iinc 2 1, 3) := by decide +kernel
theorem dX10_hour_345 : decode cX10_hour 345 = .ok (.goto (-34), 3) := by decide +kernel
theorem dX10_hour_348 : decode cX10_hour 348 = .ok (.iconst 0, 1) := by decide +kernel
theorem dX10_hour_349 : decode cX10_hour 349 = .ok (.istore_n 2, 1) := by decide +kernel
theorem dX10_hour_350 : decode cX10_hour 350 = .ok (.iload_n 2, 1) := by decide +kernel
theorem dX10_hour_351 : decode cX10_hour 351 = .ok (.aload_n 0, 1) := by decide +kernel
theorem dX10_hour_352 : decode cX10_hour 352 = .ok (.getfield 55, 3) := by decide +kernel
theorem dX10_hour_355 : decode cX10_hour 355 = .ok (.if_icmp .ge 19, 3) := by decide +kernel
theorem dX10_hour_358 : decode cX10_hour 358 = .ok (.aload_n 0, 1) := by decide +kernel
theorem dX10_hour_359 : decode cX10_hour 359 = .ok (.aload_n 0, 1) := by decide +kernel
theorem dX10_hour_360 : decode cX10_hour 360 = .ok (.getfield 22, 3) := by decide +kernel
theorem dX10_hour_363 : decode cX10_hour 363 = .ok (.iload_n 2, 1) := by decide +kernel
theorem dX10_hour_364 : decode cX10_hour 364 = .ok (.aaload, 1) := by decide +kernel
theorem dX10_hour_365 : decode cX10_hour 365 = .ok (.invokevirtual 140, 3) := by decide +kernel
theorem dX10_hour_368 : decode cX10_hour 368 = .ok (.iinc 2 1, 3) := by decide +kernel
theorem dX10_hour_371 : decode cX10_hour 371 = .ok (.goto (-21), 3) := by decide +kernel
theorem dX10_hour_374 : decode cX10_hour 374 = .ok (.iload_n 1, 1) := by decide +kernel
theorem dX10_hour_375 : decode cX10_hour 375 = .ok (.ireturn, 1) := by decide +kernel
theorem wpRX10_58 : zFw RX10 58 9 10 .int := ⟨_, rfl, by decide, zm_f 987 (by decide +kernel) rfl, rfl, by decide +kernel⟩
theorem wcRX10_119 : Cond.methodLink RX10 119 yX10_turn ∈ zTg ∧ Cond.instanceMethod yX10_turn ∈ zTg ∧ Cond.selects RX10 yX10_turn yX10_turn ∈ zTg ∧ Cond.initialized RX10 ∈ zTg ∧ Cond.code yX10_turn cX10_turn 3 none ∈ zTg := ⟨zm_f 1115 (by decide +kernel) rfl, zm_f 1117 (by decide +kernel) rfl, zm_f 21 (by decide +kernel) rfl, zm_f 47 (by decide +kernel) rfl, zm_f 1118 (by decide +kernel) rfl⟩
theorem wy_yX10_turn : yX10_turn.cls = RX10 ∧ yX10_turn.cls ≠ "java/lang/invoke/MethodHandle" ∧ yX10_turn.cls ≠ "java/lang/invoke/VarHandle" ∧ (parseMethodDescriptor yX10_turn.desc).map (fun d => d.parameters.length) = some 1 := by decide +kernel
theorem wcRX10_123 : Cond.methodLink RX10 123 yX10_deficit_ ∈ zTg ∧ Cond.instanceMethod yX10_deficit_ ∈ zTg ∧ Cond.selects RX10 yX10_deficit_ yX10_deficit_ ∈ zTg ∧ Cond.initialized RX10 ∈ zTg ∧ Cond.code yX10_deficit_ cX10_deficit_ 6 (some .int) ∈ zTg := ⟨zm_f 1126 (by decide +kernel) rfl, zm_f 1127 (by decide +kernel) rfl, zm_f 1128 (by decide +kernel) rfl, zm_f 47 (by decide +kernel) rfl, zm_f 1129 (by decide +kernel) rfl⟩
theorem wy_yX10_deficit_ : yX10_deficit_.cls = RX10 ∧ yX10_deficit_.cls ≠ "java/lang/invoke/MethodHandle" ∧ yX10_deficit_.cls ≠ "java/lang/invoke/VarHandle" ∧ (parseMethodDescriptor yX10_deficit_.desc).map (fun d => d.parameters.length) = some 1 := by decide +kernel
theorem wcRX10_125 : Cond.methodLink RX10 125 yX10_make ∈ zTg ∧ Cond.instanceMethod yX10_make ∈ zTg ∧ Cond.selects RX10 yX10_make yX10_make ∈ zTg ∧ Cond.initialized RX10 ∈ zTg ∧ Cond.code yX10_make cX10_make 6 (some .int) ∈ zTg := ⟨zm_f 1143 (by decide +kernel) rfl, zm_f 1145 (by decide +kernel) rfl, zm_f 22 (by decide +kernel) rfl, zm_f 47 (by decide +kernel) rfl, zm_f 1146 (by decide +kernel) rfl⟩
theorem wy_yX10_make : yX10_make.cls = RX10 ∧ yX10_make.cls ≠ "java/lang/invoke/MethodHandle" ∧ yX10_make.cls ≠ "java/lang/invoke/VarHandle" ∧ (parseMethodDescriptor yX10_make.desc).map (fun d => d.parameters.length) = some 2 := by decide +kernel
theorem wfRX10_52 : zFl RX10 52 9 8 := ⟨_, rfl, by decide, zm_f 983 (by decide +kernel) rfl⟩
theorem wfRX10_19 : zFl RX10 19 9 2 := ⟨_, rfl, by decide, zm_f 972 (by decide +kernel) rfl⟩
theorem wcRX10_129 : Cond.methodLink RX10 129 yX10_fit ∈ zTg ∧ Cond.instanceMethod yX10_fit ∈ zTg ∧ Cond.selects RX10 yX10_fit yX10_fit ∈ zTg ∧ Cond.initialized RX10 ∈ zTg ∧ Cond.code yX10_fit cX10_fit 8 (some .int) ∈ zTg := ⟨zm_f 1151 (by decide +kernel) rfl, zm_f 1153 (by decide +kernel) rfl, zm_f 23 (by decide +kernel) rfl, zm_f 47 (by decide +kernel) rfl, zm_f 1154 (by decide +kernel) rfl⟩
theorem wy_yX10_fit : yX10_fit.cls = RX10 ∧ yX10_fit.cls ≠ "java/lang/invoke/MethodHandle" ∧ yX10_fit.cls ≠ "java/lang/invoke/VarHandle" ∧ (parseMethodDescriptor yX10_fit.desc).map (fun d => d.parameters.length) = some 3 := by decide +kernel
theorem wfRX10_35 : zFl RX10 35 9 15 := ⟨_, rfl, by decide, zm_f 997 (by decide +kernel) rfl⟩
theorem wfRX10_73 : zFl RX10 73 9 17 := ⟨_, rfl, by decide, zm_f 1001 (by decide +kernel) rfl⟩
theorem wpRX10_73 : zFw RX10 73 9 17 .int := ⟨_, rfl, by decide, zm_f 1001 (by decide +kernel) rfl, rfl, by decide +kernel⟩
theorem wfRX10_76 : zFl RX10 76 9 18 := ⟨_, rfl, by decide, zm_f 1003 (by decide +kernel) rfl⟩
theorem wpRX10_76 : zFw RX10 76 9 18 .int := ⟨_, rfl, by decide, zm_f 1003 (by decide +kernel) rfl, rfl, by decide +kernel⟩
theorem wpRX10_79 : zFw RX10 79 9 19 .int := ⟨_, rfl, by decide, zm_f 1005 (by decide +kernel) rfl, rfl, by decide +kernel⟩
theorem wfRX10_82 : zFl RX10 82 9 20 := ⟨_, rfl, by decide, zm_f 1007 (by decide +kernel) rfl⟩
theorem wpRX10_82 : zFw RX10 82 9 20 .int := ⟨_, rfl, by decide, zm_f 1007 (by decide +kernel) rfl, rfl, by decide +kernel⟩
theorem wfRX10_29 : zFl RX10 29 9 5 := ⟨_, rfl, by decide, zm_f 978 (by decide +kernel) rfl⟩
theorem wcRX10_136 : Cond.methodLink RX10 136 yX10_wear ∈ zTg ∧ Cond.instanceMethod yX10_wear ∈ zTg ∧ Cond.selects RX10 yX10_wear yX10_wear ∈ zTg ∧ Cond.initialized RX10 ∈ zTg ∧ Cond.code yX10_wear cX10_wear 3 none ∈ zTg := ⟨zm_f 1163 (by decide +kernel) rfl, zm_f 1165 (by decide +kernel) rfl, zm_f 26 (by decide +kernel) rfl, zm_f 47 (by decide +kernel) rfl, zm_f 1166 (by decide +kernel) rfl⟩
theorem wy_yX10_wear : yX10_wear.cls = RX10 ∧ yX10_wear.cls ≠ "java/lang/invoke/MethodHandle" ∧ yX10_wear.cls ≠ "java/lang/invoke/VarHandle" ∧ (parseMethodDescriptor yX10_wear.desc).map (fun d => d.parameters.length) = some 2 := by decide +kernel
theorem wfRX10_55 : zFl RX10 55 9 9 := ⟨_, rfl, by decide, zm_f 985 (by decide +kernel) rfl⟩
theorem wfRX10_22 : zFl RX10 22 9 3 := ⟨_, rfl, by decide, zm_f 974 (by decide +kernel) rfl⟩
theorem wcRX10_140 : Cond.methodLink RX10 140 yX10_work ∈ zTg ∧ Cond.instanceMethod yX10_work ∈ zTg ∧ Cond.selects RX10 yX10_work yX10_work ∈ zTg ∧ Cond.initialized RX10 ∈ zTg ∧ Cond.code yX10_work cX10_work 2 none ∈ zTg := ⟨zm_f 1178 (by decide +kernel) rfl, zm_f 1180 (by decide +kernel) rfl, zm_f 28 (by decide +kernel) rfl, zm_f 47 (by decide +kernel) rfl, zm_f 1181 (by decide +kernel) rfl⟩
theorem wy_yX10_work : yX10_work.cls = RX10 ∧ yX10_work.cls ≠ "java/lang/invoke/MethodHandle" ∧ yX10_work.cls ≠ "java/lang/invoke/VarHandle" ∧ (parseMethodDescriptor yX10_work.desc).map (fun d => d.parameters.length) = some 1 := by decide +kernel
def fMS_hour_l12  (q2 : Int32 × zM) : Option ((Int32 × zM) ⊕ ((zM))) :=
  if (q2.2 0 0 7) ≤ q2.1 then
  some (.inr q2.2)
else
  zix q2.1 8 fun j4 =>
    Option.bind (fMS_turn j4 q2.2) fun q5 =>
    zlet (q2.1 + 1) fun v6 =>
    some (.inl (v6, q5))
def fMS_hour_l40  (q7 : Int32 × zM) : Option ((Int32 × zM) ⊕ ((zM))) :=
  if (q7.2 0 0 7) ≤ q7.1 then
  some (.inr q7.2)
else
  zix q7.1 8 fun j9 =>
    Option.bind (fMS_deficit q7.1 q7.2) fun q10 =>
    zlet ((((q7.2 0 0 12) * ((100 : Int32) - q10)) / (100 : Int32))) fun v11 =>
    Option.bind (fMS_make j9 v11 q7.2) fun q12 =>
    zix q7.1 8 fun j13 =>
    zlet (zu q12.2 7 0 j13 q12.1) fun s0_14 =>
    zix (5 : Int32) 23 fun j15 =>
    zix (22 : Int32) 23 fun j16 =>
    zlet (zu s0_14 8 j9 j16 (s0_14 8 j9 j15)) fun s0_17 =>
    zix (5 : Int32) 23 fun j18 =>
    zlet (zu s0_17 8 j9 j18 v11) fun s0_19 =>
    zlet (q7.1 + 1) fun v20 =>
    some (.inl (v20, s0_19))
def fMS_hour_l106  (q21 : Int32 × zM) : Option ((Int32 × zM) ⊕ ((zM))) :=
  if (q21.2 0 0 8) ≤ q21.1 then
  some (.inr q21.2)
else
  zix q21.1 3 fun j23 =>
    zix (0 : Int32) 3 fun j24 =>
    zix (1 : Int32) 3 fun j25 =>
    Option.bind (fMS_fit q21.1 ((q21.2 10 j23 j24) - ((q21.2 10 j23 j25) / (10 : Int32))) (6 : Int32) q21.2) fun q26 =>
    zix (2 : Int32) 3 fun j27 =>
    zlet (zu q26.2 10 j23 j27 q26.1) fun s0_28 =>
    zix (1 : Int32) 3 fun j29 =>
    zix (2 : Int32) 3 fun j30 =>
    zix (1 : Int32) 3 fun j31 =>
    zlet (zu s0_28 10 j23 j31 ((((3 : Int32) * (s0_28 10 j23 j29)) + (s0_28 10 j23 j30)) / (4 : Int32))) fun s0_32 =>
    zlet (q21.1 + 1) fun v33 =>
    some (.inl (v33, s0_32))
def fMS_hour_l175  (q35 : Int32 × zM) : Option ((Int32 × zM) ⊕ ((zM))) :=
  if (q35.2 0 0 7) ≤ q35.1 then
  some (.inr q35.2)
else
  zix q35.1 8 fun j37 =>
    zix q35.1 8 fun j38 =>
    zix (6 : Int32) 23 fun j39 =>
    zlet (zu q35.2 8 j37 j39 (q35.2 7 0 j38)) fun s0_40 =>
    zlet (q35.1 + 1) fun v41 =>
    some (.inl (v41, s0_40))
def fMS_hour_l311  (q54 : Int32 × zM) : Option ((Int32 × zM) ⊕ ((zM))) :=
  if (q54.2 0 0 7) ≤ q54.1 then
  some (.inr q54.2)
else
  zix q54.1 8 fun j56 =>
    zix (3 : Int32) 23 fun j57 =>
    Option.bind (if (q54.2 8 j56 j57) = (2 : Int32) then
    zix q54.1 8 fun j62 =>
      Option.bind (fMS_wear q54.1 j62 q54.2) fun q63 =>
      some q63
  else
    some q54.2) fun q58 =>
    zlet (q54.1 + 1) fun v64 =>
    some (.inl (v64, q58))
def fMS_hour_l350  (q65 : Int32 × zM) : Option ((Int32 × zM) ⊕ ((zM))) :=
  if (q65.2 0 0 9) ≤ q65.1 then
  some (.inr q65.2)
else
  zix q65.1 3 fun j67 =>
    Option.bind (fMS_work j67 q65.2) fun q68 =>
    zlet (q65.1 + 1) fun v69 =>
    some (.inl (v69, q68))
def fMS_hour  (s0 : zM) : Option (Int32 × zM) :=
  zlet (zu s0 0 0 10 ((s0 0 0 10) + (1 : Int32))) fun s0_1 =>
  Option.bind (ziter (fMS_hour_l12 ) 1000 ((0 : Int32), s0_1)) fun q3 =>
  Option.bind (ziter (fMS_hour_l40 ) 1000 ((0 : Int32), q3)) fun q8 =>
  Option.bind (ziter (fMS_hour_l106 ) 1000 ((0 : Int32), q8)) fun q22 =>
  Option.bind (fMS_fit (-1 : Int32) (q22 0 0 15) (7 : Int32) q22) fun q34 =>
  Option.bind (ziter (fMS_hour_l175 ) 1000 ((0 : Int32), q34.2)) fun q36 =>
  Option.bind (fMO_power (q36 0 0 12)) fun q42 =>
  zlet (zu q36 0 0 17 ((q36 0 0 17) + ((q36 0 0 7) * q42))) fun s0_43 =>
  zlet (zu s0_43 0 0 18 ((s0_43 0 0 18) + q34.1)) fun s0_44 =>
  zlet (zu s0_44 0 0 19 q34.1) fun s0_45 =>
  zlet (zu s0_45 0 0 20 ((s0_45 0 0 20) + ((q34.1 * (s0_45 0 0 14)) / (100 : Int32)))) fun s0_46 =>
  zix ((s0_46 0 0 10) % (32 : Int32)) 32 fun j47 =>
  Option.bind (if (s0_46 5 0 j47) = (s0_46 0 0 10) then
  zix ((s0_46 0 0 10) % (32 : Int32)) 32 fun j52 =>
    zlet (zu s0_46 0 0 20 ((s0_46 0 0 20) - (((zabs ((s0_46 6 0 j52) - q34.1)) * (20 : Int32)) / (100 : Int32)))) fun s0_53 =>
    some s0_53
else
  some s0_46) fun q48 =>
  Option.bind (ziter (fMS_hour_l311 ) 1000 ((0 : Int32), q48)) fun q55 =>
  Option.bind (ziter (fMS_hour_l350 ) 1000 ((0 : Int32), q55)) fun q66 =>
  some (q34.1, q66)
set_option maxHeartbeats 4000000 in
set_option maxRecDepth 20000 in
theorem bfMS_hour_l12 {X : zX} (F : zFr X cX10_hour 5 RX10 (some .int))   {ψ : (Int32 × zM) ⊕ ((zM)) → Option zO} (h1 : ∀ q2 : Int32 × zM, zZ X [(3, [])] 4 109 5 12 [some (zr 0 0 0), some (zi q2.1), none, none, none] [] [q2.2] (ψ (.inl q2))) (h2 : ∀ q3 : zM, zZ X [(3, [])] 4 109 5 36 [some (zr 0 0 0), none, none, none, none] [] [q3] (ψ (.inr q3))) (q2 : Int32 × zM) : zZ X [(3, [])] 4 109 5 12 [some (zr 0 0 0), some (zi q2.1), none, none, none] [] [q2.2] (Option.bind (fMS_hour_l12  q2) ψ) := by
  unfold fMS_hour_l12
  refine zz_iload_n F (i := 1) dX10_hour_12 rfl rfl ?_
  refine zz_aload_n F (i := 0) dX10_hour_13 rfl rfl ?_
  refine zz_getf F dX10_hour_14 wfRX10_43 zCl_9 rfl (⟨zlb rfl, zlb rfl, zlb rfl⟩) rfl (by decide) rfl rfl ?_
  refine zz_icmp_ge F (tgt := 36) dX10_hour_17 (by decide) (fun h => zz_t h ?_) (fun h => zz_f h ?_)
  · exact zz_sub (zs_k (zs_n (zs_k (zs_k (zs_k zs_z))))) (h2 q2.2)
  · refine zz_aload_n F (i := 0) dX10_hour_20 rfl rfl ?_
    refine zz_aload_n F (i := 0) dX10_hour_21 rfl rfl ?_
    refine zz_getr F dX10_hour_22 wfRX10_11 zCl_9 rfl (⟨zlb rfl, zlb rfl, zlb rfl⟩) rfl (by decide) rfl (r' := 0) (by decide) ?_
    refine zz_iload_n F (i := 1) dX10_hour_25 rfl rfl ?_
    refine zz_ix fun j4 hj4 hinj4 hej4 => zz_aal F dX10_hour_26 rfl (⟨zlb rfl, zlb rfl, zlb rfl⟩) rfl (by decide) rfl hinj4 hej4 rfl ?_
    refine zz_bind ?_
    refine zz_callVr F (ρ := [0]) (so := fun q5 => []) (Mo := fun q5 => [q5]) (zfMS_turn j4 hj4 q2.2) dX10_hour_27 wcRX10_119 wy_yX10_turn rfl ⟨rel18, rfl, rfl, Nat.le_of_ble_eq_true rfl, Nat.le_of_ble_eq_true rfl, Nat.le_of_ble_eq_true rfl⟩ (⟨zlb rfl, zlb rfl, zlb rfl⟩) rfl rfl rfl (fun _ => rfl) (fun _ => rfl) fun q5 => ?_
    refine zz_iinc F (i := 1) (v := q2.1 + 1) (L' := [some (zr 0 0 0), some (zi (q2.1 + 1)), none, none, none]) dX10_hour_30 rfl (by first | rfl | decide) (by decide) rfl rfl ?_
    refine zz_letl (Lf := fun v6 => [some (zr 0 0 0), some (zi v6), none, none, none]) fun v6 => ?_
    refine zz_goto F (tgt := 12) dX10_hour_33 (by decide) ?_
    exact zz_sub (zs_k (zs_k (zs_k (zs_k (zs_k zs_z))))) (h1 (v6, q5))
set_option maxHeartbeats 4000000 in
set_option maxRecDepth 20000 in
theorem bfMS_hour_l40 {X : zX} (F : zFr X cX10_hour 5 RX10 (some .int))   {ψ : (Int32 × zM) ⊕ ((zM)) → Option zO} (h1 : ∀ q7 : Int32 × zM, zZ X [(3, [])] 4 109 5 40 [some (zr 0 0 0), none, some (zi q7.1), none, none] [] [q7.2] (ψ (.inl q7))) (h2 : ∀ q8 : zM, zZ X [(3, [])] 4 109 5 104 [some (zr 0 0 0), none, none, none, none] [] [q8] (ψ (.inr q8))) (q7 : Int32 × zM) : zZ X [(3, [])] 4 109 5 40 [some (zr 0 0 0), none, some (zi q7.1), none, none] [] [q7.2] (Option.bind (fMS_hour_l40  q7) ψ) := by
  unfold fMS_hour_l40
  refine zz_iload_n F (i := 2) dX10_hour_40 rfl rfl ?_
  refine zz_aload_n F (i := 0) dX10_hour_41 rfl rfl ?_
  refine zz_getf F dX10_hour_42 wfRX10_43 zCl_9 rfl (⟨zlb rfl, zlb rfl, zlb rfl⟩) rfl (by decide) rfl rfl ?_
  refine zz_icmp_ge F (tgt := 104) dX10_hour_45 (by decide) (fun h => zz_t h ?_) (fun h => zz_f h ?_)
  · exact zz_sub (zs_k (zs_k (zs_n (zs_k (zs_k zs_z))))) (h2 q7.2)
  · refine zz_aload_n F (i := 0) dX10_hour_48 rfl rfl ?_
    refine zz_getr F dX10_hour_49 wfRX10_11 zCl_9 rfl (⟨zlb rfl, zlb rfl, zlb rfl⟩) rfl (by decide) rfl (r' := 0) (by decide) ?_
    refine zz_iload_n F (i := 2) dX10_hour_52 rfl rfl ?_
    refine zz_ix fun j9 hj9 hinj9 hej9 => zz_aal F dX10_hour_53 rfl (⟨zlb rfl, zlb rfl, zlb rfl⟩) rfl (by decide) rfl hinj9 hej9 rfl ?_
    refine zz_astore_n F (i := 3) (L' := [some (zr 0 0 0), none, some (zi q7.1), some (zr 0 8 j9), none]) dX10_hour_54 rfl (by decide) rfl rfl ?_
    refine zz_aload_n F (i := 0) dX10_hour_55 rfl rfl ?_
    refine zz_getf F dX10_hour_56 wfRX10_64 zCl_9 rfl (⟨zlb rfl, zlb rfl, zlb rfl⟩) rfl (by decide) rfl rfl ?_
    refine zz_bipush F (v := (100 : Int32)) dX10_hour_59 (by decide) ?_
    refine zz_aload_n F (i := 0) dX10_hour_61 rfl rfl ?_
    refine zz_iload_n F (i := 2) dX10_hour_62 rfl rfl ?_
    refine zz_bind ?_
    refine zz_callVr F (ρ := [0]) (so := fun q10 => [zi q10, zi (100 : Int32), zi (q7.2 0 0 12)]) (Mo := fun q10 => [q7.2]) (zfMS_deficit q7.1 q7.2) dX10_hour_63 wcRX10_123 wy_yX10_deficit_ rfl ⟨rel18, rfl, rfl, Nat.le_of_ble_eq_true rfl, Nat.le_of_ble_eq_true rfl, Nat.le_of_ble_eq_true rfl⟩ (⟨zlb rfl, zlb rfl, zlb rfl⟩) rfl rfl rfl (fun _ => rfl) (fun _ => rfl) fun q10 => ?_
    refine zz_isub F dX10_hour_66 ?_
    refine zz_imul F dX10_hour_67 ?_
    refine zz_bipush F (v := (100 : Int32)) dX10_hour_68 (by decide) ?_
    refine zz_idiv F dX10_hour_70 (by decide) ?_
    refine zz_istore F (i := 4) (L' := [some (zr 0 0 0), none, some (zi q7.1), some (zr 0 8 j9), some (zi (((q7.2 0 0 12) * ((100 : Int32) - q10)) / (100 : Int32)))]) dX10_hour_71 (by decide) rfl rfl ?_
    refine zz_letl (Lf := fun v11 => [some (zr 0 0 0), none, some (zi q7.1), some (zr 0 8 j9), some (zi v11)]) fun v11 => ?_
    refine zz_aload_n F (i := 0) dX10_hour_73 rfl rfl ?_
    refine zz_getr F dX10_hour_74 wfRX10_32 zCl_9 rfl (⟨zlb rfl, zlb rfl, zlb rfl⟩) rfl (by decide) rfl (r' := 0) (by decide) ?_
    refine zz_iload_n F (i := 2) dX10_hour_77 rfl rfl ?_
    refine zz_aload_n F (i := 0) dX10_hour_78 rfl rfl ?_
    refine zz_aload_n F (i := 3) dX10_hour_79 rfl rfl ?_
    refine zz_iload F (i := 4) dX10_hour_80 rfl ?_
    refine zz_bind ?_
    refine zz_callVr F (ρ := [0]) (so := fun q12 => [zi q12.1, zi q7.1, zr 0 7 0]) (Mo := fun q12 => [q12.2]) (zfMS_make j9 v11 hj9 q7.2) dX10_hour_82 wcRX10_125 wy_yX10_make rfl ⟨rel18, rfl, rfl, Nat.le_of_ble_eq_true rfl, Nat.le_of_ble_eq_true rfl, Nat.le_of_ble_eq_true rfl⟩ (⟨zlb rfl, zlb rfl, zlb rfl⟩) rfl rfl rfl (fun _ => rfl) (fun _ => rfl) fun q12 => ?_
    refine zz_ix fun j13 hj13 hinj13 hej13 => zz_ias F (Ms' := [(zu q12.2 7 0 j13 q12.1)]) dX10_hour_85 rfl (⟨zlb rfl, zlb rfl, zlb rfl⟩) rfl hinj13 hej13 rfl ?_
    refine zz_letm (Mf := fun s0_14 => [s0_14]) fun s0_14 => ?_
    refine zz_aload_n F (i := 3) dX10_hour_86 rfl rfl ?_
    refine zz_bipush F (v := (22 : Int32)) dX10_hour_87 (by decide) ?_
    refine zz_aload_n F (i := 3) dX10_hour_89 rfl rfl ?_
    refine zz_iconst F (v := (5 : Int32)) dX10_hour_90 (by decide) ?_
    refine zz_ix fun j15 hj15 hinj15 hej15 => zz_ial F dX10_hour_91 rfl (⟨zlb rfl, zlb rfl, hj9⟩) rfl hinj15 hej15 ?_
    refine zz_ix fun j16 hj16 hinj16 hej16 => zz_ias F (Ms' := [(zu s0_14 8 j9 j16 (s0_14 8 j9 j15))]) dX10_hour_92 rfl (⟨zlb rfl, zlb rfl, hj9⟩) rfl hinj16 hej16 rfl ?_
    refine zz_letm (Mf := fun s0_17 => [s0_17]) fun s0_17 => ?_
    refine zz_aload_n F (i := 3) dX10_hour_93 rfl rfl ?_
    refine zz_iconst F (v := (5 : Int32)) dX10_hour_94 (by decide) ?_
    refine zz_iload F (i := 4) dX10_hour_95 rfl ?_
    refine zz_ix fun j18 hj18 hinj18 hej18 => zz_ias F (Ms' := [(zu s0_17 8 j9 j18 v11)]) dX10_hour_97 rfl (⟨zlb rfl, zlb rfl, hj9⟩) rfl hinj18 hej18 rfl ?_
    refine zz_letm (Mf := fun s0_19 => [s0_19]) fun s0_19 => ?_
    refine zz_iinc F (i := 2) (v := q7.1 + 1) (L' := [some (zr 0 0 0), none, some (zi (q7.1 + 1)), some (zr 0 8 j9), some (zi v11)]) dX10_hour_98 rfl (by first | rfl | decide) (by decide) rfl rfl ?_
    refine zz_letl (Lf := fun v20 => [some (zr 0 0 0), none, some (zi v20), some (zr 0 8 j9), some (zi v11)]) fun v20 => ?_
    refine zz_goto F (tgt := 40) dX10_hour_101 (by decide) ?_
    exact zz_sub (zs_k (zs_k (zs_k (zs_n (zs_n zs_z))))) (h1 (v20, s0_19))
set_option maxHeartbeats 4000000 in
set_option maxRecDepth 20000 in
theorem bfMS_hour_l106 {X : zX} (F : zFr X cX10_hour 5 RX10 (some .int))   {ψ : (Int32 × zM) ⊕ ((zM)) → Option zO} (h1 : ∀ q21 : Int32 × zM, zZ X [(3, [])] 4 109 5 106 [some (zr 0 0 0), none, some (zi q21.1), none, none] [] [q21.2] (ψ (.inl q21))) (h2 : ∀ q22 : zM, zZ X [(3, [])] 4 109 5 161 [some (zr 0 0 0), none, none, none, none] [] [q22] (ψ (.inr q22))) (q21 : Int32 × zM) : zZ X [(3, [])] 4 109 5 106 [some (zr 0 0 0), none, some (zi q21.1), none, none] [] [q21.2] (Option.bind (fMS_hour_l106  q21) ψ) := by
  unfold fMS_hour_l106
  refine zz_iload_n F (i := 2) dX10_hour_106 rfl rfl ?_
  refine zz_aload_n F (i := 0) dX10_hour_107 rfl rfl ?_
  refine zz_getf F dX10_hour_108 wfRX10_52 zCl_9 rfl (⟨zlb rfl, zlb rfl, zlb rfl⟩) rfl (by decide) rfl rfl ?_
  refine zz_icmp_ge F (tgt := 161) dX10_hour_111 (by decide) (fun h => zz_t h ?_) (fun h => zz_f h ?_)
  · exact zz_sub (zs_k (zs_k (zs_n (zs_k (zs_k zs_z))))) (h2 q21.2)
  · refine zz_aload_n F (i := 0) dX10_hour_114 rfl rfl ?_
    refine zz_getr F dX10_hour_115 wfRX10_19 zCl_9 rfl (⟨zlb rfl, zlb rfl, zlb rfl⟩) rfl (by decide) rfl (r' := 0) (by decide) ?_
    refine zz_iload_n F (i := 2) dX10_hour_118 rfl rfl ?_
    refine zz_ix fun j23 hj23 hinj23 hej23 => zz_aal F dX10_hour_119 rfl (⟨zlb rfl, zlb rfl, zlb rfl⟩) rfl (by decide) rfl hinj23 hej23 rfl ?_
    refine zz_astore_n F (i := 3) (L' := [some (zr 0 0 0), none, some (zi q21.1), some (zr 0 10 j23), none]) dX10_hour_120 rfl (by decide) rfl rfl ?_
    refine zz_aload_n F (i := 3) dX10_hour_121 rfl rfl ?_
    refine zz_iconst F (v := (2 : Int32)) dX10_hour_122 (by decide) ?_
    refine zz_aload_n F (i := 0) dX10_hour_123 rfl rfl ?_
    refine zz_iload_n F (i := 2) dX10_hour_124 rfl rfl ?_
    refine zz_aload_n F (i := 3) dX10_hour_125 rfl rfl ?_
    refine zz_iconst F (v := (0 : Int32)) dX10_hour_126 (by decide) ?_
    refine zz_ix fun j24 hj24 hinj24 hej24 => zz_ial F dX10_hour_127 rfl (⟨zlb rfl, zlb rfl, hj23⟩) rfl hinj24 hej24 ?_
    refine zz_aload_n F (i := 3) dX10_hour_128 rfl rfl ?_
    refine zz_iconst F (v := (1 : Int32)) dX10_hour_129 (by decide) ?_
    refine zz_ix fun j25 hj25 hinj25 hej25 => zz_ial F dX10_hour_130 rfl (⟨zlb rfl, zlb rfl, hj23⟩) rfl hinj25 hej25 ?_
    refine zz_bipush F (v := (10 : Int32)) dX10_hour_131 (by decide) ?_
    refine zz_idiv F dX10_hour_133 (by decide) ?_
    refine zz_isub F dX10_hour_134 ?_
    refine zz_bipush F (v := (6 : Int32)) dX10_hour_135 (by decide) ?_
    refine zz_bind ?_
    refine zz_callVr F (ρ := [0]) (so := fun q26 => [zi q26.1, zi (2 : Int32), zr 0 10 j23]) (Mo := fun q26 => [q26.2]) (zfMS_fit q21.1 ((q21.2 10 j23 j24) - ((q21.2 10 j23 j25) / (10 : Int32))) (6 : Int32) q21.2) dX10_hour_137 wcRX10_129 wy_yX10_fit rfl ⟨rel18, rfl, rfl, Nat.le_of_ble_eq_true rfl, Nat.le_of_ble_eq_true rfl, Nat.le_of_ble_eq_true rfl⟩ (⟨zlb rfl, zlb rfl, zlb rfl⟩) rfl rfl rfl (fun _ => rfl) (fun _ => rfl) fun q26 => ?_
    refine zz_ix fun j27 hj27 hinj27 hej27 => zz_ias F (Ms' := [(zu q26.2 10 j23 j27 q26.1)]) dX10_hour_140 rfl (⟨zlb rfl, zlb rfl, hj23⟩) rfl hinj27 hej27 rfl ?_
    refine zz_letm (Mf := fun s0_28 => [s0_28]) fun s0_28 => ?_
    refine zz_aload_n F (i := 3) dX10_hour_141 rfl rfl ?_
    refine zz_iconst F (v := (1 : Int32)) dX10_hour_142 (by decide) ?_
    refine zz_iconst F (v := (3 : Int32)) dX10_hour_143 (by decide) ?_
    refine zz_aload_n F (i := 3) dX10_hour_144 rfl rfl ?_
    refine zz_iconst F (v := (1 : Int32)) dX10_hour_145 (by decide) ?_
    refine zz_ix fun j29 hj29 hinj29 hej29 => zz_ial F dX10_hour_146 rfl (⟨zlb rfl, zlb rfl, hj23⟩) rfl hinj29 hej29 ?_
    refine zz_imul F dX10_hour_147 ?_
    refine zz_aload_n F (i := 3) dX10_hour_148 rfl rfl ?_
    refine zz_iconst F (v := (2 : Int32)) dX10_hour_149 (by decide) ?_
    refine zz_ix fun j30 hj30 hinj30 hej30 => zz_ial F dX10_hour_150 rfl (⟨zlb rfl, zlb rfl, hj23⟩) rfl hinj30 hej30 ?_
    refine zz_iadd F dX10_hour_151 ?_
    refine zz_iconst F (v := (4 : Int32)) dX10_hour_152 (by decide) ?_
    refine zz_idiv F dX10_hour_153 (by decide) ?_
    refine zz_ix fun j31 hj31 hinj31 hej31 => zz_ias F (Ms' := [(zu s0_28 10 j23 j31 ((((3 : Int32) * (s0_28 10 j23 j29)) + (s0_28 10 j23 j30)) / (4 : Int32)))]) dX10_hour_154 rfl (⟨zlb rfl, zlb rfl, hj23⟩) rfl hinj31 hej31 rfl ?_
    refine zz_letm (Mf := fun s0_32 => [s0_32]) fun s0_32 => ?_
    refine zz_iinc F (i := 2) (v := q21.1 + 1) (L' := [some (zr 0 0 0), none, some (zi (q21.1 + 1)), some (zr 0 10 j23), none]) dX10_hour_155 rfl (by first | rfl | decide) (by decide) rfl rfl ?_
    refine zz_letl (Lf := fun v33 => [some (zr 0 0 0), none, some (zi v33), some (zr 0 10 j23), none]) fun v33 => ?_
    refine zz_goto F (tgt := 106) dX10_hour_158 (by decide) ?_
    exact zz_sub (zs_k (zs_k (zs_k (zs_n (zs_k zs_z))))) (h1 (v33, s0_32))
set_option maxHeartbeats 4000000 in
set_option maxRecDepth 20000 in
theorem bfMS_hour_l175 {X : zX} (F : zFr X cX10_hour 5 RX10 (some .int)) (q34 : (Int32 × zM))  {ψ : (Int32 × zM) ⊕ ((zM)) → Option zO} (h1 : ∀ q35 : Int32 × zM, zZ X [(3, [])] 4 109 5 175 [some (zr 0 0 0), some (zi q34.1), some (zi q35.1), none, none] [] [q35.2] (ψ (.inl q35))) (h2 : ∀ q36 : zM, zZ X [(3, [])] 4 109 5 204 [some (zr 0 0 0), some (zi q34.1), none, none, none] [] [q36] (ψ (.inr q36))) (q35 : Int32 × zM) : zZ X [(3, [])] 4 109 5 175 [some (zr 0 0 0), some (zi q34.1), some (zi q35.1), none, none] [] [q35.2] (Option.bind (fMS_hour_l175  q35) ψ) := by
  unfold fMS_hour_l175
  refine zz_iload_n F (i := 2) dX10_hour_175 rfl rfl ?_
  refine zz_aload_n F (i := 0) dX10_hour_176 rfl rfl ?_
  refine zz_getf F dX10_hour_177 wfRX10_43 zCl_9 rfl (⟨zlb rfl, zlb rfl, zlb rfl⟩) rfl (by decide) rfl rfl ?_
  refine zz_icmp_ge F (tgt := 204) dX10_hour_180 (by decide) (fun h => zz_t h ?_) (fun h => zz_f h ?_)
  · exact zz_sub (zs_k (zs_k (zs_n (zs_k (zs_k zs_z))))) (h2 q35.2)
  · refine zz_aload_n F (i := 0) dX10_hour_183 rfl rfl ?_
    refine zz_getr F dX10_hour_184 wfRX10_11 zCl_9 rfl (⟨zlb rfl, zlb rfl, zlb rfl⟩) rfl (by decide) rfl (r' := 0) (by decide) ?_
    refine zz_iload_n F (i := 2) dX10_hour_187 rfl rfl ?_
    refine zz_ix fun j37 hj37 hinj37 hej37 => zz_aal F dX10_hour_188 rfl (⟨zlb rfl, zlb rfl, zlb rfl⟩) rfl (by decide) rfl hinj37 hej37 rfl ?_
    refine zz_bipush F (v := (6 : Int32)) dX10_hour_189 (by decide) ?_
    refine zz_aload_n F (i := 0) dX10_hour_191 rfl rfl ?_
    refine zz_getr F dX10_hour_192 wfRX10_32 zCl_9 rfl (⟨zlb rfl, zlb rfl, zlb rfl⟩) rfl (by decide) rfl (r' := 0) (by decide) ?_
    refine zz_iload_n F (i := 2) dX10_hour_195 rfl rfl ?_
    refine zz_ix fun j38 hj38 hinj38 hej38 => zz_ial F dX10_hour_196 rfl (⟨zlb rfl, zlb rfl, zlb rfl⟩) rfl hinj38 hej38 ?_
    refine zz_ix fun j39 hj39 hinj39 hej39 => zz_ias F (Ms' := [(zu q35.2 8 j37 j39 (q35.2 7 0 j38))]) dX10_hour_197 rfl (⟨zlb rfl, zlb rfl, hj37⟩) rfl hinj39 hej39 rfl ?_
    refine zz_letm (Mf := fun s0_40 => [s0_40]) fun s0_40 => ?_
    refine zz_iinc F (i := 2) (v := q35.1 + 1) (L' := [some (zr 0 0 0), some (zi q34.1), some (zi (q35.1 + 1)), none, none]) dX10_hour_198 rfl (by first | rfl | decide) (by decide) rfl rfl ?_
    refine zz_letl (Lf := fun v41 => [some (zr 0 0 0), some (zi q34.1), some (zi v41), none, none]) fun v41 => ?_
    refine zz_goto F (tgt := 175) dX10_hour_201 (by decide) ?_
    exact zz_sub (zs_k (zs_k (zs_k (zs_k (zs_k zs_z))))) (h1 (v41, s0_40))
set_option maxHeartbeats 4000000 in
set_option maxRecDepth 20000 in
theorem bfMS_hour_l311 {X : zX} (F : zFr X cX10_hour 5 RX10 (some .int)) (q34 : (Int32 × zM))  {ψ : (Int32 × zM) ⊕ ((zM)) → Option zO} (h1 : ∀ q54 : Int32 × zM, zZ X [(3, [])] 4 109 5 311 [some (zr 0 0 0), some (zi q34.1), some (zi q54.1), none, none] [] [q54.2] (ψ (.inl q54))) (h2 : ∀ q55 : zM, zZ X [(3, [])] 4 109 5 348 [some (zr 0 0 0), some (zi q34.1), none, none, none] [] [q55] (ψ (.inr q55))) (q54 : Int32 × zM) : zZ X [(3, [])] 4 109 5 311 [some (zr 0 0 0), some (zi q34.1), some (zi q54.1), none, none] [] [q54.2] (Option.bind (fMS_hour_l311  q54) ψ) := by
  unfold fMS_hour_l311
  refine zz_iload_n F (i := 2) dX10_hour_311 rfl rfl ?_
  refine zz_aload_n F (i := 0) dX10_hour_312 rfl rfl ?_
  refine zz_getf F dX10_hour_313 wfRX10_43 zCl_9 rfl (⟨zlb rfl, zlb rfl, zlb rfl⟩) rfl (by decide) rfl rfl ?_
  refine zz_icmp_ge F (tgt := 348) dX10_hour_316 (by decide) (fun h => zz_t h ?_) (fun h => zz_f h ?_)
  · exact zz_sub (zs_k (zs_k (zs_n (zs_k (zs_k zs_z))))) (h2 q54.2)
  · refine zz_aload_n F (i := 0) dX10_hour_319 rfl rfl ?_
    refine zz_getr F dX10_hour_320 wfRX10_11 zCl_9 rfl (⟨zlb rfl, zlb rfl, zlb rfl⟩) rfl (by decide) rfl (r' := 0) (by decide) ?_
    refine zz_iload_n F (i := 2) dX10_hour_323 rfl rfl ?_
    refine zz_ix fun j56 hj56 hinj56 hej56 => zz_aal F dX10_hour_324 rfl (⟨zlb rfl, zlb rfl, zlb rfl⟩) rfl (by decide) rfl hinj56 hej56 rfl ?_
    refine zz_iconst F (v := (3 : Int32)) dX10_hour_325 (by decide) ?_
    refine zz_ix fun j57 hj57 hinj57 hej57 => zz_ial F dX10_hour_326 rfl (⟨zlb rfl, zlb rfl, hj56⟩) rfl hinj57 hej57 ?_
    refine zz_iconst F (v := (2 : Int32)) dX10_hour_327 (by decide) ?_
    refine zz_join (pj := 342) (Lj := fun q58 => [some (zr 0 0 0), some (zi q34.1), some (zi q54.1), none, none]) (Sj := fun q58 => []) (Mj := fun q58 => [q58]) (fun q58 => ?_) (fun κ60 hj59 => ?_)
    · refine zz_iinc F (i := 2) (v := q54.1 + 1) (L' := [some (zr 0 0 0), some (zi q34.1), some (zi (q54.1 + 1)), none, none]) dX10_hour_342 rfl (by first | rfl | decide) (by decide) rfl rfl ?_
      refine zz_letl (Lf := fun v64 => [some (zr 0 0 0), some (zi q34.1), some (zi v64), none, none]) fun v64 => ?_
      refine zz_goto F (tgt := 311) dX10_hour_345 (by decide) ?_
      exact zz_sub (zs_k (zs_k (zs_k (zs_k (zs_k zs_z))))) (h1 (v64, q58))
    · refine zz_icmp_ne F (tgt := 342) dX10_hour_328 (by decide) (fun h => zz_f h ?_) (fun h => zz_t h ?_)
      · exact zz_sub (zs_k (zs_k (zs_k (zs_k (zs_k zs_z))))) (hj59 q54.2)
      · refine zz_aload_n F (i := 0) dX10_hour_331 rfl rfl ?_
        refine zz_iload_n F (i := 2) dX10_hour_332 rfl rfl ?_
        refine zz_aload_n F (i := 0) dX10_hour_333 rfl rfl ?_
        refine zz_getr F dX10_hour_334 wfRX10_11 zCl_9 rfl (⟨zlb rfl, zlb rfl, zlb rfl⟩) rfl (by decide) rfl (r' := 0) (by decide) ?_
        refine zz_iload_n F (i := 2) dX10_hour_337 rfl rfl ?_
        refine zz_ix fun j62 hj62 hinj62 hej62 => zz_aal F dX10_hour_338 rfl (⟨zlb rfl, zlb rfl, zlb rfl⟩) rfl (by decide) rfl hinj62 hej62 rfl ?_
        refine zz_bind ?_
        refine zz_callVr F (ρ := [0]) (so := fun q63 => []) (Mo := fun q63 => [q63]) (zfMS_wear q54.1 j62 hj62 q54.2) dX10_hour_339 wcRX10_136 wy_yX10_wear rfl ⟨rel18, rfl, rfl, Nat.le_of_ble_eq_true rfl, Nat.le_of_ble_eq_true rfl, Nat.le_of_ble_eq_true rfl⟩ (⟨zlb rfl, zlb rfl, zlb rfl⟩) rfl rfl rfl (fun _ => rfl) (fun _ => rfl) fun q63 => ?_
        exact zz_sub (zs_k (zs_k (zs_k (zs_k (zs_k zs_z))))) (hj59 q63)
set_option maxHeartbeats 4000000 in
set_option maxRecDepth 20000 in
theorem bfMS_hour_l350 {X : zX} (F : zFr X cX10_hour 5 RX10 (some .int)) (q34 : (Int32 × zM))  {ψ : (Int32 × zM) ⊕ ((zM)) → Option zO} (h1 : ∀ q65 : Int32 × zM, zZ X [(3, [])] 4 109 5 350 [some (zr 0 0 0), some (zi q34.1), some (zi q65.1), none, none] [] [q65.2] (ψ (.inl q65))) (h2 : ∀ q66 : zM, zZ X [(3, [])] 4 109 5 374 [none, some (zi q34.1), none, none, none] [] [q66] (ψ (.inr q66))) (q65 : Int32 × zM) : zZ X [(3, [])] 4 109 5 350 [some (zr 0 0 0), some (zi q34.1), some (zi q65.1), none, none] [] [q65.2] (Option.bind (fMS_hour_l350  q65) ψ) := by
  unfold fMS_hour_l350
  refine zz_iload_n F (i := 2) dX10_hour_350 rfl rfl ?_
  refine zz_aload_n F (i := 0) dX10_hour_351 rfl rfl ?_
  refine zz_getf F dX10_hour_352 wfRX10_55 zCl_9 rfl (⟨zlb rfl, zlb rfl, zlb rfl⟩) rfl (by decide) rfl rfl ?_
  refine zz_icmp_ge F (tgt := 374) dX10_hour_355 (by decide) (fun h => zz_t h ?_) (fun h => zz_f h ?_)
  · exact zz_sub (zs_n (zs_k (zs_n (zs_k (zs_k zs_z))))) (h2 q65.2)
  · refine zz_aload_n F (i := 0) dX10_hour_358 rfl rfl ?_
    refine zz_aload_n F (i := 0) dX10_hour_359 rfl rfl ?_
    refine zz_getr F dX10_hour_360 wfRX10_22 zCl_9 rfl (⟨zlb rfl, zlb rfl, zlb rfl⟩) rfl (by decide) rfl (r' := 0) (by decide) ?_
    refine zz_iload_n F (i := 2) dX10_hour_363 rfl rfl ?_
    refine zz_ix fun j67 hj67 hinj67 hej67 => zz_aal F dX10_hour_364 rfl (⟨zlb rfl, zlb rfl, zlb rfl⟩) rfl (by decide) rfl hinj67 hej67 rfl ?_
    refine zz_bind ?_
    refine zz_callVr F (ρ := [0]) (so := fun q68 => []) (Mo := fun q68 => [q68]) (zfMS_work j67 hj67 q65.2) dX10_hour_365 wcRX10_140 wy_yX10_work rfl ⟨rel18, rfl, rfl, Nat.le_of_ble_eq_true rfl, Nat.le_of_ble_eq_true rfl, Nat.le_of_ble_eq_true rfl⟩ (⟨zlb rfl, zlb rfl, zlb rfl⟩) rfl rfl rfl (fun _ => rfl) (fun _ => rfl) fun q68 => ?_
    refine zz_iinc F (i := 2) (v := q65.1 + 1) (L' := [some (zr 0 0 0), some (zi q34.1), some (zi (q65.1 + 1)), none, none]) dX10_hour_368 rfl (by first | rfl | decide) (by decide) rfl rfl ?_
    refine zz_letl (Lf := fun v69 => [some (zr 0 0 0), some (zi q34.1), some (zi v69), none, none]) fun v69 => ?_
    refine zz_goto F (tgt := 350) dX10_hour_371 (by decide) ?_
    exact zz_sub (zs_k (zs_k (zs_k (zs_k (zs_k zs_z))))) (h1 (v69, q68))
set_option maxHeartbeats 4000000 in
set_option maxRecDepth 20000 in
theorem bfMS_hour {X : zX} (F : zFr X cX10_hour 5 RX10 (some .int))   (s0 : zM) {κ : Int32 × zM → Option zO} (hκ : ∀ a, κ a = some ((fun a => ((.inl ((fun q => some (zi q.1)) a), (fun q => [q.2]) a) : zO)) a)) : zZ X [(3, [])] 4 109 5 0 [some (zr 0 0 0), none, none, none, none] [] [s0] (Option.bind (fMS_hour s0) κ) := by
  unfold fMS_hour
  refine zz_aload_n F (i := 0) dX10_hour_0 rfl rfl ?_
  refine zz_dup F dX10_hour_1 rfl ?_
  refine zz_getf F dX10_hour_2 wfRX10_58 zCl_9 rfl (⟨zlb rfl, zlb rfl, zlb rfl⟩) rfl (by decide) rfl rfl ?_
  refine zz_iconst F (v := (1 : Int32)) dX10_hour_5 (by decide) ?_
  refine zz_iadd F dX10_hour_6 ?_
  refine zz_put F (Ms' := [(zu s0 0 0 10 ((s0 0 0 10) + (1 : Int32)))]) dX10_hour_7 wpRX10_58 zCl_9 rfl (⟨zlb rfl, zlb rfl, zlb rfl⟩) rfl (by decide) rfl rfl rfl ?_
  refine zz_letm (Mf := fun s0_1 => [s0_1]) fun s0_1 => ?_
  refine zz_iconst F (v := (0 : Int32)) dX10_hour_10 (by decide) ?_
  refine zz_istore_n F (i := 1) (L' := [some (zr 0 0 0), some (zi (0 : Int32)), none, none, none]) dX10_hour_11 rfl (by decide) rfl rfl ?_
  refine zz_sub (zs_k (zs_k (zs_k (zs_k (zs_k zs_z))))) ?_
  refine zz_bind ?_
  refine zz_iter (Lf := fun q2 => [some (zr 0 0 0), some (zi q2.1), none, none, none]) (Mf := fun q2 => [q2.2]) (fun q2 _ e80 e81 => bfMS_hour_l12 F   e80 (fun q3 => ?_)  q2) 1000 ((0 : Int32), s0_1)
  rw [e81]
  refine zz_iconst F (v := (0 : Int32)) dX10_hour_36 (by decide) ?_
  refine zz_istore_n F (i := 1) (L' := [some (zr 0 0 0), some (zi (0 : Int32)), none, none, none]) dX10_hour_37 rfl (by decide) rfl rfl ?_
  refine zz_iconst F (v := (0 : Int32)) dX10_hour_38 (by decide) ?_
  refine zz_istore_n F (i := 2) (L' := [some (zr 0 0 0), some (zi (0 : Int32)), some (zi (0 : Int32)), none, none]) dX10_hour_39 rfl (by decide) rfl rfl ?_
  refine zz_sub (zs_k (zs_n (zs_k (zs_k (zs_k zs_z))))) ?_
  refine zz_bind ?_
  refine zz_iter (Lf := fun q7 => [some (zr 0 0 0), none, some (zi q7.1), none, none]) (Mf := fun q7 => [q7.2]) (fun q7 _ e78 e79 => bfMS_hour_l40 F   e78 (fun q8 => ?_)  q7) 1000 ((0 : Int32), q3)
  rw [e79]
  refine zz_iconst F (v := (0 : Int32)) dX10_hour_104 (by decide) ?_
  refine zz_istore_n F (i := 2) (L' := [some (zr 0 0 0), none, some (zi (0 : Int32)), none, none]) dX10_hour_105 rfl (by decide) rfl rfl ?_
  refine zz_sub (zs_k (zs_k (zs_k (zs_k (zs_k zs_z))))) ?_
  refine zz_bind ?_
  refine zz_iter (Lf := fun q21 => [some (zr 0 0 0), none, some (zi q21.1), none, none]) (Mf := fun q21 => [q21.2]) (fun q21 _ e76 e77 => bfMS_hour_l106 F   e76 (fun q22 => ?_)  q21) 1000 ((0 : Int32), q8)
  rw [e77]
  refine zz_aload_n F (i := 0) dX10_hour_161 rfl rfl ?_
  refine zz_iconst F (v := (-1 : Int32)) dX10_hour_162 (by decide) ?_
  refine zz_aload_n F (i := 0) dX10_hour_163 rfl rfl ?_
  refine zz_getf F dX10_hour_164 wfRX10_35 zCl_9 rfl (⟨zlb rfl, zlb rfl, zlb rfl⟩) rfl (by decide) rfl rfl ?_
  refine zz_bipush F (v := (7 : Int32)) dX10_hour_167 (by decide) ?_
  refine zz_bind ?_
  refine zz_callVr F (ρ := [0]) (so := fun q34 => [zi q34.1]) (Mo := fun q34 => [q34.2]) (zfMS_fit (-1 : Int32) (q22 0 0 15) (7 : Int32) q22) dX10_hour_169 wcRX10_129 wy_yX10_fit rfl ⟨rel18, rfl, rfl, Nat.le_of_ble_eq_true rfl, Nat.le_of_ble_eq_true rfl, Nat.le_of_ble_eq_true rfl⟩ (⟨zlb rfl, zlb rfl, zlb rfl⟩) rfl rfl rfl (fun _ => rfl) (fun _ => rfl) fun q34 => ?_
  refine zz_istore_n F (i := 1) (L' := [some (zr 0 0 0), some (zi q34.1), none, none, none]) dX10_hour_172 rfl (by decide) rfl rfl ?_
  refine zz_iconst F (v := (0 : Int32)) dX10_hour_173 (by decide) ?_
  refine zz_istore_n F (i := 2) (L' := [some (zr 0 0 0), some (zi q34.1), some (zi (0 : Int32)), none, none]) dX10_hour_174 rfl (by decide) rfl rfl ?_
  refine zz_sub (zs_k (zs_k (zs_k (zs_k (zs_k zs_z))))) ?_
  refine zz_bind ?_
  refine zz_iter (Lf := fun q35 => [some (zr 0 0 0), some (zi q34.1), some (zi q35.1), none, none]) (Mf := fun q35 => [q35.2]) (fun q35 _ e74 e75 => bfMS_hour_l175 F q34  e74 (fun q36 => ?_)  q35) 1000 ((0 : Int32), q34.2)
  rw [e75]
  refine zz_aload_n F (i := 0) dX10_hour_204 rfl rfl ?_
  refine zz_dup F dX10_hour_205 rfl ?_
  refine zz_getf F dX10_hour_206 wfRX10_73 zCl_9 rfl (⟨zlb rfl, zlb rfl, zlb rfl⟩) rfl (by decide) rfl rfl ?_
  refine zz_aload_n F (i := 0) dX10_hour_209 rfl rfl ?_
  refine zz_getf F dX10_hour_210 wfRX10_43 zCl_9 rfl (⟨zlb rfl, zlb rfl, zlb rfl⟩) rfl (by decide) rfl rfl ?_
  refine zz_aload_n F (i := 0) dX10_hour_213 rfl rfl ?_
  refine zz_getf F dX10_hour_214 wfRX10_64 zCl_9 rfl (⟨zlb rfl, zlb rfl, zlb rfl⟩) rfl (by decide) rfl rfl ?_
  refine zz_bind ?_
  refine zz_callSNr F (ρ := []) (so := fun q42 => [zi q42, zi (q36 0 0 7), zi (q36 0 0 17), zr 0 0 0]) (Mo := fun q42 => [q36]) (zfMO_power (q36 0 0 12)) dX10_hour_217 wcRX10_133 wy_yX11_power rfl ⟨rel17, rfl, rfl, Nat.le_of_ble_eq_true rfl, Nat.le_of_ble_eq_true rfl, Nat.le_of_ble_eq_true rfl⟩ rfl (fun _ => rfl) (fun _ => rfl) fun q42 => ?_
  refine zz_imul F dX10_hour_220 ?_
  refine zz_iadd F dX10_hour_221 ?_
  refine zz_put F (Ms' := [(zu q36 0 0 17 ((q36 0 0 17) + ((q36 0 0 7) * q42)))]) dX10_hour_222 wpRX10_73 zCl_9 rfl (⟨zlb rfl, zlb rfl, zlb rfl⟩) rfl (by decide) rfl rfl rfl ?_
  refine zz_letm (Mf := fun s0_43 => [s0_43]) fun s0_43 => ?_
  refine zz_aload_n F (i := 0) dX10_hour_225 rfl rfl ?_
  refine zz_dup F dX10_hour_226 rfl ?_
  refine zz_getf F dX10_hour_227 wfRX10_76 zCl_9 rfl (⟨zlb rfl, zlb rfl, zlb rfl⟩) rfl (by decide) rfl rfl ?_
  refine zz_iload_n F (i := 1) dX10_hour_230 rfl rfl ?_
  refine zz_iadd F dX10_hour_231 ?_
  refine zz_put F (Ms' := [(zu s0_43 0 0 18 ((s0_43 0 0 18) + q34.1))]) dX10_hour_232 wpRX10_76 zCl_9 rfl (⟨zlb rfl, zlb rfl, zlb rfl⟩) rfl (by decide) rfl rfl rfl ?_
  refine zz_letm (Mf := fun s0_44 => [s0_44]) fun s0_44 => ?_
  refine zz_aload_n F (i := 0) dX10_hour_235 rfl rfl ?_
  refine zz_iload_n F (i := 1) dX10_hour_236 rfl rfl ?_
  refine zz_put F (Ms' := [(zu s0_44 0 0 19 q34.1)]) dX10_hour_237 wpRX10_79 zCl_9 rfl (⟨zlb rfl, zlb rfl, zlb rfl⟩) rfl (by decide) rfl rfl rfl ?_
  refine zz_letm (Mf := fun s0_45 => [s0_45]) fun s0_45 => ?_
  refine zz_aload_n F (i := 0) dX10_hour_240 rfl rfl ?_
  refine zz_dup F dX10_hour_241 rfl ?_
  refine zz_getf F dX10_hour_242 wfRX10_82 zCl_9 rfl (⟨zlb rfl, zlb rfl, zlb rfl⟩) rfl (by decide) rfl rfl ?_
  refine zz_iload_n F (i := 1) dX10_hour_245 rfl rfl ?_
  refine zz_aload_n F (i := 0) dX10_hour_246 rfl rfl ?_
  refine zz_getf F dX10_hour_247 wfRX10_70 zCl_9 rfl (⟨zlb rfl, zlb rfl, zlb rfl⟩) rfl (by decide) rfl rfl ?_
  refine zz_imul F dX10_hour_250 ?_
  refine zz_bipush F (v := (100 : Int32)) dX10_hour_251 (by decide) ?_
  refine zz_idiv F dX10_hour_253 (by decide) ?_
  refine zz_iadd F dX10_hour_254 ?_
  refine zz_put F (Ms' := [(zu s0_45 0 0 20 ((s0_45 0 0 20) + ((q34.1 * (s0_45 0 0 14)) / (100 : Int32))))]) dX10_hour_255 wpRX10_82 zCl_9 rfl (⟨zlb rfl, zlb rfl, zlb rfl⟩) rfl (by decide) rfl rfl rfl ?_
  refine zz_letm (Mf := fun s0_46 => [s0_46]) fun s0_46 => ?_
  refine zz_aload_n F (i := 0) dX10_hour_258 rfl rfl ?_
  refine zz_getr F dX10_hour_259 wfRX10_25 zCl_9 rfl (⟨zlb rfl, zlb rfl, zlb rfl⟩) rfl (by decide) rfl (r' := 0) (by decide) ?_
  refine zz_aload_n F (i := 0) dX10_hour_262 rfl rfl ?_
  refine zz_getf F dX10_hour_263 wfRX10_58 zCl_9 rfl (⟨zlb rfl, zlb rfl, zlb rfl⟩) rfl (by decide) rfl rfl ?_
  refine zz_bipush F (v := (32 : Int32)) dX10_hour_266 (by decide) ?_
  refine zz_irem F dX10_hour_268 (by decide) ?_
  refine zz_ix fun j47 hj47 hinj47 hej47 => zz_ial F dX10_hour_269 rfl (⟨zlb rfl, zlb rfl, zlb rfl⟩) rfl hinj47 hej47 ?_
  refine zz_aload_n F (i := 0) dX10_hour_270 rfl rfl ?_
  refine zz_getf F dX10_hour_271 wfRX10_58 zCl_9 rfl (⟨zlb rfl, zlb rfl, zlb rfl⟩) rfl (by decide) rfl rfl ?_
  refine zz_join (pj := 309) (Lj := fun q48 => [some (zr 0 0 0), some (zi q34.1), none, none, none]) (Sj := fun q48 => []) (Mj := fun q48 => [q48]) (fun q48 => ?_) (fun κ50 hj49 => ?_)
  · refine zz_iconst F (v := (0 : Int32)) dX10_hour_309 (by decide) ?_
    refine zz_istore_n F (i := 2) (L' := [some (zr 0 0 0), some (zi q34.1), some (zi (0 : Int32)), none, none]) dX10_hour_310 rfl (by decide) rfl rfl ?_
    refine zz_sub (zs_k (zs_k (zs_k (zs_k (zs_k zs_z))))) ?_
    refine zz_bind ?_
    refine zz_iter (Lf := fun q54 => [some (zr 0 0 0), some (zi q34.1), some (zi q54.1), none, none]) (Mf := fun q54 => [q54.2]) (fun q54 _ e72 e73 => bfMS_hour_l311 F q34  e72 (fun q55 => ?_)  q54) 1000 ((0 : Int32), q48)
    rw [e73]
    refine zz_iconst F (v := (0 : Int32)) dX10_hour_348 (by decide) ?_
    refine zz_istore_n F (i := 2) (L' := [some (zr 0 0 0), some (zi q34.1), some (zi (0 : Int32)), none, none]) dX10_hour_349 rfl (by decide) rfl rfl ?_
    refine zz_sub (zs_k (zs_k (zs_k (zs_k (zs_k zs_z))))) ?_
    refine zz_bind ?_
    refine zz_iter (Lf := fun q65 => [some (zr 0 0 0), some (zi q34.1), some (zi q65.1), none, none]) (Mf := fun q65 => [q65.2]) (fun q65 _ e70 e71 => bfMS_hour_l350 F q34  e70 (fun q66 => ?_)  q65) 1000 ((0 : Int32), q55)
    rw [e71]
    refine zz_iload_n F (i := 1) dX10_hour_374 rfl rfl ?_
    exact zz_ireturn F dX10_hour_375 rfl (hκ _)
  · refine zz_icmp_ne F (tgt := 309) dX10_hour_274 (by decide) (fun h => zz_f h ?_) (fun h => zz_t h ?_)
    · exact zz_sub (zs_k (zs_k (zs_k (zs_k (zs_k zs_z))))) (hj49 s0_46)
    · refine zz_aload_n F (i := 0) dX10_hour_277 rfl rfl ?_
      refine zz_dup F dX10_hour_278 rfl ?_
      refine zz_getf F dX10_hour_279 wfRX10_82 zCl_9 rfl (⟨zlb rfl, zlb rfl, zlb rfl⟩) rfl (by decide) rfl rfl ?_
      refine zz_aload_n F (i := 0) dX10_hour_282 rfl rfl ?_
      refine zz_getr F dX10_hour_283 wfRX10_29 zCl_9 rfl (⟨zlb rfl, zlb rfl, zlb rfl⟩) rfl (by decide) rfl (r' := 0) (by decide) ?_
      refine zz_aload_n F (i := 0) dX10_hour_286 rfl rfl ?_
      refine zz_getf F dX10_hour_287 wfRX10_58 zCl_9 rfl (⟨zlb rfl, zlb rfl, zlb rfl⟩) rfl (by decide) rfl rfl ?_
      refine zz_bipush F (v := (32 : Int32)) dX10_hour_290 (by decide) ?_
      refine zz_irem F dX10_hour_292 (by decide) ?_
      refine zz_ix fun j52 hj52 hinj52 hej52 => zz_ial F dX10_hour_293 rfl (⟨zlb rfl, zlb rfl, zlb rfl⟩) rfl hinj52 hej52 ?_
      refine zz_iload_n F (i := 1) dX10_hour_294 rfl rfl ?_
      refine zz_isub F dX10_hour_295 ?_
      refine zz_abs F dX10_hour_296 wmRX10_99 wMath_abs (Nat.le_of_ble_eq_true rfl) (Nat.le_of_ble_eq_true rfl) ?_
      refine zz_bipush F (v := (20 : Int32)) dX10_hour_299 (by decide) ?_
      refine zz_imul F dX10_hour_301 ?_
      refine zz_bipush F (v := (100 : Int32)) dX10_hour_302 (by decide) ?_
      refine zz_idiv F dX10_hour_304 (by decide) ?_
      refine zz_isub F dX10_hour_305 ?_
      refine zz_put F (Ms' := [(zu s0_46 0 0 20 ((s0_46 0 0 20) - (((zabs ((s0_46 6 0 j52) - q34.1)) * (20 : Int32)) / (100 : Int32))))]) dX10_hour_306 wpRX10_82 zCl_9 rfl (⟨zlb rfl, zlb rfl, zlb rfl⟩) rfl (by decide) rfl rfl rfl ?_
      refine zz_letm (Mf := fun s0_53 => [s0_53]) fun s0_53 => ?_
      exact zz_sub (zs_k (zs_k (zs_k (zs_k (zs_k zs_z))))) (hj49 s0_53)
theorem zfMS_hour   (s0 : zM) : ∀ a, fMS_hour s0 = some a → zMet yX10_hour cX10_hour 5 (some .int) 4 109 [(3, [])] [zr 0 0 0] [s0] ((fun a => ((.inl ((fun q => some (zi q.1)) a), (fun q => [q.2]) a) : zO)) a) := fun a ha => zMet_of (L0 := [some (zr 0 0 0), none, none, none, none]) (φ := Option.bind (fMS_hour s0) (fun a => some ((fun a => ((.inl ((fun q => some (zi q.1)) a), (fun q => [q.2]) a) : zO)) a))) (by decide) (fun _ => Nat.le_of_ble_eq_true rfl) (zl0 4 rfl) (fun X F => bfMS_hour F s0 (fun _ => rfl)) (by rw [ha]; rfl)
