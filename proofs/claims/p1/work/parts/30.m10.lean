theorem dX11_thrown_0 : decode cX11_thrown 0 = .ok (.aload_n 0, 1) := by decide +kernel
theorem dX11_thrown_1 : decode cX11_thrown 1 = .ok (.getfield 16, 3) := by decide +kernel
theorem dX11_thrown_4 : decode cX11_thrown 4 = .ok (.ireturn, 1) := by decide +kernel
theorem wfRX11_16 : zFl RX11 16 10 0 := ⟨_, rfl, by decide, zm_f 1060 (by decide +kernel) rfl⟩
def fMO_thrown  (s0 : zM) (s1 : zM) : Option (Int32) :=
  some (s0 0 0 0)
set_option maxHeartbeats 4000000 in
set_option maxRecDepth 20000 in
theorem bfMO_thrown {X : zX} (F : zFr X cX11_thrown 1 RX11 (some .int))   (s0 : zM) (s1 : zM) {κ : Int32 → Option zO} (hκ : ∀ a, κ a = some ((fun a => ((.inl ((fun q => some (zi q)) a), (fun _ => [s0, s1]) a) : zO)) a)) : zZ X [(4, [1]), (3, [])] 0 0 1 0 [some (zr 0 0 0)] [] [s0, s1] (Option.bind (fMO_thrown s0 s1) κ) := by
  unfold fMO_thrown
  refine zz_aload_n F (i := 0) dX11_thrown_0 rfl rfl ?_
  refine zz_getf F dX11_thrown_1 wfRX11_16 zCl_10 rfl (⟨zlb rfl, zlb rfl, zlb rfl⟩) rfl (by decide) rfl rfl ?_
  exact zz_ireturn F dX11_thrown_4 rfl (hκ _)
theorem zfMO_thrown   (s0 : zM) (s1 : zM) : ∀ a, fMO_thrown s0 s1 = some a → zMet yX11_thrown cX11_thrown 1 (some .int) 0 0 [(4, [1]), (3, [])] [zr 0 0 0] [s0, s1] ((fun a => ((.inl ((fun q => some (zi q)) a), (fun _ => [s0, s1]) a) : zO)) a) := fun a ha => zMet_of (L0 := [some (zr 0 0 0)]) (φ := Option.bind (fMO_thrown s0 s1) (fun a => some ((fun a => ((.inl ((fun q => some (zi q)) a), (fun _ => [s0, s1]) a) : zO)) a))) (by decide) (fun _ => Nat.le_of_ble_eq_true rfl) (zl0 0 rfl) (fun X F => bfMO_thrown F s0 s1 (fun _ => rfl)) (by rw [ha]; rfl)

theorem dX11_no_0 : decode cX11_no 0 = .ok (.aload_n 0, 1) := by decide +kernel
theorem dX11_no_1 : decode cX11_no 1 = .ok (.iload_n 1, 1) := by decide +kernel
theorem dX11_no_2 : decode cX11_no 2 = .ok (.putfield 16, 3) := by decide +kernel
theorem dX11_no_5 : decode cX11_no 5 = .ok (.iconst 0, 1) := by decide +kernel
theorem dX11_no_6 : decode cX11_no 6 = .ok (.ireturn, 1) := by decide +kernel
theorem wpRX11_16 : zFw RX11 16 10 0 .int := ⟨_, rfl, by decide, zm_f 1060 (by decide +kernel) rfl, rfl, by decide +kernel⟩
def fMO_no (a1 : Int32) (s0 : zM) (s1 : zM) : Option (Int32 × zM) :=
  zlet (zu s0 0 0 0 a1) fun s0_1 =>
  some ((0 : Int32), s0_1)
set_option maxHeartbeats 4000000 in
set_option maxRecDepth 20000 in
theorem bfMO_no {X : zX} (F : zFr X cX11_no 2 RX11 (some .int)) (a1 : Int32)  (s0 : zM) (s1 : zM) {κ : Int32 × zM → Option zO} (hκ : ∀ a, κ a = some ((fun a => ((.inl ((fun q => some (zi q.1)) a), (fun q => [q.2, s1]) a) : zO)) a)) : zZ X [(4, [1]), (3, [])] 0 0 2 0 [some (zr 0 0 0), some (zi a1)] [] [s0, s1] (Option.bind (fMO_no a1 s0 s1) κ) := by
  unfold fMO_no
  refine zz_aload_n F (i := 0) dX11_no_0 rfl rfl ?_
  refine zz_iload_n F (i := 1) dX11_no_1 rfl rfl ?_
  refine zz_put F (Ms' := [(zu s0 0 0 0 a1), s1]) dX11_no_2 wpRX11_16 zCl_10 rfl (⟨zlb rfl, zlb rfl, zlb rfl⟩) rfl (by decide) rfl rfl rfl ?_
  refine zz_letm (Mf := fun s0_1 => [s0_1, s1]) fun s0_1 => ?_
  refine zz_iconst F (v := (0 : Int32)) dX11_no_5 (by decide) ?_
  exact zz_ireturn F dX11_no_6 rfl (hκ _)
theorem zfMO_no (a1 : Int32)  (s0 : zM) (s1 : zM) : ∀ a, fMO_no a1 s0 s1 = some a → zMet yX11_no cX11_no 2 (some .int) 0 0 [(4, [1]), (3, [])] [zr 0 0 0, zi a1] [s0, s1] ((fun a => ((.inl ((fun q => some (zi q.1)) a), (fun q => [q.2, s1]) a) : zO)) a) := fun a ha => zMet_of (L0 := [some (zr 0 0 0), some (zi a1)]) (φ := Option.bind (fMO_no a1 s0 s1) (fun a => some ((fun a => ((.inl ((fun q => some (zi q.1)) a), (fun q => [q.2, s1]) a) : zO)) a))) (by decide) (fun _ => Nat.le_of_ble_eq_true rfl) (zl0 0 rfl) (fun X F => bfMO_no F a1 s0 s1 (fun _ => rfl)) (by rw [ha]; rfl)

theorem dX11_in_0 : decode cX11_in 0 = .ok (.iload_n 0, 1) := by decide +kernel
theorem dX11_in_1 : decode cX11_in 1 = .ok (.iload_n 1, 1) := by decide +kernel
theorem dX11_in_2 : decode cX11_in 2 = .ok (.if_icmp .lt 12, 3) := by decide +kernel
theorem dX11_in_5 : decode cX11_in 5 = .ok (.iload_n 0, 1) := by decide +kernel
theorem dX11_in_6 : decode cX11_in 6 = .ok (.iload_n 2, 1) := by decide +kernel
theorem dX11_in_7 : decode cX11_in 7 = .ok (.if_icmp .gt 7, 3) := by decide +kernel
theorem dX11_in_10 : decode cX11_in 10 = .ok (.iconst 1, 1) := by decide +kernel
theorem dX11_in_11 : decode cX11_in 11 = .ok (.goto 4, 3) := by decide +kernel
theorem dX11_in_14 : decode cX11_in 14 = .ok (.iconst 0, 1) := by decide +kernel
theorem dX11_in_15 : decode cX11_in 15 = .ok (.ireturn, 1) := by decide +kernel
def fMO_in (a0 : Int32) (a1 : Int32) (a2 : Int32)  : Option (Int32) :=
  if a0 < a1 then
  some (0 : Int32)
else
  if a2 < a0 then
    some (0 : Int32)
  else
    some (1 : Int32)
set_option maxHeartbeats 4000000 in
set_option maxRecDepth 20000 in
theorem bfMO_in {X : zX} (F : zFr X cX11_in 3 RX11 (some .boolean)) (a0 : Int32) (a1 : Int32) (a2 : Int32)   {κ : Int32 → Option zO} (hκ : ∀ a, κ a = some ((fun a => ((.inl ((fun q => some (zi q)) a), (fun _ => []) a) : zO)) a)) : zZ X [] 0 0 3 0 [some (zi a0), some (zi a1), some (zi a2)] [] [] (Option.bind (fMO_in a0 a1 a2) κ) := by
  unfold fMO_in
  refine zz_iload_n F (i := 0) dX11_in_0 rfl rfl ?_
  refine zz_iload_n F (i := 1) dX11_in_1 rfl rfl ?_
  refine zz_icmp_lt F (tgt := 14) dX11_in_2 (by decide) (fun h => zz_t h ?_) (fun h => zz_f h ?_)
  · refine zz_iconst F (v := (0 : Int32)) dX11_in_14 (by decide) ?_
    exact zz_zreturn F dX11_in_15 rfl rfl (hκ _)
  · refine zz_iload_n F (i := 0) dX11_in_5 rfl rfl ?_
    refine zz_iload_n F (i := 2) dX11_in_6 rfl rfl ?_
    refine zz_icmp_gt F (tgt := 14) dX11_in_7 (by decide) (fun h => zz_t h ?_) (fun h => zz_f h ?_)
    · refine zz_iconst F (v := (0 : Int32)) dX11_in_14 (by decide) ?_
      exact zz_zreturn F dX11_in_15 rfl rfl (hκ _)
    · refine zz_iconst F (v := (1 : Int32)) dX11_in_10 (by decide) ?_
      refine zz_goto F (tgt := 15) dX11_in_11 (by decide) ?_
      exact zz_zreturn F dX11_in_15 rfl rfl (hκ _)
theorem zfMO_in (a0 : Int32) (a1 : Int32) (a2 : Int32)   : ∀ a, fMO_in a0 a1 a2 = some a → zMet yX11_in cX11_in 3 (some .boolean) 0 0 [] [zi a0, zi a1, zi a2] [] ((fun a => ((.inl ((fun q => some (zi q)) a), (fun _ => []) a) : zO)) a) := fun a ha => zMet_of (L0 := [some (zi a0), some (zi a1), some (zi a2)]) (φ := Option.bind (fMO_in a0 a1 a2) (fun a => some ((fun a => ((.inl ((fun q => some (zi q)) a), (fun _ => []) a) : zO)) a))) (by decide) (fun _ => Nat.le_of_ble_eq_true rfl) (zl0 0 rfl) (fun X F => bfMO_in F a0 a1 a2 (fun _ => rfl)) (by rw [ha]; rfl)

theorem dX11_power_0 : decode cX11_power 0 = .ok (.iload_n 0, 1) := by decide +kernel
theorem dX11_power_1 : decode cX11_power 1 = .ok (.iconst 4, 1) := by decide +kernel
theorem dX11_power_2 : decode cX11_power 2 = .ok (.bipush 25, 2) := by decide +kernel
theorem dX11_power_4 : decode cX11_power 4 = .ok (.invokestatic 20, 3) := by decide +kernel
theorem dX11_power_7 : decode cX11_power 7 = .ok (.ifCond .eq 17, 3) := by decide +kernel
theorem dX11_power_10 : decode cX11_power 10 = .ok (.sipush 2000, 3) := by decide +kernel
theorem dX11_power_13 : decode cX11_power 13 = .ok (.iload_n 0, 1) := by decide +kernel
theorem dX11_power_14 : decode cX11_power 14 = .ok (.iload_n 0, 1) := by decide +kernel
theorem dX11_power_15 : decode cX11_power 15 = .ok (.imul, 1) := by decide +kernel
theorem dX11_power_16 : decode cX11_power 16 = .ok (.iload_n 0, 1) := by decide +kernel
theorem dX11_power_17 : decode cX11_power 17 = .ok (.imul, 1) := by decide +kernel
theorem dX11_power_18 : decode cX11_power 18 = .ok (.invokestatic 24, 3) := by decide +kernel
theorem dX11_power_21 : decode cX11_power 21 = .ok (.goto 4, 3) := by decide +kernel
theorem dX11_power_24 : decode cX11_power 24 = .ok (.iconst 0, 1) := by decide +kernel
theorem dX11_power_25 : decode cX11_power 25 = .ok (.ireturn, 1) := by decide +kernel
theorem wcRX11_20 : Cond.methodLink RX11 20 yX11_in ∈ zTg ∧ Cond.static yX11_in ∈ zTg ∧ Cond.initialized yX11_in.cls ∈ zTg ∧ Cond.code yX11_in cX11_in 3 (some .boolean) ∈ zTg := ⟨zm_f 1075 (by decide +kernel) rfl, zm_f 1076 (by decide +kernel) rfl, zm_f 46 (by decide +kernel) rfl, zm_f 1077 (by decide +kernel) rfl⟩
theorem wy_yX11_in : yX11_in.cls ≠ "java/lang/invoke/MethodHandle" ∧ yX11_in.cls ≠ "java/lang/invoke/VarHandle" ∧ (parseMethodDescriptor yX11_in.desc).map (fun d => d.parameters.length) = some 3 := by decide +kernel
theorem wmRX11_24 : Cond.methodLink RX11 24 Lib.Math.min.name ∈ zTg := zm_f 1150 (by decide +kernel) rfl
def fMO_power (a0 : Int32)  : Option (Int32) :=
  Option.bind (fMO_in a0 (4 : Int32) (25 : Int32)) fun q1 =>
  if q1 = 0 then
  some (0 : Int32)
else
  some (zmin (2000 : Int32) ((a0 * a0) * a0))
set_option maxHeartbeats 4000000 in
set_option maxRecDepth 20000 in
theorem bfMO_power {X : zX} (F : zFr X cX11_power 1 RX11 (some .int)) (a0 : Int32)   {κ : Int32 → Option zO} (hκ : ∀ a, κ a = some ((fun a => ((.inl ((fun q => some (zi q)) a), (fun _ => []) a) : zO)) a)) : zZ X [] 1 23 1 0 [some (zi a0)] [] [] (Option.bind (fMO_power a0) κ) := by
  unfold fMO_power
  refine zz_iload_n F (i := 0) dX11_power_0 rfl rfl ?_
  refine zz_iconst F (v := (4 : Int32)) dX11_power_1 (by decide) ?_
  refine zz_bipush F (v := (25 : Int32)) dX11_power_2 (by decide) ?_
  refine zz_bind ?_
  refine zz_callSr F (ρ := []) (so := fun q1 => [zi q1]) (Mo := fun q1 => []) (zfMO_in a0 (4 : Int32) (25 : Int32)) dX11_power_4 wcRX11_20 wy_yX11_in rfl ⟨rel5, rfl, rfl, Nat.le_of_ble_eq_true rfl, Nat.le_of_ble_eq_true rfl, Nat.le_of_ble_eq_true rfl⟩ rfl (fun _ => rfl) (fun _ => rfl) fun q1 => ?_
  refine zz_if_eq F (tgt := 24) dX11_power_7 (by decide) (fun h => zz_t h ?_) (fun h => zz_f h ?_)
  · refine zz_iconst F (v := (0 : Int32)) dX11_power_24 (by decide) ?_
    exact zz_ireturn F dX11_power_25 rfl (hκ _)
  · refine zz_sipush F (v := (2000 : Int32)) dX11_power_10 (by decide) ?_
    refine zz_iload_n F (i := 0) dX11_power_13 rfl rfl ?_
    refine zz_iload_n F (i := 0) dX11_power_14 rfl rfl ?_
    refine zz_imul F dX11_power_15 ?_
    refine zz_iload_n F (i := 0) dX11_power_16 rfl rfl ?_
    refine zz_imul F dX11_power_17 ?_
    refine zz_min F dX11_power_18 wmRX11_24 wMath_min (Nat.le_of_ble_eq_true rfl) (Nat.le_of_ble_eq_true rfl) ?_
    refine zz_goto F (tgt := 25) dX11_power_21 (by decide) ?_
    exact zz_ireturn F dX11_power_25 rfl (hκ _)
theorem zfMO_power (a0 : Int32)   : ∀ a, fMO_power a0 = some a → zMet yX11_power cX11_power 1 (some .int) 1 23 [] [zi a0] [] ((fun a => ((.inl ((fun q => some (zi q)) a), (fun _ => []) a) : zO)) a) := fun a ha => zMet_of (L0 := [some (zi a0)]) (φ := Option.bind (fMO_power a0) (fun a => some ((fun a => ((.inl ((fun q => some (zi q)) a), (fun _ => []) a) : zO)) a))) (by decide) (fun _ => Nat.le_of_ble_eq_true rfl) (zl0 0 rfl) (fun X F => bfMO_power F a0 (fun _ => rfl)) (by rw [ha]; rfl)

theorem dX11_along_0 : decode cX11_along 0 = .ok (.iload_n 1, 1) := by decide +kernel
theorem dX11_along_1 : decode cX11_along 1 = .ok (.ifCond .eq 7, 3) := by decide +kernel
theorem dX11_along_4 : decode cX11_along 4 = .ok (.iload_n 0, 1) := by decide +kernel
theorem dX11_along_5 : decode cX11_along 5 = .ok (.goto 9, 3) := by decide +kernel
theorem dX11_along_8 : decode cX11_along 8 = .ok (.iload_n 0, 1) := by decide +kernel
theorem dX11_along_9 : decode cX11_along 9 = .ok (.iconst 2, 1) := by decide +kernel
theorem dX11_along_10 : decode cX11_along 10 = .ok (.iadd, 1) := by decide +kernel
theorem dX11_along_11 : decode cX11_along 11 = .ok (.bipush 8, 2) := by decide +kernel
theorem dX11_along_13 : decode cX11_along 13 = .ok (.irem, 1) := by decide +kernel
theorem dX11_along_14 : decode cX11_along 14 = .ok (.istore_n 2, 1) := by decide +kernel
theorem dX11_along_15 : decode cX11_along 15 = .ok (.iload_n 2, 1) := by decide +kernel
theorem dX11_along_16 : decode cX11_along 16 = .ok (.iconst 4, 1) := by decide +kernel
theorem dX11_along_17 : decode cX11_along 17 = .ok (.irem, 1) := by decide +kernel
theorem dX11_along_18 : decode cX11_along 18 = .ok (.ifCond .ne 7, 3) := by decide +kernel
theorem dX11_along_21 : decode cX11_along 21 = .ok (.iconst 0, 1) := by decide +kernel
theorem dX11_along_22 : decode cX11_along 22 = .ok (.goto 13, 3) := by decide +kernel
theorem dX11_along_25 : decode cX11_along 25 = .ok (.iload_n 2, 1) := by decide +kernel
theorem dX11_along_26 : decode cX11_along 26 = .ok (.iconst 4, 1) := by decide +kernel
theorem dX11_along_27 : decode cX11_along 27 = .ok (.if_icmp .ge 7, 3) := by decide +kernel
theorem dX11_along_30 : decode cX11_along 30 = .ok (.iconst (-1), 1) := by decide +kernel
theorem dX11_along_31 : decode cX11_along 31 = .ok (.goto 4, 3) := by decide +kernel
theorem dX11_along_34 : decode cX11_along 34 = .ok (.iconst 1, 1) := by decide +kernel
theorem dX11_along_35 : decode cX11_along 35 = .ok (.ireturn, 1) := by decide +kernel
def fMO_along (a0 : Int32) (a1 : Int32)  : Option (Int32) :=
  Option.bind (if a1 = 0 then
  some ((a0 + (2 : Int32)) % (8 : Int32))
else
  some a0) fun q1 =>
  if (q1 % (4 : Int32)) = 0 then
  some (0 : Int32)
else
  if (4 : Int32) ≤ q1 then
    some (1 : Int32)
  else
    some (-1 : Int32)
set_option maxHeartbeats 4000000 in
set_option maxRecDepth 20000 in
theorem bfMO_along {X : zX} (F : zFr X cX11_along 3 RX11 (some .int)) (a0 : Int32) (a1 : Int32)   {κ : Int32 → Option zO} (hκ : ∀ a, κ a = some ((fun a => ((.inl ((fun q => some (zi q)) a), (fun _ => []) a) : zO)) a)) : zZ X [] 0 0 3 0 [some (zi a0), some (zi a1), none] [] [] (Option.bind (fMO_along a0 a1) κ) := by
  unfold fMO_along
  refine zz_iload_n F (i := 1) dX11_along_0 rfl rfl ?_
  refine zz_join (pj := 14) (Lj := fun q1 => [none, none, none]) (Sj := fun q1 => [zi q1]) (Mj := fun q1 => []) (fun q1 => ?_) (fun κ3 hj2 => ?_)
  · refine zz_istore_n F (i := 2) (L' := [none, none, some (zi q1)]) dX11_along_14 rfl (by decide) rfl rfl ?_
    refine zz_iload_n F (i := 2) dX11_along_15 rfl rfl ?_
    refine zz_iconst F (v := (4 : Int32)) dX11_along_16 (by decide) ?_
    refine zz_irem F dX11_along_17 (by decide) ?_
    refine zz_if_ne F (tgt := 25) dX11_along_18 (by decide) (fun h => zz_f h ?_) (fun h => zz_t h ?_)
    · refine zz_iload_n F (i := 2) dX11_along_25 rfl rfl ?_
      refine zz_iconst F (v := (4 : Int32)) dX11_along_26 (by decide) ?_
      refine zz_icmp_ge F (tgt := 34) dX11_along_27 (by decide) (fun h => zz_t h ?_) (fun h => zz_f h ?_)
      · refine zz_iconst F (v := (1 : Int32)) dX11_along_34 (by decide) ?_
        exact zz_ireturn F dX11_along_35 rfl (hκ _)
      · refine zz_iconst F (v := (-1 : Int32)) dX11_along_30 (by decide) ?_
        refine zz_goto F (tgt := 35) dX11_along_31 (by decide) ?_
        exact zz_ireturn F dX11_along_35 rfl (hκ _)
    · refine zz_iconst F (v := (0 : Int32)) dX11_along_21 (by decide) ?_
      refine zz_goto F (tgt := 35) dX11_along_22 (by decide) ?_
      exact zz_ireturn F dX11_along_35 rfl (hκ _)
  · refine zz_if_eq F (tgt := 8) dX11_along_1 (by decide) (fun h => zz_t h ?_) (fun h => zz_f h ?_)
    · refine zz_iload_n F (i := 0) dX11_along_8 rfl rfl ?_
      refine zz_iconst F (v := (2 : Int32)) dX11_along_9 (by decide) ?_
      refine zz_iadd F dX11_along_10 ?_
      refine zz_bipush F (v := (8 : Int32)) dX11_along_11 (by decide) ?_
      refine zz_irem F dX11_along_13 (by decide) ?_
      exact zz_sub (zs_n (zs_n (zs_k zs_z))) (hj2 ((a0 + (2 : Int32)) % (8 : Int32)))
    · refine zz_iload_n F (i := 0) dX11_along_4 rfl rfl ?_
      refine zz_goto F (tgt := 14) dX11_along_5 (by decide) ?_
      exact zz_sub (zs_n (zs_n (zs_k zs_z))) (hj2 a0)
theorem zfMO_along (a0 : Int32) (a1 : Int32)   : ∀ a, fMO_along a0 a1 = some a → zMet yX11_along cX11_along 3 (some .int) 0 0 [] [zi a0, zi a1] [] ((fun a => ((.inl ((fun q => some (zi q)) a), (fun _ => []) a) : zO)) a) := fun a ha => zMet_of (L0 := [some (zi a0), some (zi a1), none]) (φ := Option.bind (fMO_along a0 a1) (fun a => some ((fun a => ((.inl ((fun q => some (zi q)) a), (fun _ => []) a) : zO)) a))) (by decide) (fun _ => Nat.le_of_ble_eq_true rfl) (zl0 1 rfl) (fun X F => bfMO_along F a0 a1 (fun _ => rfl)) (by rw [ha]; rfl)

theorem dX11_isTurbine_0 : decode cX11_isTurbine 0 = .ok (.iload_n 1, 1) := by decide +kernel
theorem dX11_isTurbine_1 : decode cX11_isTurbine 1 = .ok (.iconst 0, 1) := by decide +kernel
theorem dX11_isTurbine_2 : decode cX11_isTurbine 2 = .ok (.aload_n 0, 1) := by decide +kernel
theorem dX11_isTurbine_3 : decode cX11_isTurbine 3 = .ok (.getfield 10, 3) := by decide +kernel
theorem dX11_isTurbine_6 : decode cX11_isTurbine 6 = .ok (.getfield 30, 3) := by decide +kernel
theorem dX11_isTurbine_9 : decode cX11_isTurbine 9 = .ok (.iconst 1, 1) := by decide +kernel
theorem dX11_isTurbine_10 : decode cX11_isTurbine 10 = .ok (.isub, 1) := by decide +kernel
theorem dX11_isTurbine_11 : decode cX11_isTurbine 11 = .ok (.invokestatic 20, 3) := by decide +kernel
theorem dX11_isTurbine_14 : decode cX11_isTurbine 14 = .ok (.ireturn, 1) := by decide +kernel
theorem wfRX11_10 : zFl RX11 10 10 1 := ⟨_, rfl, by decide, zm_f 1061 (by decide +kernel) rfl⟩
theorem wfRX11_30 : zFl RX11 30 9 7 := ⟨_, rfl, by decide, zm_f 982 (by decide +kernel) rfl⟩
theorem rel14 : zRel [] [(4, [1]), (3, [])] [] := by unfold zRel; decide
def fMO_isTurbine (a1 : Int32) (s0 : zM) (s1 : zM) : Option (Int32) :=
  Option.bind (fMO_in a1 (0 : Int32) ((s1 0 0 7) - (1 : Int32))) fun q1 =>
  some (q1 &&& 1)
set_option maxHeartbeats 4000000 in
set_option maxRecDepth 20000 in
theorem bfMO_isTurbine {X : zX} (F : zFr X cX11_isTurbine 2 RX11 (some .boolean)) (a1 : Int32)  (s0 : zM) (s1 : zM) {κ : Int32 → Option zO} (hκ : ∀ a, κ a = some ((fun a => ((.inl ((fun q => some (zi q)) a), (fun _ => [s0, s1]) a) : zO)) a)) : zZ X [(4, [1]), (3, [])] 1 22 2 0 [some (zr 0 0 0), some (zi a1)] [] [s0, s1] (Option.bind (fMO_isTurbine a1 s0 s1) κ) := by
  unfold fMO_isTurbine
  refine zz_iload_n F (i := 1) dX11_isTurbine_0 rfl rfl ?_
  refine zz_iconst F (v := (0 : Int32)) dX11_isTurbine_1 (by decide) ?_
  refine zz_aload_n F (i := 0) dX11_isTurbine_2 rfl rfl ?_
  refine zz_getr F dX11_isTurbine_3 wfRX11_10 zCl_10 rfl (⟨zlb rfl, zlb rfl, zlb rfl⟩) rfl (by decide) rfl (r' := 1) (by decide) ?_
  refine zz_getf F dX11_isTurbine_6 wfRX11_30 zCl_9 rfl (⟨zlb rfl, zlb rfl, zlb rfl⟩) rfl (by decide) rfl rfl ?_
  refine zz_iconst F (v := (1 : Int32)) dX11_isTurbine_9 (by decide) ?_
  refine zz_isub F dX11_isTurbine_10 ?_
  refine zz_bind ?_
  refine zz_callSr F (ρ := []) (so := fun q1 => [zi q1]) (Mo := fun q1 => [s0, s1]) (zfMO_in a1 (0 : Int32) ((s1 0 0 7) - (1 : Int32))) dX11_isTurbine_11 wcRX11_20 wy_yX11_in rfl ⟨rel14, rfl, rfl, Nat.le_of_ble_eq_true rfl, Nat.le_of_ble_eq_true rfl, Nat.le_of_ble_eq_true rfl⟩ rfl (fun _ => rfl) (fun _ => rfl) fun q1 => ?_
  exact zz_zret F dX11_isTurbine_14 rfl (hκ _)
theorem zfMO_isTurbine (a1 : Int32)  (s0 : zM) (s1 : zM) : ∀ a, fMO_isTurbine a1 s0 s1 = some a → zMet yX11_isTurbine cX11_isTurbine 2 (some .boolean) 1 22 [(4, [1]), (3, [])] [zr 0 0 0, zi a1] [s0, s1] ((fun a => ((.inl ((fun q => some (zi q)) a), (fun _ => [s0, s1]) a) : zO)) a) := fun a ha => zMet_of (L0 := [some (zr 0 0 0), some (zi a1)]) (φ := Option.bind (fMO_isTurbine a1 s0 s1) (fun a => some ((fun a => ((.inl ((fun q => some (zi q)) a), (fun _ => [s0, s1]) a) : zO)) a))) (by decide) (fun _ => Nat.le_of_ble_eq_true rfl) (zl0 0 rfl) (fun X F => bfMO_isTurbine F a1 s0 s1 (fun _ => rfl)) (by rw [ha]; rfl)

theorem dX11_isVessel_0 : decode cX11_isVessel 0 = .ok (.iload_n 1, 1) := by decide +kernel
theorem dX11_isVessel_1 : decode cX11_isVessel 1 = .ok (.iconst 0, 1) := by decide +kernel
theorem dX11_isVessel_2 : decode cX11_isVessel 2 = .ok (.aload_n 0, 1) := by decide +kernel
theorem dX11_isVessel_3 : decode cX11_isVessel 3 = .ok (.getfield 10, 3) := by decide +kernel
theorem dX11_isVessel_6 : decode cX11_isVessel 6 = .ok (.getfield 33, 3) := by decide +kernel
theorem dX11_isVessel_9 : decode cX11_isVessel 9 = .ok (.iconst 1, 1) := by decide +kernel
theorem dX11_isVessel_10 : decode cX11_isVessel 10 = .ok (.isub, 1) := by decide +kernel
theorem dX11_isVessel_11 : decode cX11_isVessel 11 = .ok (.invokestatic 20, 3) := by decide +kernel
theorem dX11_isVessel_14 : decode cX11_isVessel 14 = .ok (.ireturn, 1) := by decide +kernel
theorem wfRX11_33 : zFl RX11 33 9 9 := ⟨_, rfl, by decide, zm_f 986 (by decide +kernel) rfl⟩
def fMO_isVessel (a1 : Int32) (s0 : zM) (s1 : zM) : Option (Int32) :=
  Option.bind (fMO_in a1 (0 : Int32) ((s1 0 0 9) - (1 : Int32))) fun q1 =>
  some (q1 &&& 1)
set_option maxHeartbeats 4000000 in
set_option maxRecDepth 20000 in
theorem bfMO_isVessel {X : zX} (F : zFr X cX11_isVessel 2 RX11 (some .boolean)) (a1 : Int32)  (s0 : zM) (s1 : zM) {κ : Int32 → Option zO} (hκ : ∀ a, κ a = some ((fun a => ((.inl ((fun q => some (zi q)) a), (fun _ => [s0, s1]) a) : zO)) a)) : zZ X [(4, [1]), (3, [])] 1 22 2 0 [some (zr 0 0 0), some (zi a1)] [] [s0, s1] (Option.bind (fMO_isVessel a1 s0 s1) κ) := by
  unfold fMO_isVessel
  refine zz_iload_n F (i := 1) dX11_isVessel_0 rfl rfl ?_
  refine zz_iconst F (v := (0 : Int32)) dX11_isVessel_1 (by decide) ?_
  refine zz_aload_n F (i := 0) dX11_isVessel_2 rfl rfl ?_
  refine zz_getr F dX11_isVessel_3 wfRX11_10 zCl_10 rfl (⟨zlb rfl, zlb rfl, zlb rfl⟩) rfl (by decide) rfl (r' := 1) (by decide) ?_
  refine zz_getf F dX11_isVessel_6 wfRX11_33 zCl_9 rfl (⟨zlb rfl, zlb rfl, zlb rfl⟩) rfl (by decide) rfl rfl ?_
  refine zz_iconst F (v := (1 : Int32)) dX11_isVessel_9 (by decide) ?_
  refine zz_isub F dX11_isVessel_10 ?_
  refine zz_bind ?_
  refine zz_callSr F (ρ := []) (so := fun q1 => [zi q1]) (Mo := fun q1 => [s0, s1]) (zfMO_in a1 (0 : Int32) ((s1 0 0 9) - (1 : Int32))) dX11_isVessel_11 wcRX11_20 wy_yX11_in rfl ⟨rel14, rfl, rfl, Nat.le_of_ble_eq_true rfl, Nat.le_of_ble_eq_true rfl, Nat.le_of_ble_eq_true rfl⟩ rfl (fun _ => rfl) (fun _ => rfl) fun q1 => ?_
  exact zz_zret F dX11_isVessel_14 rfl (hκ _)
theorem zfMO_isVessel (a1 : Int32)  (s0 : zM) (s1 : zM) : ∀ a, fMO_isVessel a1 s0 s1 = some a → zMet yX11_isVessel cX11_isVessel 2 (some .boolean) 1 22 [(4, [1]), (3, [])] [zr 0 0 0, zi a1] [s0, s1] ((fun a => ((.inl ((fun q => some (zi q)) a), (fun _ => [s0, s1]) a) : zO)) a) := fun a ha => zMet_of (L0 := [some (zr 0 0 0), some (zi a1)]) (φ := Option.bind (fMO_isVessel a1 s0 s1) (fun a => some ((fun a => ((.inl ((fun q => some (zi q)) a), (fun _ => [s0, s1]) a) : zO)) a))) (by decide) (fun _ => Nat.le_of_ble_eq_true rfl) (zl0 0 rfl) (fun X F => bfMO_isVessel F a1 s0 s1 (fun _ => rfl)) (by rw [ha]; rfl)

theorem dX11_isTaken_0 : decode cX11_isTaken 0 = .ok (.iconst 0, 1) := by decide +kernel
theorem dX11_isTaken_1 : decode cX11_isTaken 1 = .ok (.istore_n 3, 1) := by decide +kernel
theorem dX11_isTaken_2 : decode cX11_isTaken 2 = .ok (.iload_n 3, 1) := by decide +kernel
theorem dX11_isTaken_3 : decode cX11_isTaken 3 = .ok (.aload_n 0, 1) := by decide +kernel
theorem dX11_isTaken_4 : decode cX11_isTaken 4 = .ok (.getfield 10, 3) := by decide +kernel
theorem dX11_isTaken_7 : decode cX11_isTaken 7 = .ok (.getfield 30, 3) := by decide +kernel
theorem dX11_isTaken_10 : decode cX11_isTaken 10 = .ok (.if_icmp .ge 41, 3) := by decide +kernel
theorem dX11_isTaken_13 : decode cX11_isTaken 13 = .ok (.aload_n 0, 1) := by decide +kernel
theorem dX11_isTaken_14 : decode cX11_isTaken 14 = .ok (.getfield 10, 3) := by decide +kernel
theorem dX11_isTaken_17 : decode cX11_isTaken 17 = .ok (.getfield 36, 3) := by decide +kernel
theorem dX11_isTaken_20 : decode cX11_isTaken 20 = .ok (.iload_n 3, 1) := by decide +kernel
theorem dX11_isTaken_21 : decode cX11_isTaken 21 = .ok (.aaload, 1) := by decide +kernel
theorem dX11_isTaken_22 : decode cX11_isTaken 22 = .ok (.iconst 0, 1) := by decide +kernel
theorem dX11_isTaken_23 : decode cX11_isTaken 23 = .ok (.iaload, 1) := by decide +kernel
theorem dX11_isTaken_24 : decode cX11_isTaken 24 = .ok (.iload_n 1, 1) := by decide +kernel
theorem dX11_isTaken_25 : decode cX11_isTaken 25 = .ok (.if_icmp .ne 20, 3) := by decide +kernel
theorem dX11_isTaken_28 : decode cX11_isTaken 28 = .ok (.aload_n 0, 1) := by decide +kernel
theorem dX11_isTaken_29 : decode cX11_isTaken 29 = .ok (.getfield 10, 3) := by decide +kernel
theorem dX11_isTaken_32 : decode cX11_isTaken 32 = .ok (.getfield 36, 3) := by decide +kernel
theorem dX11_isTaken_35 : decode cX11_isTaken 35 = .ok (.iload_n 3, 1) := by decide +kernel
theorem dX11_isTaken_36 : decode cX11_isTaken 36 = .ok (.aaload, 1) := by decide +kernel
theorem dX11_isTaken_37 : decode cX11_isTaken 37 = .ok (.iconst 1, 1) := by decide +kernel
theorem dX11_isTaken_38 : decode cX11_isTaken 38 = .ok (.iaload, 1) := by decide +kernel
theorem dX11_isTaken_39 : decode cX11_isTaken 39 = .ok (.iload_n 2, 1) := by decide +kernel
theorem dX11_isTaken_40 : decode cX11_isTaken 40 = .ok (.if_icmp .ne 5, 3) := by decide +kernel
theorem dX11_isTaken_43 : decode cX11_isTaken 43 = .ok (.iconst 1, 1) := by decide +kernel
theorem dX11_isTaken_44 : decode cX11_isTaken 44 = .ok (.ireturn, 1) := by decide +kernel
theorem dX11_isTaken_45 : decode cX11_isTaken 45 = .ok (.iinc 3 1, 3) := by decide +kernel
theorem dX11_isTaken_48 : decode cX11_isTaken 48 = .ok (.goto (-46), 3) := by decide +kernel
theorem dX11_isTaken_51 : decode cX11_isTaken 51 = .ok (.iconst 0, 1) := by decide +kernel
theorem dX11_isTaken_52 : decode cX11_isTaken 52 = .ok (.ireturn, 1) := by decide +kernel
theorem wfRX11_36 : zFl RX11 36 9 0 := ⟨_, rfl, by decide, zm_f 969 (by decide +kernel) rfl⟩
def fMO_isTaken_l2 (a1 : Int32) (a2 : Int32) (s1 : zM) (q1 : Int32) : Option ((Int32) ⊕ ((Unit) ⊕ (Int32))) :=
  if (s1 0 0 7) ≤ q1 then
  some (.inr (.inl ()))
else
  zix q1 8 fun j3 =>
    zix (0 : Int32) 23 fun j4 =>
    if (s1 8 j3 j4) = a1 then
    zix q1 8 fun j6 =>
      zix (1 : Int32) 23 fun j7 =>
      if (s1 8 j6 j7) = a2 then
      some (.inr (.inr (1 : Int32)))
    else
      zlet (q1 + 1) fun v8 =>
        some (.inl v8)
  else
    zlet (q1 + 1) fun v5 =>
      some (.inl v5)
def fMO_isTaken (a1 : Int32) (a2 : Int32) (s0 : zM) (s1 : zM) : Option (Int32) :=
  Option.bind (ziter (fMO_isTaken_l2 a1 a2 s1) 1000 (0 : Int32)) (Sum.elim (fun _ =>
  some (0 : Int32)) (fun r => some r))
set_option maxHeartbeats 4000000 in
set_option maxRecDepth 20000 in
theorem bfMO_isTaken_l2 {X : zX} (F : zFr X cX11_isTaken 4 RX11 (some .boolean)) (a1 : Int32) (a2 : Int32) (s1 : zM) (s0 : zM)  {ψ : (Int32) ⊕ ((Unit) ⊕ (Int32)) → Option zO} (h1 : ∀ q1 : Int32, zZ X [(4, [1]), (3, [])] 0 0 4 2 [some (zr 0 0 0), some (zi a1), some (zi a2), some (zi q1)] [] [s0, s1] (ψ (.inl q1))) (h2 : ∀ q2 : Unit, zZ X [(4, [1]), (3, [])] 0 0 4 51 [none, none, none, none] [] [s0, s1] (ψ (.inr (.inl q2)))) (h3 : ∀ r, ψ (.inr (.inr r)) = some ((fun a => ((.inl ((fun q => some (zi q)) a), (fun _ => [s0, s1]) a) : zO)) r)) (q1 : Int32) : zZ X [(4, [1]), (3, [])] 0 0 4 2 [some (zr 0 0 0), some (zi a1), some (zi a2), some (zi q1)] [] [s0, s1] (Option.bind (fMO_isTaken_l2 a1 a2 s1 q1) ψ) := by
  unfold fMO_isTaken_l2
  refine zz_iload_n F (i := 3) dX11_isTaken_2 rfl rfl ?_
  refine zz_aload_n F (i := 0) dX11_isTaken_3 rfl rfl ?_
  refine zz_getr F dX11_isTaken_4 wfRX11_10 zCl_10 rfl (⟨zlb rfl, zlb rfl, zlb rfl⟩) rfl (by decide) rfl (r' := 1) (by decide) ?_
  refine zz_getf F dX11_isTaken_7 wfRX11_30 zCl_9 rfl (⟨zlb rfl, zlb rfl, zlb rfl⟩) rfl (by decide) rfl rfl ?_
  refine zz_icmp_ge F (tgt := 51) dX11_isTaken_10 (by decide) (fun h => zz_t h ?_) (fun h => zz_f h ?_)
  · exact zz_sub (zs_n (zs_n (zs_n (zs_n zs_z)))) (h2 ())
  · refine zz_aload_n F (i := 0) dX11_isTaken_13 rfl rfl ?_
    refine zz_getr F dX11_isTaken_14 wfRX11_10 zCl_10 rfl (⟨zlb rfl, zlb rfl, zlb rfl⟩) rfl (by decide) rfl (r' := 1) (by decide) ?_
    refine zz_getr F dX11_isTaken_17 wfRX11_36 zCl_9 rfl (⟨zlb rfl, zlb rfl, zlb rfl⟩) rfl (by decide) rfl (r' := 1) (by decide) ?_
    refine zz_iload_n F (i := 3) dX11_isTaken_20 rfl rfl ?_
    refine zz_ix fun j3 hj3 hinj3 hej3 => zz_aal F dX11_isTaken_21 rfl (⟨zlb rfl, zlb rfl, zlb rfl⟩) rfl (by decide) rfl hinj3 hej3 rfl ?_
    refine zz_iconst F (v := (0 : Int32)) dX11_isTaken_22 (by decide) ?_
    refine zz_ix fun j4 hj4 hinj4 hej4 => zz_ial F dX11_isTaken_23 rfl (⟨zlb rfl, zlb rfl, hj3⟩) rfl hinj4 hej4 ?_
    refine zz_iload_n F (i := 1) dX11_isTaken_24 rfl rfl ?_
    refine zz_icmp_ne F (tgt := 45) dX11_isTaken_25 (by decide) (fun h => zz_f h ?_) (fun h => zz_t h ?_)
    · refine zz_iinc F (i := 3) (v := q1 + 1) (L' := [some (zr 0 0 0), some (zi a1), some (zi a2), some (zi (q1 + 1))]) dX11_isTaken_45 rfl (by first | rfl | decide) (by decide) rfl rfl ?_
      refine zz_letl (Lf := fun v5 => [some (zr 0 0 0), some (zi a1), some (zi a2), some (zi v5)]) fun v5 => ?_
      refine zz_goto F (tgt := 2) dX11_isTaken_48 (by decide) ?_
      exact zz_sub (zs_k (zs_k (zs_k (zs_k zs_z)))) (h1 v5)
    · refine zz_aload_n F (i := 0) dX11_isTaken_28 rfl rfl ?_
      refine zz_getr F dX11_isTaken_29 wfRX11_10 zCl_10 rfl (⟨zlb rfl, zlb rfl, zlb rfl⟩) rfl (by decide) rfl (r' := 1) (by decide) ?_
      refine zz_getr F dX11_isTaken_32 wfRX11_36 zCl_9 rfl (⟨zlb rfl, zlb rfl, zlb rfl⟩) rfl (by decide) rfl (r' := 1) (by decide) ?_
      refine zz_iload_n F (i := 3) dX11_isTaken_35 rfl rfl ?_
      refine zz_ix fun j6 hj6 hinj6 hej6 => zz_aal F dX11_isTaken_36 rfl (⟨zlb rfl, zlb rfl, zlb rfl⟩) rfl (by decide) rfl hinj6 hej6 rfl ?_
      refine zz_iconst F (v := (1 : Int32)) dX11_isTaken_37 (by decide) ?_
      refine zz_ix fun j7 hj7 hinj7 hej7 => zz_ial F dX11_isTaken_38 rfl (⟨zlb rfl, zlb rfl, hj6⟩) rfl hinj7 hej7 ?_
      refine zz_iload_n F (i := 2) dX11_isTaken_39 rfl rfl ?_
      refine zz_icmp_ne F (tgt := 45) dX11_isTaken_40 (by decide) (fun h => zz_f h ?_) (fun h => zz_t h ?_)
      · refine zz_iinc F (i := 3) (v := q1 + 1) (L' := [some (zr 0 0 0), some (zi a1), some (zi a2), some (zi (q1 + 1))]) dX11_isTaken_45 rfl (by first | rfl | decide) (by decide) rfl rfl ?_
        refine zz_letl (Lf := fun v8 => [some (zr 0 0 0), some (zi a1), some (zi a2), some (zi v8)]) fun v8 => ?_
        refine zz_goto F (tgt := 2) dX11_isTaken_48 (by decide) ?_
        exact zz_sub (zs_k (zs_k (zs_k (zs_k zs_z)))) (h1 v8)
      · refine zz_iconst F (v := (1 : Int32)) dX11_isTaken_43 (by decide) ?_
        exact zz_zreturn F dX11_isTaken_44 rfl rfl (h3 _)
set_option maxHeartbeats 4000000 in
set_option maxRecDepth 20000 in
theorem bfMO_isTaken {X : zX} (F : zFr X cX11_isTaken 4 RX11 (some .boolean)) (a1 : Int32) (a2 : Int32)  (s0 : zM) (s1 : zM) {κ : Int32 → Option zO} (hκ : ∀ a, κ a = some ((fun a => ((.inl ((fun q => some (zi q)) a), (fun _ => [s0, s1]) a) : zO)) a)) : zZ X [(4, [1]), (3, [])] 0 0 4 0 [some (zr 0 0 0), some (zi a1), some (zi a2), none] [] [s0, s1] (Option.bind (fMO_isTaken a1 a2 s0 s1) κ) := by
  unfold fMO_isTaken
  refine zz_iconst F (v := (0 : Int32)) dX11_isTaken_0 (by decide) ?_
  refine zz_istore_n F (i := 3) (L' := [some (zr 0 0 0), some (zi a1), some (zi a2), some (zi (0 : Int32))]) dX11_isTaken_1 rfl (by decide) rfl rfl ?_
  refine zz_sub (zs_k (zs_k (zs_k (zs_k zs_z)))) ?_
  refine zz_bind ?_
  refine zz_iter (Lf := fun q1 => [some (zr 0 0 0), some (zi a1), some (zi a2), some (zi q1)]) (Mf := fun q1 => [s0, s1]) (fun q1 _ e9 e10 => bfMO_isTaken_l2 F a1 a2 s1 s0  e9 (fun q2 => ?_) (fun r => ?_) q1) 1000 (0 : Int32)
  · rw [e10]
    dsimp only [Sum.elim_inl]
    refine zz_iconst F (v := (0 : Int32)) dX11_isTaken_51 (by decide) ?_
    exact zz_zreturn F dX11_isTaken_52 rfl rfl (hκ _)
  · exact (e10 _).trans (hκ _)
theorem zfMO_isTaken (a1 : Int32) (a2 : Int32)  (s0 : zM) (s1 : zM) : ∀ a, fMO_isTaken a1 a2 s0 s1 = some a → zMet yX11_isTaken cX11_isTaken 4 (some .boolean) 0 0 [(4, [1]), (3, [])] [zr 0 0 0, zi a1, zi a2] [s0, s1] ((fun a => ((.inl ((fun q => some (zi q)) a), (fun _ => [s0, s1]) a) : zO)) a) := fun a ha => zMet_of (L0 := [some (zr 0 0 0), some (zi a1), some (zi a2), none]) (φ := Option.bind (fMO_isTaken a1 a2 s0 s1) (fun a => some ((fun a => ((.inl ((fun q => some (zi q)) a), (fun _ => [s0, s1]) a) : zO)) a))) (by decide) (fun _ => Nat.le_of_ble_eq_true rfl) (zl0 1 rfl) (fun X F => bfMO_isTaken F a1 a2 s0 s1 (fun _ => rfl)) (by rw [ha]; rfl)

theorem dX11_string_0 : decode cX11_string 0 = .ok (.aload_n 0, 1) := by decide +kernel
theorem dX11_string_1 : decode cX11_string 1 = .ok (.iconst 0, 1) := by decide +kernel
theorem dX11_string_2 : decode cX11_string 2 = .ok (.putfield 16, 3) := by decide +kernel
theorem dX11_string_5 : decode cX11_string 5 = .ok (.iload_n 1, 1) := by decide +kernel
theorem dX11_string_6 : decode cX11_string 6 = .ok (.bipush 100, 2) := by decide +kernel
theorem dX11_string_8 : decode cX11_string 8 = .ok (.sipush 9999, 3) := by decide +kernel
theorem dX11_string_11 : decode cX11_string 11 = .ok (.invokestatic 20, 3) := by decide +kernel
theorem dX11_string_14 : decode cX11_string 14 = .ok (.ifCond .ne 9, 3) := by decide +kernel
theorem dX11_string_17 : decode cX11_string 17 = .ok (.aload_n 0, 1) := by decide +kernel
theorem dX11_string_18 : decode cX11_string 18 = .ok (.iconst 1, 1) := by decide +kernel
theorem dX11_string_19 : decode cX11_string 19 = .ok (.invokevirtual 40, 3) := by decide +kernel
theorem dX11_string_22 : decode cX11_string 22 = .ok (.ireturn, 1) := by decide +kernel
theorem dX11_string_23 : decode cX11_string 23 = .ok (.aload_n 0, 1) := by decide +kernel
theorem dX11_string_24 : decode cX11_string 24 = .ok (.getfield 10, 3) := by decide +kernel
theorem dX11_string_27 : decode cX11_string 27 = .ok (.getfield 44, 3) := by decide +kernel
theorem dX11_string_30 : decode cX11_string 30 = .ok (.iconst 3, 1) := by decide +kernel
theorem dX11_string_31 : decode cX11_string 31 = .ok (.if_icmp .ne 9, 3) := by decide +kernel
theorem dX11_string_34 : decode cX11_string 34 = .ok (.aload_n 0, 1) := by decide +kernel
theorem dX11_string_35 : decode cX11_string 35 = .ok (.iconst 2, 1) := by decide +kernel
theorem dX11_string_36 : decode cX11_string 36 = .ok (.invokevirtual 40, 3) := by decide +kernel
theorem dX11_string_39 : decode cX11_string 39 = .ok (.ireturn, 1) := by decide +kernel
theorem dX11_string_40 : decode cX11_string 40 = .ok (.aload_n 0, 1) := by decide +kernel
theorem dX11_string_41 : decode cX11_string 41 = .ok (.getfield 10, 3) := by decide +kernel
theorem dX11_string_44 : decode cX11_string 44 = .ok (.getfield 47, 3) := by decide +kernel
theorem dX11_string_47 : decode cX11_string 47 = .ok (.aload_n 0, 1) := by decide +kernel
theorem dX11_string_48 : decode cX11_string 48 = .ok (.getfield 10, 3) := by decide +kernel
theorem dX11_string_51 : decode cX11_string 51 = .ok (.getfield 44, 3) := by decide +kernel
theorem dX11_string_54 : decode cX11_string 54 = .ok (.aaload, 1) := by decide +kernel
theorem dX11_string_55 : decode cX11_string 55 = .ok (.iconst 0, 1) := by decide +kernel
theorem dX11_string_56 : decode cX11_string 56 = .ok (.iload_n 1, 1) := by decide +kernel
theorem dX11_string_57 : decode cX11_string 57 = .ok (.iastore, 1) := by decide +kernel
theorem dX11_string_58 : decode cX11_string 58 = .ok (.aload_n 0, 1) := by decide +kernel
theorem dX11_string_59 : decode cX11_string 59 = .ok (.getfield 10, 3) := by decide +kernel
theorem dX11_string_62 : decode cX11_string 62 = .ok (.dup, 1) := by decide +kernel
theorem dX11_string_63 : decode cX11_string 63 = .ok (.getfield 44, 3) := by decide +kernel
theorem dX11_string_66 : decode cX11_string 66 = .ok (.dup_x1, 1) := by decide +kernel
theorem dX11_string_67 : decode cX11_string 67 = .ok (.iconst 1, 1) := by decide +kernel
theorem dX11_string_68 : decode cX11_string 68 = .ok (.iadd, 1) := by decide +kernel
theorem dX11_string_69 : decode cX11_string 69 = .ok (.putfield 44, 3) := by decide +kernel
theorem dX11_string_72 : decode cX11_string 72 = .ok (.ireturn, 1) := by decide +kernel
theorem wfRX11_44 : zFl RX11 44 9 8 := ⟨_, rfl, by decide, zm_f 984 (by decide +kernel) rfl⟩
theorem wfRX11_47 : zFl RX11 47 9 2 := ⟨_, rfl, by decide, zm_f 973 (by decide +kernel) rfl⟩
theorem wpRX11_44 : zFw RX11 44 9 8 .int := ⟨_, rfl, by decide, zm_f 984 (by decide +kernel) rfl, rfl, by decide +kernel⟩
theorem wcRX11_40 : Cond.methodLink RX11 40 yX11_no ∈ zTg ∧ Cond.instanceMethod yX11_no ∈ zTg ∧ Cond.selects RX11 yX11_no yX11_no ∈ zTg ∧ Cond.initialized RX11 ∈ zTg ∧ Cond.code yX11_no cX11_no 2 (some .int) ∈ zTg := ⟨zm_f 1078 (by decide +kernel) rfl, zm_f 1080 (by decide +kernel) rfl, zm_f 19 (by decide +kernel) rfl, zm_f 46 (by decide +kernel) rfl, zm_f 1081 (by decide +kernel) rfl⟩
theorem wy_yX11_no : yX11_no.cls = RX11 ∧ yX11_no.cls ≠ "java/lang/invoke/MethodHandle" ∧ yX11_no.cls ≠ "java/lang/invoke/VarHandle" ∧ (parseMethodDescriptor yX11_no.desc).map (fun d => d.parameters.length) = some 1 := by decide +kernel
theorem rel15 : zRel [0, 1] [(4, [1]), (3, [])] [(4, [1]), (3, [])] := by unfold zRel; decide
def fMO_string (a1 : Int32) (s0 : zM) (s1 : zM) : Option (Int32 × zM × zM) :=
  zlet (zu s0 0 0 0 (0 : Int32)) fun s0_1 =>
  Option.bind (fMO_in a1 (100 : Int32) (9999 : Int32)) fun q2 =>
  if q2 = 0 then
  Option.bind (fMO_no (1 : Int32) s0_1 s1) fun q8 =>
    some (q8.1, q8.2, s1)
else
  if (s1 0 0 8) = (3 : Int32) then
    Option.bind (fMO_no (2 : Int32) s0_1 s1) fun q7 =>
      some (q7.1, q7.2, s1)
  else
    zix (s1 0 0 8) 3 fun j3 =>
      zix (0 : Int32) 3 fun j4 =>
      zlet (zu s1 10 j3 j4 a1) fun s1_5 =>
      zlet (zu s1_5 0 0 8 ((s1_5 0 0 8) + (1 : Int32))) fun s1_6 =>
      some ((s1_5 0 0 8), s0_1, s1_6)
set_option maxHeartbeats 4000000 in
set_option maxRecDepth 20000 in
theorem bfMO_string {X : zX} (F : zFr X cX11_string 2 RX11 (some .int)) (a1 : Int32)  (s0 : zM) (s1 : zM) {κ : Int32 × zM × zM → Option zO} (hκ : ∀ a, κ a = some ((fun a => ((.inl ((fun q => some (zi q.1)) a), (fun q => [q.2.1, q.2.2]) a) : zO)) a)) : zZ X [(4, [1]), (3, [])] 1 22 2 0 [some (zr 0 0 0), some (zi a1)] [] [s0, s1] (Option.bind (fMO_string a1 s0 s1) κ) := by
  unfold fMO_string
  refine zz_aload_n F (i := 0) dX11_string_0 rfl rfl ?_
  refine zz_iconst F (v := (0 : Int32)) dX11_string_1 (by decide) ?_
  refine zz_put F (Ms' := [(zu s0 0 0 0 (0 : Int32)), s1]) dX11_string_2 wpRX11_16 zCl_10 rfl (⟨zlb rfl, zlb rfl, zlb rfl⟩) rfl (by decide) rfl rfl rfl ?_
  refine zz_letm (Mf := fun s0_1 => [s0_1, s1]) fun s0_1 => ?_
  refine zz_iload_n F (i := 1) dX11_string_5 rfl rfl ?_
  refine zz_bipush F (v := (100 : Int32)) dX11_string_6 (by decide) ?_
  refine zz_sipush F (v := (9999 : Int32)) dX11_string_8 (by decide) ?_
  refine zz_bind ?_
  refine zz_callSr F (ρ := []) (so := fun q2 => [zi q2]) (Mo := fun q2 => [s0_1, s1]) (zfMO_in a1 (100 : Int32) (9999 : Int32)) dX11_string_11 wcRX11_20 wy_yX11_in rfl ⟨rel14, rfl, rfl, Nat.le_of_ble_eq_true rfl, Nat.le_of_ble_eq_true rfl, Nat.le_of_ble_eq_true rfl⟩ rfl (fun _ => rfl) (fun _ => rfl) fun q2 => ?_
  refine zz_if_ne F (tgt := 23) dX11_string_14 (by decide) (fun h => zz_f h ?_) (fun h => zz_t h ?_)
  · refine zz_aload_n F (i := 0) dX11_string_23 rfl rfl ?_
    refine zz_getr F dX11_string_24 wfRX11_10 zCl_10 rfl (⟨zlb rfl, zlb rfl, zlb rfl⟩) rfl (by decide) rfl (r' := 1) (by decide) ?_
    refine zz_getf F dX11_string_27 wfRX11_44 zCl_9 rfl (⟨zlb rfl, zlb rfl, zlb rfl⟩) rfl (by decide) rfl rfl ?_
    refine zz_iconst F (v := (3 : Int32)) dX11_string_30 (by decide) ?_
    refine zz_icmp_ne F (tgt := 40) dX11_string_31 (by decide) (fun h => zz_f h ?_) (fun h => zz_t h ?_)
    · refine zz_aload_n F (i := 0) dX11_string_40 rfl rfl ?_
      refine zz_getr F dX11_string_41 wfRX11_10 zCl_10 rfl (⟨zlb rfl, zlb rfl, zlb rfl⟩) rfl (by decide) rfl (r' := 1) (by decide) ?_
      refine zz_getr F dX11_string_44 wfRX11_47 zCl_9 rfl (⟨zlb rfl, zlb rfl, zlb rfl⟩) rfl (by decide) rfl (r' := 1) (by decide) ?_
      refine zz_aload_n F (i := 0) dX11_string_47 rfl rfl ?_
      refine zz_getr F dX11_string_48 wfRX11_10 zCl_10 rfl (⟨zlb rfl, zlb rfl, zlb rfl⟩) rfl (by decide) rfl (r' := 1) (by decide) ?_
      refine zz_getf F dX11_string_51 wfRX11_44 zCl_9 rfl (⟨zlb rfl, zlb rfl, zlb rfl⟩) rfl (by decide) rfl rfl ?_
      refine zz_ix fun j3 hj3 hinj3 hej3 => zz_aal F dX11_string_54 rfl (⟨zlb rfl, zlb rfl, zlb rfl⟩) rfl (by decide) rfl hinj3 hej3 rfl ?_
      refine zz_iconst F (v := (0 : Int32)) dX11_string_55 (by decide) ?_
      refine zz_iload_n F (i := 1) dX11_string_56 rfl rfl ?_
      refine zz_ix fun j4 hj4 hinj4 hej4 => zz_ias F (Ms' := [s0_1, (zu s1 10 j3 j4 a1)]) dX11_string_57 rfl (⟨zlb rfl, zlb rfl, hj3⟩) rfl hinj4 hej4 rfl ?_
      refine zz_letm (Mf := fun s1_5 => [s0_1, s1_5]) fun s1_5 => ?_
      refine zz_aload_n F (i := 0) dX11_string_58 rfl rfl ?_
      refine zz_getr F dX11_string_59 wfRX11_10 zCl_10 rfl (⟨zlb rfl, zlb rfl, zlb rfl⟩) rfl (by decide) rfl (r' := 1) (by decide) ?_
      refine zz_dup F dX11_string_62 rfl ?_
      refine zz_getf F dX11_string_63 wfRX11_44 zCl_9 rfl (⟨zlb rfl, zlb rfl, zlb rfl⟩) rfl (by decide) rfl rfl ?_
      refine zz_dup_x1 F dX11_string_66 rfl rfl ?_
      refine zz_iconst F (v := (1 : Int32)) dX11_string_67 (by decide) ?_
      refine zz_iadd F dX11_string_68 ?_
      refine zz_put F (Ms' := [s0_1, (zu s1_5 0 0 8 ((s1_5 0 0 8) + (1 : Int32)))]) dX11_string_69 wpRX11_44 zCl_9 rfl (⟨zlb rfl, zlb rfl, zlb rfl⟩) rfl (by decide) rfl rfl rfl ?_
      refine zz_letm (Mf := fun s1_6 => [s0_1, s1_6]) fun s1_6 => ?_
      exact zz_ireturn F dX11_string_72 rfl (hκ _)
    · refine zz_aload_n F (i := 0) dX11_string_34 rfl rfl ?_
      refine zz_iconst F (v := (2 : Int32)) dX11_string_35 (by decide) ?_
      refine zz_bind ?_
      refine zz_callVr F (ρ := [0, 1]) (so := fun q7 => [zi q7.1]) (Mo := fun q7 => [q7.2, s1]) (zfMO_no (2 : Int32) s0_1 s1) dX11_string_36 wcRX11_40 wy_yX11_no rfl ⟨rel15, rfl, rfl, Nat.le_of_ble_eq_true rfl, Nat.le_of_ble_eq_true rfl, Nat.le_of_ble_eq_true rfl⟩ (⟨zlb rfl, zlb rfl, zlb rfl⟩) rfl rfl rfl (fun _ => rfl) (fun _ => rfl) fun q7 => ?_
      exact zz_ireturn F dX11_string_39 rfl (hκ _)
  · refine zz_aload_n F (i := 0) dX11_string_17 rfl rfl ?_
    refine zz_iconst F (v := (1 : Int32)) dX11_string_18 (by decide) ?_
    refine zz_bind ?_
    refine zz_callVr F (ρ := [0, 1]) (so := fun q8 => [zi q8.1]) (Mo := fun q8 => [q8.2, s1]) (zfMO_no (1 : Int32) s0_1 s1) dX11_string_19 wcRX11_40 wy_yX11_no rfl ⟨rel15, rfl, rfl, Nat.le_of_ble_eq_true rfl, Nat.le_of_ble_eq_true rfl, Nat.le_of_ble_eq_true rfl⟩ (⟨zlb rfl, zlb rfl, zlb rfl⟩) rfl rfl rfl (fun _ => rfl) (fun _ => rfl) fun q8 => ?_
    exact zz_ireturn F dX11_string_22 rfl (hκ _)
theorem zfMO_string (a1 : Int32)  (s0 : zM) (s1 : zM) : ∀ a, fMO_string a1 s0 s1 = some a → zMet yX11_string cX11_string 2 (some .int) 1 22 [(4, [1]), (3, [])] [zr 0 0 0, zi a1] [s0, s1] ((fun a => ((.inl ((fun q => some (zi q.1)) a), (fun q => [q.2.1, q.2.2]) a) : zO)) a) := fun a ha => zMet_of (L0 := [some (zr 0 0 0), some (zi a1)]) (φ := Option.bind (fMO_string a1 s0 s1) (fun a => some ((fun a => ((.inl ((fun q => some (zi q.1)) a), (fun q => [q.2.1, q.2.2]) a) : zO)) a))) (by decide) (fun _ => Nat.le_of_ble_eq_true rfl) (zl0 0 rfl) (fun X F => bfMO_string F a1 s0 s1 (fun _ => rfl)) (by rw [ha]; rfl)

theorem dX11_turbine_0 : decode cX11_turbine 0 = .ok (.aload_n 0, 1) := by decide +kernel
theorem dX11_turbine_1 : decode cX11_turbine 1 = .ok (.iconst 0, 1) := by decide +kernel
theorem dX11_turbine_2 : decode cX11_turbine 2 = .ok (.putfield 16, 3) := by decide +kernel
theorem dX11_turbine_5 : decode cX11_turbine 5 = .ok (.iload_n 3, 1) := by decide +kernel
theorem dX11_turbine_6 : decode cX11_turbine 6 = .ok (.iconst 0, 1) := by decide +kernel
theorem dX11_turbine_7 : decode cX11_turbine 7 = .ok (.aload_n 0, 1) := by decide +kernel
theorem dX11_turbine_8 : decode cX11_turbine 8 = .ok (.getfield 10, 3) := by decide +kernel
theorem dX11_turbine_11 : decode cX11_turbine 11 = .ok (.getfield 44, 3) := by decide +kernel
theorem dX11_turbine_14 : decode cX11_turbine 14 = .ok (.iconst 1, 1) := by decide +kernel
theorem dX11_turbine_15 : decode cX11_turbine 15 = .ok (.isub, 1) := by decide +kernel
theorem dX11_turbine_16 : decode cX11_turbine 16 = .ok (.invokestatic 20, 3) := by decide +kernel
theorem dX11_turbine_19 : decode cX11_turbine 19 = .ok (.ifCond .ne 9, 3) := by decide +kernel
theorem dX11_turbine_22 : decode cX11_turbine 22 = .ok (.aload_n 0, 1) := by decide +kernel
theorem dX11_turbine_23 : decode cX11_turbine 23 = .ok (.iconst 1, 1) := by decide +kernel
theorem dX11_turbine_24 : decode cX11_turbine 24 = .ok (.invokevirtual 40, 3) := by decide +kernel
theorem dX11_turbine_27 : decode cX11_turbine 27 = .ok (.ireturn, 1) := by decide +kernel
theorem dX11_turbine_28 : decode cX11_turbine 28 = .ok (.iload_n 1, 1) := by decide +kernel
theorem dX11_turbine_29 : decode cX11_turbine 29 = .ok (.iconst 0, 1) := by decide +kernel
theorem dX11_turbine_30 : decode cX11_turbine 30 = .ok (.bipush 19, 2) := by decide +kernel
theorem dX11_turbine_32 : decode cX11_turbine 32 = .ok (.invokestatic 20, 3) := by decide +kernel
theorem dX11_turbine_35 : decode cX11_turbine 35 = .ok (.ifCond .eq 13, 3) := by decide +kernel
theorem dX11_turbine_38 : decode cX11_turbine 38 = .ok (.iload_n 2, 1) := by decide +kernel
theorem dX11_turbine_39 : decode cX11_turbine 39 = .ok (.iconst 0, 1) := by decide +kernel
theorem dX11_turbine_40 : decode cX11_turbine 40 = .ok (.bipush 19, 2) := by decide +kernel
theorem dX11_turbine_42 : decode cX11_turbine 42 = .ok (.invokestatic 20, 3) := by decide +kernel
theorem dX11_turbine_45 : decode cX11_turbine 45 = .ok (.ifCond .ne 9, 3) := by decide +kernel
theorem dX11_turbine_48 : decode cX11_turbine 48 = .ok (.aload_n 0, 1) := by decide +kernel
theorem dX11_turbine_49 : decode cX11_turbine 49 = .ok (.iconst 2, 1) := by decide +kernel
theorem dX11_turbine_50 : decode cX11_turbine 50 = .ok (.invokevirtual 40, 3) := by decide +kernel
theorem dX11_turbine_53 : decode cX11_turbine 53 = .ok (.ireturn, 1) := by decide +kernel
theorem dX11_turbine_54 : decode cX11_turbine 54 = .ok (.aload_n 0, 1) := by decide +kernel
theorem dX11_turbine_55 : decode cX11_turbine 55 = .ok (.getfield 10, 3) := by decide +kernel
theorem dX11_turbine_58 : decode cX11_turbine 58 = .ok (.getfield 30, 3) := by decide +kernel
theorem dX11_turbine_61 : decode cX11_turbine 61 = .ok (.bipush 8, 2) := by decide +kernel
theorem dX11_turbine_63 : decode cX11_turbine 63 = .ok (.if_icmp .eq 12, 3) := by decide +kernel
theorem dX11_turbine_66 : decode cX11_turbine 66 = .ok (.aload_n 0, 1) := by decide +kernel
theorem dX11_turbine_67 : decode cX11_turbine 67 = .ok (.iload_n 1, 1) := by decide +kernel
theorem dX11_turbine_68 : decode cX11_turbine 68 = .ok (.iload_n 2, 1) := by decide +kernel
theorem dX11_turbine_69 : decode cX11_turbine 69 = .ok (.invokevirtual 50, 3) := by decide +kernel
theorem dX11_turbine_72 : decode cX11_turbine 72 = .ok (.ifCond .eq 9, 3) := by decide +kernel
theorem dX11_turbine_75 : decode cX11_turbine 75 = .ok (.aload_n 0, 1) := by decide +kernel
theorem dX11_turbine_76 : decode cX11_turbine 76 = .ok (.iconst 3, 1) := by decide +kernel
theorem dX11_turbine_77 : decode cX11_turbine 77 = .ok (.invokevirtual 40, 3) := by decide +kernel
theorem dX11_turbine_80 : decode cX11_turbine 80 = .ok (.ireturn, 1) := by decide +kernel
theorem dX11_turbine_81 : decode cX11_turbine 81 = .ok (.aload_n 0, 1) := by decide +kernel
theorem dX11_turbine_82 : decode cX11_turbine 82 = .ok (.getfield 10, 3) := by decide +kernel
theorem dX11_turbine_85 : decode cX11_turbine 85 = .ok (.getfield 36, 3) := by decide +kernel
theorem dX11_turbine_88 : decode cX11_turbine 88 = .ok (.aload_n 0, 1) := by decide +kernel
theorem dX11_turbine_89 : decode cX11_turbine 89 = .ok (.getfield 10, 3) := by decide +kernel
theorem dX11_turbine_92 : decode cX11_turbine 92 = .ok (.getfield 30, 3) := by decide +kernel
theorem dX11_turbine_95 : decode cX11_turbine 95 = .ok (.aaload, 1) := by decide +kernel
theorem dX11_turbine_96 : decode cX11_turbine 96 = .ok (.astore 4, 2) := by decide +kernel
theorem dX11_turbine_98 : decode cX11_turbine 98 = .ok (.aload 4, 2) := by decide +kernel
theorem dX11_turbine_100 : decode cX11_turbine 100 = .ok (.iconst 0, 1) := by decide +kernel
theorem dX11_turbine_101 : decode cX11_turbine 101 = .ok (.iload_n 1, 1) := by decide +kernel
theorem dX11_turbine_102 : decode cX11_turbine 102 = .ok (.iastore, 1) := by decide +kernel
theorem dX11_turbine_103 : decode cX11_turbine 103 = .ok (.aload 4, 2) := by decide +kernel
theorem dX11_turbine_105 : decode cX11_turbine 105 = .ok (.iconst 1, 1) := by decide +kernel
theorem dX11_turbine_106 : decode cX11_turbine 106 = .ok (.iload_n 2, 1) := by decide +kernel
theorem dX11_turbine_107 : decode cX11_turbine 107 = .ok (.iastore, 1) := by decide +kernel
theorem dX11_turbine_108 : decode cX11_turbine 108 = .ok (.aload 4, 2) := by decide +kernel
theorem dX11_turbine_110 : decode cX11_turbine 110 = .ok (.iconst 2, 1) := by decide +kernel
theorem dX11_turbine_111 : decode cX11_turbine 111 = .ok (.iload_n 3, 1) := by decide +kernel
theorem dX11_turbine_112 : decode cX11_turbine 112 = .ok (.iastore, 1) := by decide +kernel
theorem dX11_turbine_113 : decode cX11_turbine 113 = .ok (.aload 4, 2) := by decide +kernel
theorem dX11_turbine_115 : decode cX11_turbine 115 = .ok (.iconst 3, 1) := by decide +kernel
theorem dX11_turbine_116 : decode cX11_turbine 116 = .ok (.iconst 2, 1) := by decide +kernel
theorem dX11_turbine_117 : decode cX11_turbine 117 = .ok (.iastore, 1) := by decide +kernel
theorem dX11_turbine_118 : decode cX11_turbine 118 = .ok (.aload 4, 2) := by decide +kernel
theorem dX11_turbine_120 : decode cX11_turbine 120 = .ok (.bipush 8, 2) := by decide +kernel
theorem dX11_turbine_122 : decode cX11_turbine 122 = .ok (.iconst (-1), 1) := by decide +kernel
theorem dX11_turbine_123 : decode cX11_turbine 123 = .ok (.iastore, 1) := by decide +kernel
theorem dX11_turbine_124 : decode cX11_turbine 124 = .ok (.aload 4, 2) := by decide +kernel
theorem dX11_turbine_126 : decode cX11_turbine 126 = .ok (.bipush 9, 2) := by decide +kernel
theorem dX11_turbine_128 : decode cX11_turbine 128 = .ok (.iconst (-1), 1) := by decide +kernel
theorem dX11_turbine_129 : decode cX11_turbine 129 = .ok (.iastore, 1) := by decide +kernel
theorem dX11_turbine_130 : decode cX11_turbine 130 = .ok (.aload_n 0, 1) := by decide +kernel
theorem dX11_turbine_131 : decode cX11_turbine 131 = .ok (.getfield 10, 3) := by decide +kernel
theorem dX11_turbine_134 : decode cX11_turbine 134 = .ok (.dup, 1) := by decide +kernel
theorem dX11_turbine_135 : decode cX11_turbine 135 = .ok (.getfield 30, 3) := by decide +kernel
theorem dX11_turbine_138 : decode cX11_turbine 138 = .ok (.dup_x1, 1) := by decide +kernel
theorem dX11_turbine_139 : decode cX11_turbine 139 = .ok (.iconst 1, 1) := by decide +kernel
theorem dX11_turbine_140 : decode cX11_turbine 140 = .ok (.iadd, 1) := by decide +kernel
theorem dX11_turbine_141 : decode cX11_turbine 141 = .ok (.putfield 30, 3) := by decide +kernel
theorem dX11_turbine_144 : decode cX11_turbine 144 = .ok (.ireturn, 1) := by decide +kernel
theorem wcRX11_50 : Cond.methodLink RX11 50 yX11_isTaken ∈ zTg ∧ Cond.instanceMethod yX11_isTaken ∈ zTg ∧ Cond.selects RX11 yX11_isTaken yX11_isTaken ∈ zTg ∧ Cond.initialized RX11 ∈ zTg ∧ Cond.code yX11_isTaken cX11_isTaken 4 (some .boolean) ∈ zTg := ⟨zm_f 1086 (by decide +kernel) rfl, zm_f 1088 (by decide +kernel) rfl, zm_f 20 (by decide +kernel) rfl, zm_f 46 (by decide +kernel) rfl, zm_f 1089 (by decide +kernel) rfl⟩
theorem wy_yX11_isTaken : yX11_isTaken.cls = RX11 ∧ yX11_isTaken.cls ≠ "java/lang/invoke/MethodHandle" ∧ yX11_isTaken.cls ≠ "java/lang/invoke/VarHandle" ∧ (parseMethodDescriptor yX11_isTaken.desc).map (fun d => d.parameters.length) = some 2 := by decide +kernel
theorem wpRX11_30 : zFw RX11 30 9 7 .int := ⟨_, rfl, by decide, zm_f 982 (by decide +kernel) rfl, rfl, by decide +kernel⟩
def fMO_turbine (a1 : Int32) (a2 : Int32) (a3 : Int32) (s0 : zM) (s1 : zM) : Option (Int32 × zM × zM) :=
  zlet (zu s0 0 0 0 (0 : Int32)) fun s0_1 =>
  Option.bind (fMO_in a3 (0 : Int32) ((s1 0 0 8) - (1 : Int32))) fun q2 =>
  if q2 = 0 then
  Option.bind (fMO_no (1 : Int32) s0_1 s1) fun q24 =>
    some (q24.1, q24.2, s1)
else
  Option.bind (fMO_in a1 (0 : Int32) (19 : Int32)) fun q3 =>
    if q3 = 0 then
    Option.bind (fMO_no (2 : Int32) s0_1 s1) fun q4 =>
      some (q4.1, q4.2, s1)
  else
    Option.bind (fMO_in a2 (0 : Int32) (19 : Int32)) fun q5 =>
      if q5 = 0 then
      Option.bind (fMO_no (2 : Int32) s0_1 s1) fun q23 =>
        some (q23.1, q23.2, s1)
    else
      if (s1 0 0 7) = (8 : Int32) then
        Option.bind (fMO_no (3 : Int32) s0_1 s1) fun q6 =>
          some (q6.1, q6.2, s1)
      else
        Option.bind (fMO_isTaken a1 a2 s0_1 s1) fun q7 =>
          if q7 = 0 then
          zix (s1 0 0 7) 8 fun j8 =>
            zix (0 : Int32) 23 fun j9 =>
            zlet (zu s1 8 j8 j9 a1) fun s1_10 =>
            zix (1 : Int32) 23 fun j11 =>
            zlet (zu s1_10 8 j8 j11 a2) fun s1_12 =>
            zix (2 : Int32) 23 fun j13 =>
            zlet (zu s1_12 8 j8 j13 a3) fun s1_14 =>
            zix (3 : Int32) 23 fun j15 =>
            zlet (zu s1_14 8 j8 j15 (2 : Int32)) fun s1_16 =>
            zix (8 : Int32) 23 fun j17 =>
            zlet (zu s1_16 8 j8 j17 (-1 : Int32)) fun s1_18 =>
            zix (9 : Int32) 23 fun j19 =>
            zlet (zu s1_18 8 j8 j19 (-1 : Int32)) fun s1_20 =>
            zlet (zu s1_20 0 0 7 ((s1_20 0 0 7) + (1 : Int32))) fun s1_21 =>
            some ((s1_20 0 0 7), s0_1, s1_21)
        else
          Option.bind (fMO_no (3 : Int32) s0_1 s1) fun q22 =>
            some (q22.1, q22.2, s1)
set_option maxHeartbeats 4000000 in
set_option maxRecDepth 20000 in
theorem bfMO_turbine {X : zX} (F : zFr X cX11_turbine 5 RX11 (some .int)) (a1 : Int32) (a2 : Int32) (a3 : Int32)  (s0 : zM) (s1 : zM) {κ : Int32 × zM × zM → Option zO} (hκ : ∀ a, κ a = some ((fun a => ((.inl ((fun q => some (zi q.1)) a), (fun q => [q.2.1, q.2.2]) a) : zO)) a)) : zZ X [(4, [1]), (3, [])] 1 23 5 0 [some (zr 0 0 0), some (zi a1), some (zi a2), some (zi a3), none] [] [s0, s1] (Option.bind (fMO_turbine a1 a2 a3 s0 s1) κ) := by
  unfold fMO_turbine
  refine zz_aload_n F (i := 0) dX11_turbine_0 rfl rfl ?_
  refine zz_iconst F (v := (0 : Int32)) dX11_turbine_1 (by decide) ?_
  refine zz_put F (Ms' := [(zu s0 0 0 0 (0 : Int32)), s1]) dX11_turbine_2 wpRX11_16 zCl_10 rfl (⟨zlb rfl, zlb rfl, zlb rfl⟩) rfl (by decide) rfl rfl rfl ?_
  refine zz_letm (Mf := fun s0_1 => [s0_1, s1]) fun s0_1 => ?_
  refine zz_iload_n F (i := 3) dX11_turbine_5 rfl rfl ?_
  refine zz_iconst F (v := (0 : Int32)) dX11_turbine_6 (by decide) ?_
  refine zz_aload_n F (i := 0) dX11_turbine_7 rfl rfl ?_
  refine zz_getr F dX11_turbine_8 wfRX11_10 zCl_10 rfl (⟨zlb rfl, zlb rfl, zlb rfl⟩) rfl (by decide) rfl (r' := 1) (by decide) ?_
  refine zz_getf F dX11_turbine_11 wfRX11_44 zCl_9 rfl (⟨zlb rfl, zlb rfl, zlb rfl⟩) rfl (by decide) rfl rfl ?_
  refine zz_iconst F (v := (1 : Int32)) dX11_turbine_14 (by decide) ?_
  refine zz_isub F dX11_turbine_15 ?_
  refine zz_bind ?_
  refine zz_callSr F (ρ := []) (so := fun q2 => [zi q2]) (Mo := fun q2 => [s0_1, s1]) (zfMO_in a3 (0 : Int32) ((s1 0 0 8) - (1 : Int32))) dX11_turbine_16 wcRX11_20 wy_yX11_in rfl ⟨rel14, rfl, rfl, Nat.le_of_ble_eq_true rfl, Nat.le_of_ble_eq_true rfl, Nat.le_of_ble_eq_true rfl⟩ rfl (fun _ => rfl) (fun _ => rfl) fun q2 => ?_
  refine zz_if_ne F (tgt := 28) dX11_turbine_19 (by decide) (fun h => zz_f h ?_) (fun h => zz_t h ?_)
  · refine zz_iload_n F (i := 1) dX11_turbine_28 rfl rfl ?_
    refine zz_iconst F (v := (0 : Int32)) dX11_turbine_29 (by decide) ?_
    refine zz_bipush F (v := (19 : Int32)) dX11_turbine_30 (by decide) ?_
    refine zz_bind ?_
    refine zz_callSr F (ρ := []) (so := fun q3 => [zi q3]) (Mo := fun q3 => [s0_1, s1]) (zfMO_in a1 (0 : Int32) (19 : Int32)) dX11_turbine_32 wcRX11_20 wy_yX11_in rfl ⟨rel14, rfl, rfl, Nat.le_of_ble_eq_true rfl, Nat.le_of_ble_eq_true rfl, Nat.le_of_ble_eq_true rfl⟩ rfl (fun _ => rfl) (fun _ => rfl) fun q3 => ?_
    refine zz_if_eq F (tgt := 48) dX11_turbine_35 (by decide) (fun h => zz_t h ?_) (fun h => zz_f h ?_)
    · refine zz_aload_n F (i := 0) dX11_turbine_48 rfl rfl ?_
      refine zz_iconst F (v := (2 : Int32)) dX11_turbine_49 (by decide) ?_
      refine zz_bind ?_
      refine zz_callVr F (ρ := [0, 1]) (so := fun q4 => [zi q4.1]) (Mo := fun q4 => [q4.2, s1]) (zfMO_no (2 : Int32) s0_1 s1) dX11_turbine_50 wcRX11_40 wy_yX11_no rfl ⟨rel15, rfl, rfl, Nat.le_of_ble_eq_true rfl, Nat.le_of_ble_eq_true rfl, Nat.le_of_ble_eq_true rfl⟩ (⟨zlb rfl, zlb rfl, zlb rfl⟩) rfl rfl rfl (fun _ => rfl) (fun _ => rfl) fun q4 => ?_
      exact zz_ireturn F dX11_turbine_53 rfl (hκ _)
    · refine zz_iload_n F (i := 2) dX11_turbine_38 rfl rfl ?_
      refine zz_iconst F (v := (0 : Int32)) dX11_turbine_39 (by decide) ?_
      refine zz_bipush F (v := (19 : Int32)) dX11_turbine_40 (by decide) ?_
      refine zz_bind ?_
      refine zz_callSr F (ρ := []) (so := fun q5 => [zi q5]) (Mo := fun q5 => [s0_1, s1]) (zfMO_in a2 (0 : Int32) (19 : Int32)) dX11_turbine_42 wcRX11_20 wy_yX11_in rfl ⟨rel14, rfl, rfl, Nat.le_of_ble_eq_true rfl, Nat.le_of_ble_eq_true rfl, Nat.le_of_ble_eq_true rfl⟩ rfl (fun _ => rfl) (fun _ => rfl) fun q5 => ?_
      refine zz_if_ne F (tgt := 54) dX11_turbine_45 (by decide) (fun h => zz_f h ?_) (fun h => zz_t h ?_)
      · refine zz_aload_n F (i := 0) dX11_turbine_54 rfl rfl ?_
        refine zz_getr F dX11_turbine_55 wfRX11_10 zCl_10 rfl (⟨zlb rfl, zlb rfl, zlb rfl⟩) rfl (by decide) rfl (r' := 1) (by decide) ?_
        refine zz_getf F dX11_turbine_58 wfRX11_30 zCl_9 rfl (⟨zlb rfl, zlb rfl, zlb rfl⟩) rfl (by decide) rfl rfl ?_
        refine zz_bipush F (v := (8 : Int32)) dX11_turbine_61 (by decide) ?_
        refine zz_icmp_eq F (tgt := 75) dX11_turbine_63 (by decide) (fun h => zz_t h ?_) (fun h => zz_f h ?_)
        · refine zz_aload_n F (i := 0) dX11_turbine_75 rfl rfl ?_
          refine zz_iconst F (v := (3 : Int32)) dX11_turbine_76 (by decide) ?_
          refine zz_bind ?_
          refine zz_callVr F (ρ := [0, 1]) (so := fun q6 => [zi q6.1]) (Mo := fun q6 => [q6.2, s1]) (zfMO_no (3 : Int32) s0_1 s1) dX11_turbine_77 wcRX11_40 wy_yX11_no rfl ⟨rel15, rfl, rfl, Nat.le_of_ble_eq_true rfl, Nat.le_of_ble_eq_true rfl, Nat.le_of_ble_eq_true rfl⟩ (⟨zlb rfl, zlb rfl, zlb rfl⟩) rfl rfl rfl (fun _ => rfl) (fun _ => rfl) fun q6 => ?_
          exact zz_ireturn F dX11_turbine_80 rfl (hκ _)
        · refine zz_aload_n F (i := 0) dX11_turbine_66 rfl rfl ?_
          refine zz_iload_n F (i := 1) dX11_turbine_67 rfl rfl ?_
          refine zz_iload_n F (i := 2) dX11_turbine_68 rfl rfl ?_
          refine zz_bind ?_
          refine zz_callVr F (ρ := [0, 1]) (so := fun q7 => [zi q7]) (Mo := fun q7 => [s0_1, s1]) (zfMO_isTaken a1 a2 s0_1 s1) dX11_turbine_69 wcRX11_50 wy_yX11_isTaken rfl ⟨rel15, rfl, rfl, Nat.le_of_ble_eq_true rfl, Nat.le_of_ble_eq_true rfl, Nat.le_of_ble_eq_true rfl⟩ (⟨zlb rfl, zlb rfl, zlb rfl⟩) rfl rfl rfl (fun _ => rfl) (fun _ => rfl) fun q7 => ?_
          refine zz_if_eq F (tgt := 81) dX11_turbine_72 (by decide) (fun h => zz_t h ?_) (fun h => zz_f h ?_)
          · refine zz_aload_n F (i := 0) dX11_turbine_81 rfl rfl ?_
            refine zz_getr F dX11_turbine_82 wfRX11_10 zCl_10 rfl (⟨zlb rfl, zlb rfl, zlb rfl⟩) rfl (by decide) rfl (r' := 1) (by decide) ?_
            refine zz_getr F dX11_turbine_85 wfRX11_36 zCl_9 rfl (⟨zlb rfl, zlb rfl, zlb rfl⟩) rfl (by decide) rfl (r' := 1) (by decide) ?_
            refine zz_aload_n F (i := 0) dX11_turbine_88 rfl rfl ?_
            refine zz_getr F dX11_turbine_89 wfRX11_10 zCl_10 rfl (⟨zlb rfl, zlb rfl, zlb rfl⟩) rfl (by decide) rfl (r' := 1) (by decide) ?_
            refine zz_getf F dX11_turbine_92 wfRX11_30 zCl_9 rfl (⟨zlb rfl, zlb rfl, zlb rfl⟩) rfl (by decide) rfl rfl ?_
            refine zz_ix fun j8 hj8 hinj8 hej8 => zz_aal F dX11_turbine_95 rfl (⟨zlb rfl, zlb rfl, zlb rfl⟩) rfl (by decide) rfl hinj8 hej8 rfl ?_
            refine zz_astore F (i := 4) (L' := [some (zr 0 0 0), some (zi a1), some (zi a2), some (zi a3), some (zr 1 8 j8)]) dX11_turbine_96 (by decide) rfl rfl ?_
            refine zz_aload F (i := 4) dX11_turbine_98 rfl ?_
            refine zz_iconst F (v := (0 : Int32)) dX11_turbine_100 (by decide) ?_
            refine zz_iload_n F (i := 1) dX11_turbine_101 rfl rfl ?_
            refine zz_ix fun j9 hj9 hinj9 hej9 => zz_ias F (Ms' := [s0_1, (zu s1 8 j8 j9 a1)]) dX11_turbine_102 rfl (⟨zlb rfl, zlb rfl, hj8⟩) rfl hinj9 hej9 rfl ?_
            refine zz_letm (Mf := fun s1_10 => [s0_1, s1_10]) fun s1_10 => ?_
            refine zz_aload F (i := 4) dX11_turbine_103 rfl ?_
            refine zz_iconst F (v := (1 : Int32)) dX11_turbine_105 (by decide) ?_
            refine zz_iload_n F (i := 2) dX11_turbine_106 rfl rfl ?_
            refine zz_ix fun j11 hj11 hinj11 hej11 => zz_ias F (Ms' := [s0_1, (zu s1_10 8 j8 j11 a2)]) dX11_turbine_107 rfl (⟨zlb rfl, zlb rfl, hj8⟩) rfl hinj11 hej11 rfl ?_
            refine zz_letm (Mf := fun s1_12 => [s0_1, s1_12]) fun s1_12 => ?_
            refine zz_aload F (i := 4) dX11_turbine_108 rfl ?_
            refine zz_iconst F (v := (2 : Int32)) dX11_turbine_110 (by decide) ?_
            refine zz_iload_n F (i := 3) dX11_turbine_111 rfl rfl ?_
            refine zz_ix fun j13 hj13 hinj13 hej13 => zz_ias F (Ms' := [s0_1, (zu s1_12 8 j8 j13 a3)]) dX11_turbine_112 rfl (⟨zlb rfl, zlb rfl, hj8⟩) rfl hinj13 hej13 rfl ?_
            refine zz_letm (Mf := fun s1_14 => [s0_1, s1_14]) fun s1_14 => ?_
            refine zz_aload F (i := 4) dX11_turbine_113 rfl ?_
            refine zz_iconst F (v := (3 : Int32)) dX11_turbine_115 (by decide) ?_
            refine zz_iconst F (v := (2 : Int32)) dX11_turbine_116 (by decide) ?_
            refine zz_ix fun j15 hj15 hinj15 hej15 => zz_ias F (Ms' := [s0_1, (zu s1_14 8 j8 j15 (2 : Int32))]) dX11_turbine_117 rfl (⟨zlb rfl, zlb rfl, hj8⟩) rfl hinj15 hej15 rfl ?_
            refine zz_letm (Mf := fun s1_16 => [s0_1, s1_16]) fun s1_16 => ?_
            refine zz_aload F (i := 4) dX11_turbine_118 rfl ?_
            refine zz_bipush F (v := (8 : Int32)) dX11_turbine_120 (by decide) ?_
            refine zz_iconst F (v := (-1 : Int32)) dX11_turbine_122 (by decide) ?_
            refine zz_ix fun j17 hj17 hinj17 hej17 => zz_ias F (Ms' := [s0_1, (zu s1_16 8 j8 j17 (-1 : Int32))]) dX11_turbine_123 rfl (⟨zlb rfl, zlb rfl, hj8⟩) rfl hinj17 hej17 rfl ?_
            refine zz_letm (Mf := fun s1_18 => [s0_1, s1_18]) fun s1_18 => ?_
            refine zz_aload F (i := 4) dX11_turbine_124 rfl ?_
            refine zz_bipush F (v := (9 : Int32)) dX11_turbine_126 (by decide) ?_
            refine zz_iconst F (v := (-1 : Int32)) dX11_turbine_128 (by decide) ?_
            refine zz_ix fun j19 hj19 hinj19 hej19 => zz_ias F (Ms' := [s0_1, (zu s1_18 8 j8 j19 (-1 : Int32))]) dX11_turbine_129 rfl (⟨zlb rfl, zlb rfl, hj8⟩) rfl hinj19 hej19 rfl ?_
            refine zz_letm (Mf := fun s1_20 => [s0_1, s1_20]) fun s1_20 => ?_
            refine zz_aload_n F (i := 0) dX11_turbine_130 rfl rfl ?_
            refine zz_getr F dX11_turbine_131 wfRX11_10 zCl_10 rfl (⟨zlb rfl, zlb rfl, zlb rfl⟩) rfl (by decide) rfl (r' := 1) (by decide) ?_
            refine zz_dup F dX11_turbine_134 rfl ?_
            refine zz_getf F dX11_turbine_135 wfRX11_30 zCl_9 rfl (⟨zlb rfl, zlb rfl, zlb rfl⟩) rfl (by decide) rfl rfl ?_
            refine zz_dup_x1 F dX11_turbine_138 rfl rfl ?_
            refine zz_iconst F (v := (1 : Int32)) dX11_turbine_139 (by decide) ?_
            refine zz_iadd F dX11_turbine_140 ?_
            refine zz_put F (Ms' := [s0_1, (zu s1_20 0 0 7 ((s1_20 0 0 7) + (1 : Int32)))]) dX11_turbine_141 wpRX11_30 zCl_9 rfl (⟨zlb rfl, zlb rfl, zlb rfl⟩) rfl (by decide) rfl rfl rfl ?_
            refine zz_letm (Mf := fun s1_21 => [s0_1, s1_21]) fun s1_21 => ?_
            exact zz_ireturn F dX11_turbine_144 rfl (hκ _)
          · refine zz_aload_n F (i := 0) dX11_turbine_75 rfl rfl ?_
            refine zz_iconst F (v := (3 : Int32)) dX11_turbine_76 (by decide) ?_
            refine zz_bind ?_
            refine zz_callVr F (ρ := [0, 1]) (so := fun q22 => [zi q22.1]) (Mo := fun q22 => [q22.2, s1]) (zfMO_no (3 : Int32) s0_1 s1) dX11_turbine_77 wcRX11_40 wy_yX11_no rfl ⟨rel15, rfl, rfl, Nat.le_of_ble_eq_true rfl, Nat.le_of_ble_eq_true rfl, Nat.le_of_ble_eq_true rfl⟩ (⟨zlb rfl, zlb rfl, zlb rfl⟩) rfl rfl rfl (fun _ => rfl) (fun _ => rfl) fun q22 => ?_
            exact zz_ireturn F dX11_turbine_80 rfl (hκ _)
      · refine zz_aload_n F (i := 0) dX11_turbine_48 rfl rfl ?_
        refine zz_iconst F (v := (2 : Int32)) dX11_turbine_49 (by decide) ?_
        refine zz_bind ?_
        refine zz_callVr F (ρ := [0, 1]) (so := fun q23 => [zi q23.1]) (Mo := fun q23 => [q23.2, s1]) (zfMO_no (2 : Int32) s0_1 s1) dX11_turbine_50 wcRX11_40 wy_yX11_no rfl ⟨rel15, rfl, rfl, Nat.le_of_ble_eq_true rfl, Nat.le_of_ble_eq_true rfl, Nat.le_of_ble_eq_true rfl⟩ (⟨zlb rfl, zlb rfl, zlb rfl⟩) rfl rfl rfl (fun _ => rfl) (fun _ => rfl) fun q23 => ?_
        exact zz_ireturn F dX11_turbine_53 rfl (hκ _)
  · refine zz_aload_n F (i := 0) dX11_turbine_22 rfl rfl ?_
    refine zz_iconst F (v := (1 : Int32)) dX11_turbine_23 (by decide) ?_
    refine zz_bind ?_
    refine zz_callVr F (ρ := [0, 1]) (so := fun q24 => [zi q24.1]) (Mo := fun q24 => [q24.2, s1]) (zfMO_no (1 : Int32) s0_1 s1) dX11_turbine_24 wcRX11_40 wy_yX11_no rfl ⟨rel15, rfl, rfl, Nat.le_of_ble_eq_true rfl, Nat.le_of_ble_eq_true rfl, Nat.le_of_ble_eq_true rfl⟩ (⟨zlb rfl, zlb rfl, zlb rfl⟩) rfl rfl rfl (fun _ => rfl) (fun _ => rfl) fun q24 => ?_
    exact zz_ireturn F dX11_turbine_27 rfl (hκ _)
theorem zfMO_turbine (a1 : Int32) (a2 : Int32) (a3 : Int32)  (s0 : zM) (s1 : zM) : ∀ a, fMO_turbine a1 a2 a3 s0 s1 = some a → zMet yX11_turbine cX11_turbine 5 (some .int) 1 23 [(4, [1]), (3, [])] [zr 0 0 0, zi a1, zi a2, zi a3] [s0, s1] ((fun a => ((.inl ((fun q => some (zi q.1)) a), (fun q => [q.2.1, q.2.2]) a) : zO)) a) := fun a ha => zMet_of (L0 := [some (zr 0 0 0), some (zi a1), some (zi a2), some (zi a3), none]) (φ := Option.bind (fMO_turbine a1 a2 a3 s0 s1) (fun a => some ((fun a => ((.inl ((fun q => some (zi q.1)) a), (fun q => [q.2.1, q.2.2]) a) : zO)) a))) (by decide) (fun _ => Nat.le_of_ble_eq_true rfl) (zl0 1 rfl) (fun X F => bfMO_turbine F a1 a2 a3 s0 s1 (fun _ => rfl)) (by rw [ha]; rfl)

theorem dX10_toCome_0 : decode cX10_toCome 0 = .ok (.iconst 0, 1) := by decide +kernel
theorem dX10_toCome_1 : decode cX10_toCome 1 = .ok (.istore_n 1, 1) := by decide +kernel
theorem dX10_toCome_2 : decode cX10_toCome 2 = .ok (.iconst 0, 1) := by decide +kernel
theorem dX10_toCome_3 : decode cX10_toCome 3 = .ok (.istore_n 2, 1) := by decide +kernel
theorem dX10_toCome_4 : decode cX10_toCome 4 = .ok (.iload_n 2, 1) := by decide +kernel
theorem dX10_toCome_5 : decode cX10_toCome 5 = .ok (.bipush 32, 2) := by decide +kernel
theorem dX10_toCome_7 : decode cX10_toCome 7 = .ok (.if_icmp .ge 30, 3) := by decide +kernel
theorem dX10_toCome_10 : decode cX10_toCome 10 = .ok (.iload_n 1, 1) := by decide +kernel
theorem dX10_toCome_11 : decode cX10_toCome 11 = .ok (.aload_n 0, 1) := by decide +kernel
theorem dX10_toCome_12 : decode cX10_toCome 12 = .ok (.getfield 25, 3) := by decide +kernel
theorem dX10_toCome_15 : decode cX10_toCome 15 = .ok (.iload_n 2, 1) := by decide +kernel
theorem dX10_toCome_16 : decode cX10_toCome 16 = .ok (.iaload, 1) := by decide +kernel
theorem dX10_toCome_17 : decode cX10_toCome 17 = .ok (.aload_n 0, 1) := by decide +kernel
theorem dX10_toCome_18 : decode cX10_toCome 18 = .ok (.getfield 58, 3) := by decide +kernel
theorem dX10_toCome_21 : decode cX10_toCome 21 = .ok (.if_icmp .le 7, 3) := by decide +kernel
theorem dX10_toCome_24 : decode cX10_toCome 24 = .ok (.iconst 1, 1) := by decide +kernel
theorem dX10_toCome_25 : decode cX10_toCome 25 = .ok (.goto 4, 3) := by decide +kernel
theorem dX10_toCome_28 : decode cX10_toCome 28 = .ok (.iconst 0, 1) := by decide +kernel
theorem dX10_toCome_29 : decode cX10_toCome 29 = .ok (.iadd, 1) := by decide +kernel
theorem dX10_toCome_30 : decode cX10_toCome 30 = .ok (.istore_n 1, 1) := by decide +kernel
theorem dX10_toCome_31 : decode cX10_toCome 31 = .ok (.iinc 2 1, 3) := by decide +kernel
theorem dX10_toCome_34 : decode cX10_toCome 34 = .ok (.goto (-30), 3) := by decide +kernel
theorem dX10_toCome_37 : decode cX10_toCome 37 = .ok (.iload_n 1, 1) := by decide +kernel
theorem dX10_toCome_38 : decode cX10_toCome 38 = .ok (.ireturn, 1) := by decide +kernel
theorem wfRX10_25 : zFl RX10 25 9 4 := ⟨_, rfl, by decide, zm_f 976 (by decide +kernel) rfl⟩
theorem wfRX10_58 : zFl RX10 58 9 10 := ⟨_, rfl, by decide, zm_f 987 (by decide +kernel) rfl⟩
def fMS_toCome_l4 (s0 : zM) (q1 : Int32 × Int32) : Option ((Int32 × Int32) ⊕ ((Int32))) :=
  if (32 : Int32) ≤ q1.2 then
  some (.inr q1.1)
else
  zix q1.2 32 fun j3 =>
    Option.bind (if (s0 5 0 j3) ≤ (s0 0 0 10) then
    some (0 : Int32)
  else
    some (1 : Int32)) fun q4 =>
    zlet ((q1.1 + q4)) fun v8 =>
    zlet (q1.2 + 1) fun v9 =>
    some (.inl (v8, v9))
def fMS_toCome  (s0 : zM) : Option (Int32) :=
  Option.bind (ziter (fMS_toCome_l4 s0) 1000 ((0 : Int32), (0 : Int32))) fun q2 =>
  some q2
set_option maxHeartbeats 4000000 in
set_option maxRecDepth 20000 in
theorem bfMS_toCome_l4 {X : zX} (F : zFr X cX10_toCome 3 RX10 (some .int)) (s0 : zM)  {ψ : (Int32 × Int32) ⊕ ((Int32)) → Option zO} (h1 : ∀ q1 : Int32 × Int32, zZ X [(3, [])] 0 0 3 4 [some (zr 0 0 0), some (zi q1.1), some (zi q1.2)] [] [s0] (ψ (.inl q1))) (h2 : ∀ q2 : Int32, zZ X [(3, [])] 0 0 3 37 [none, some (zi q2), none] [] [s0] (ψ (.inr q2))) (q1 : Int32 × Int32) : zZ X [(3, [])] 0 0 3 4 [some (zr 0 0 0), some (zi q1.1), some (zi q1.2)] [] [s0] (Option.bind (fMS_toCome_l4 s0 q1) ψ) := by
  unfold fMS_toCome_l4
  refine zz_iload_n F (i := 2) dX10_toCome_4 rfl rfl ?_
  refine zz_bipush F (v := (32 : Int32)) dX10_toCome_5 (by decide) ?_
  refine zz_icmp_ge F (tgt := 37) dX10_toCome_7 (by decide) (fun h => zz_t h ?_) (fun h => zz_f h ?_)
  · exact zz_sub (zs_n (zs_k (zs_n zs_z))) (h2 q1.1)
  · refine zz_iload_n F (i := 1) dX10_toCome_10 rfl rfl ?_
    refine zz_aload_n F (i := 0) dX10_toCome_11 rfl rfl ?_
    refine zz_getr F dX10_toCome_12 wfRX10_25 zCl_9 rfl (⟨zlb rfl, zlb rfl, zlb rfl⟩) rfl (by decide) rfl (r' := 0) (by decide) ?_
    refine zz_iload_n F (i := 2) dX10_toCome_15 rfl rfl ?_
    refine zz_ix fun j3 hj3 hinj3 hej3 => zz_ial F dX10_toCome_16 rfl (⟨zlb rfl, zlb rfl, zlb rfl⟩) rfl hinj3 hej3 ?_
    refine zz_aload_n F (i := 0) dX10_toCome_17 rfl rfl ?_
    refine zz_getf F dX10_toCome_18 wfRX10_58 zCl_9 rfl (⟨zlb rfl, zlb rfl, zlb rfl⟩) rfl (by decide) rfl rfl ?_
    refine zz_join (pj := 29) (Lj := fun q4 => [some (zr 0 0 0), none, some (zi q1.2)]) (Sj := fun q4 => [zi q4, zi q1.1]) (Mj := fun q4 => [s0]) (fun q4 => ?_) (fun κ6 hj5 => ?_)
    · refine zz_iadd F dX10_toCome_29 ?_
      refine zz_istore_n F (i := 1) (L' := [some (zr 0 0 0), some (zi (q1.1 + q4)), some (zi q1.2)]) dX10_toCome_30 rfl (by decide) rfl rfl ?_
      refine zz_letl (Lf := fun v8 => [some (zr 0 0 0), some (zi v8), some (zi q1.2)]) fun v8 => ?_
      refine zz_iinc F (i := 2) (v := q1.2 + 1) (L' := [some (zr 0 0 0), some (zi v8), some (zi (q1.2 + 1))]) dX10_toCome_31 rfl (by first | rfl | decide) (by decide) rfl rfl ?_
      refine zz_letl (Lf := fun v9 => [some (zr 0 0 0), some (zi v8), some (zi v9)]) fun v9 => ?_
      refine zz_goto F (tgt := 4) dX10_toCome_34 (by decide) ?_
      exact zz_sub (zs_k (zs_k (zs_k zs_z))) (h1 (v8, v9))
    · refine zz_icmp_le F (tgt := 28) dX10_toCome_21 (by decide) (fun h => zz_t h ?_) (fun h => zz_f h ?_)
      · refine zz_iconst F (v := (0 : Int32)) dX10_toCome_28 (by decide) ?_
        exact zz_sub (zs_k (zs_n (zs_k zs_z))) (hj5 (0 : Int32))
      · refine zz_iconst F (v := (1 : Int32)) dX10_toCome_24 (by decide) ?_
        refine zz_goto F (tgt := 29) dX10_toCome_25 (by decide) ?_
        exact zz_sub (zs_k (zs_n (zs_k zs_z))) (hj5 (1 : Int32))
set_option maxHeartbeats 4000000 in
set_option maxRecDepth 20000 in
theorem bfMS_toCome {X : zX} (F : zFr X cX10_toCome 3 RX10 (some .int))   (s0 : zM) {κ : Int32 → Option zO} (hκ : ∀ a, κ a = some ((fun a => ((.inl ((fun q => some (zi q)) a), (fun _ => [s0]) a) : zO)) a)) : zZ X [(3, [])] 0 0 3 0 [some (zr 0 0 0), none, none] [] [s0] (Option.bind (fMS_toCome s0) κ) := by
  unfold fMS_toCome
  refine zz_iconst F (v := (0 : Int32)) dX10_toCome_0 (by decide) ?_
  refine zz_istore_n F (i := 1) (L' := [some (zr 0 0 0), some (zi (0 : Int32)), none]) dX10_toCome_1 rfl (by decide) rfl rfl ?_
  refine zz_iconst F (v := (0 : Int32)) dX10_toCome_2 (by decide) ?_
  refine zz_istore_n F (i := 2) (L' := [some (zr 0 0 0), some (zi (0 : Int32)), some (zi (0 : Int32))]) dX10_toCome_3 rfl (by decide) rfl rfl ?_
  refine zz_sub (zs_k (zs_k (zs_k zs_z))) ?_
  refine zz_bind ?_
  refine zz_iter (Lf := fun q1 => [some (zr 0 0 0), some (zi q1.1), some (zi q1.2)]) (Mf := fun q1 => [s0]) (fun q1 _ e10 e11 => bfMS_toCome_l4 F s0  e10 (fun q2 => ?_)  q1) 1000 ((0 : Int32), (0 : Int32))
  rw [e11]
  refine zz_iload_n F (i := 1) dX10_toCome_37 rfl rfl ?_
  exact zz_ireturn F dX10_toCome_38 rfl (hκ _)
theorem zfMS_toCome   (s0 : zM) : ∀ a, fMS_toCome s0 = some a → zMet yX10_toCome cX10_toCome 3 (some .int) 0 0 [(3, [])] [zr 0 0 0] [s0] ((fun a => ((.inl ((fun q => some (zi q)) a), (fun _ => [s0]) a) : zO)) a) := fun a ha => zMet_of (L0 := [some (zr 0 0 0), none, none]) (φ := Option.bind (fMS_toCome s0) (fun a => some ((fun a => ((.inl ((fun q => some (zi q)) a), (fun _ => [s0]) a) : zO)) a))) (by decide) (fun _ => Nat.le_of_ble_eq_true rfl) (zl0 2 rfl) (fun X F => bfMS_toCome F s0 (fun _ => rfl)) (by rw [ha]; rfl)

theorem dX11_nominate_0 : decode cX11_nominate 0 = .ok (.aload_n 0, 1) := by decide +kernel
theorem dX11_nominate_1 : decode cX11_nominate 1 = .ok (.iconst 0, 1) := by decide +kernel
theorem dX11_nominate_2 : decode cX11_nominate 2 = .ok (.putfield 16, 3) := by decide +kernel
theorem dX11_nominate_5 : decode cX11_nominate 5 = .ok (.iload_n 1, 1) := by decide +kernel
theorem dX11_nominate_6 : decode cX11_nominate 6 = .ok (.aload_n 0, 1) := by decide +kernel
theorem dX11_nominate_7 : decode cX11_nominate 7 = .ok (.getfield 10, 3) := by decide +kernel
theorem dX11_nominate_10 : decode cX11_nominate 10 = .ok (.getfield 63, 3) := by decide +kernel
theorem dX11_nominate_13 : decode cX11_nominate 13 = .ok (.iconst 1, 1) := by decide +kernel
theorem dX11_nominate_14 : decode cX11_nominate 14 = .ok (.iadd, 1) := by decide +kernel
theorem dX11_nominate_15 : decode cX11_nominate 15 = .ok (.aload_n 0, 1) := by decide +kernel
theorem dX11_nominate_16 : decode cX11_nominate 16 = .ok (.getfield 10, 3) := by decide +kernel
theorem dX11_nominate_19 : decode cX11_nominate 19 = .ok (.getfield 63, 3) := by decide +kernel
theorem dX11_nominate_22 : decode cX11_nominate 22 = .ok (.bipush 24, 2) := by decide +kernel
theorem dX11_nominate_24 : decode cX11_nominate 24 = .ok (.iadd, 1) := by decide +kernel
theorem dX11_nominate_25 : decode cX11_nominate 25 = .ok (.invokestatic 20, 3) := by decide +kernel
theorem dX11_nominate_28 : decode cX11_nominate 28 = .ok (.ifCond .eq 14, 3) := by decide +kernel
theorem dX11_nominate_31 : decode cX11_nominate 31 = .ok (.iload_n 2, 1) := by decide +kernel
theorem dX11_nominate_32 : decode cX11_nominate 32 = .ok (.iconst 0, 1) := by decide +kernel
theorem dX11_nominate_33 : decode cX11_nominate 33 = .ok (.sipush 20000, 3) := by decide +kernel
theorem dX11_nominate_36 : decode cX11_nominate 36 = .ok (.invokestatic 20, 3) := by decide +kernel
theorem dX11_nominate_39 : decode cX11_nominate 39 = .ok (.ifCond .ne 9, 3) := by decide +kernel
theorem dX11_nominate_42 : decode cX11_nominate 42 = .ok (.aload_n 0, 1) := by decide +kernel
theorem dX11_nominate_43 : decode cX11_nominate 43 = .ok (.iconst 1, 1) := by decide +kernel
theorem dX11_nominate_44 : decode cX11_nominate 44 = .ok (.invokevirtual 40, 3) := by decide +kernel
theorem dX11_nominate_47 : decode cX11_nominate 47 = .ok (.ireturn, 1) := by decide +kernel
theorem dX11_nominate_48 : decode cX11_nominate 48 = .ok (.aload_n 0, 1) := by decide +kernel
theorem dX11_nominate_49 : decode cX11_nominate 49 = .ok (.getfield 10, 3) := by decide +kernel
theorem dX11_nominate_52 : decode cX11_nominate 52 = .ok (.getfield 66, 3) := by decide +kernel
theorem dX11_nominate_55 : decode cX11_nominate 55 = .ok (.iload_n 1, 1) := by decide +kernel
theorem dX11_nominate_56 : decode cX11_nominate 56 = .ok (.bipush 32, 2) := by decide +kernel
theorem dX11_nominate_58 : decode cX11_nominate 58 = .ok (.irem, 1) := by decide +kernel
theorem dX11_nominate_59 : decode cX11_nominate 59 = .ok (.iload_n 1, 1) := by decide +kernel
theorem dX11_nominate_60 : decode cX11_nominate 60 = .ok (.iastore, 1) := by decide +kernel
theorem dX11_nominate_61 : decode cX11_nominate 61 = .ok (.aload_n 0, 1) := by decide +kernel
theorem dX11_nominate_62 : decode cX11_nominate 62 = .ok (.getfield 10, 3) := by decide +kernel
theorem dX11_nominate_65 : decode cX11_nominate 65 = .ok (.getfield 70, 3) := by decide +kernel
theorem dX11_nominate_68 : decode cX11_nominate 68 = .ok (.iload_n 1, 1) := by decide +kernel
theorem dX11_nominate_69 : decode cX11_nominate 69 = .ok (.bipush 32, 2) := by decide +kernel
theorem dX11_nominate_71 : decode cX11_nominate 71 = .ok (.irem, 1) := by decide +kernel
theorem dX11_nominate_72 : decode cX11_nominate 72 = .ok (.iload_n 2, 1) := by decide +kernel
theorem dX11_nominate_73 : decode cX11_nominate 73 = .ok (.iastore, 1) := by decide +kernel
theorem dX11_nominate_74 : decode cX11_nominate 74 = .ok (.aload_n 0, 1) := by decide +kernel
theorem dX11_nominate_75 : decode cX11_nominate 75 = .ok (.getfield 10, 3) := by decide +kernel
theorem dX11_nominate_78 : decode cX11_nominate 78 = .ok (.invokevirtual 73, 3) := by decide +kernel
theorem dX11_nominate_81 : decode cX11_nominate 81 = .ok (.ireturn, 1) := by decide +kernel
theorem wfRX11_63 : zFl RX11 63 9 10 := ⟨_, rfl, by decide, zm_f 988 (by decide +kernel) rfl⟩
theorem wfRX11_66 : zFl RX11 66 9 4 := ⟨_, rfl, by decide, zm_f 977 (by decide +kernel) rfl⟩
theorem wfRX11_70 : zFl RX11 70 9 5 := ⟨_, rfl, by decide, zm_f 979 (by decide +kernel) rfl⟩
theorem wcRX11_73 : Cond.methodLink RX11 73 yX10_toCome ∈ zTg ∧ Cond.instanceMethod yX10_toCome ∈ zTg ∧ Cond.selects RX10 yX10_toCome yX10_toCome ∈ zTg ∧ Cond.initialized RX10 ∈ zTg ∧ Cond.code yX10_toCome cX10_toCome 3 (some .int) ∈ zTg := ⟨zm_f 1099 (by decide +kernel) rfl, zm_f 1100 (by decide +kernel) rfl, zm_f 1101 (by decide +kernel) rfl, zm_f 47 (by decide +kernel) rfl, zm_f 1102 (by decide +kernel) rfl⟩
theorem wy_yX10_toCome : yX10_toCome.cls = RX10 ∧ yX10_toCome.cls ≠ "java/lang/invoke/MethodHandle" ∧ yX10_toCome.cls ≠ "java/lang/invoke/VarHandle" ∧ (parseMethodDescriptor yX10_toCome.desc).map (fun d => d.parameters.length) = some 0 := by decide +kernel
theorem rel16 : zRel [1] [(4, [1]), (3, [])] [(3, [])] := by unfold zRel; decide
def fMO_nominate (a1 : Int32) (a2 : Int32) (s0 : zM) (s1 : zM) : Option (Int32 × zM × zM) :=
  zlet (zu s0 0 0 0 (0 : Int32)) fun s0_1 =>
  Option.bind (fMO_in a1 ((s1 0 0 10) + (1 : Int32)) ((s1 0 0 10) + (24 : Int32))) fun q2 =>
  if q2 = 0 then
  Option.bind (fMO_no (1 : Int32) s0_1 s1) fun q3 =>
    some (q3.1, q3.2, s1)
else
  Option.bind (fMO_in a2 (0 : Int32) (20000 : Int32)) fun q4 =>
    if q4 = 0 then
    Option.bind (fMO_no (1 : Int32) s0_1 s1) fun q10 =>
      some (q10.1, q10.2, s1)
  else
    zix (a1 % (32 : Int32)) 32 fun j5 =>
      zlet (zu s1 5 0 j5 a1) fun s1_6 =>
      zix (a1 % (32 : Int32)) 32 fun j7 =>
      zlet (zu s1_6 6 0 j7 a2) fun s1_8 =>
      Option.bind (fMS_toCome s1_8) fun q9 =>
      some (q9, s0_1, s1_8)
set_option maxHeartbeats 4000000 in
set_option maxRecDepth 20000 in
theorem bfMO_nominate {X : zX} (F : zFr X cX11_nominate 3 RX11 (some .int)) (a1 : Int32) (a2 : Int32)  (s0 : zM) (s1 : zM) {κ : Int32 × zM × zM → Option zO} (hκ : ∀ a, κ a = some ((fun a => ((.inl ((fun q => some (zi q.1)) a), (fun q => [q.2.1, q.2.2]) a) : zO)) a)) : zZ X [(4, [1]), (3, [])] 1 22 3 0 [some (zr 0 0 0), some (zi a1), some (zi a2)] [] [s0, s1] (Option.bind (fMO_nominate a1 a2 s0 s1) κ) := by
  unfold fMO_nominate
  refine zz_aload_n F (i := 0) dX11_nominate_0 rfl rfl ?_
  refine zz_iconst F (v := (0 : Int32)) dX11_nominate_1 (by decide) ?_
  refine zz_put F (Ms' := [(zu s0 0 0 0 (0 : Int32)), s1]) dX11_nominate_2 wpRX11_16 zCl_10 rfl (⟨zlb rfl, zlb rfl, zlb rfl⟩) rfl (by decide) rfl rfl rfl ?_
  refine zz_letm (Mf := fun s0_1 => [s0_1, s1]) fun s0_1 => ?_
  refine zz_iload_n F (i := 1) dX11_nominate_5 rfl rfl ?_
  refine zz_aload_n F (i := 0) dX11_nominate_6 rfl rfl ?_
  refine zz_getr F dX11_nominate_7 wfRX11_10 zCl_10 rfl (⟨zlb rfl, zlb rfl, zlb rfl⟩) rfl (by decide) rfl (r' := 1) (by decide) ?_
  refine zz_getf F dX11_nominate_10 wfRX11_63 zCl_9 rfl (⟨zlb rfl, zlb rfl, zlb rfl⟩) rfl (by decide) rfl rfl ?_
  refine zz_iconst F (v := (1 : Int32)) dX11_nominate_13 (by decide) ?_
  refine zz_iadd F dX11_nominate_14 ?_
  refine zz_aload_n F (i := 0) dX11_nominate_15 rfl rfl ?_
  refine zz_getr F dX11_nominate_16 wfRX11_10 zCl_10 rfl (⟨zlb rfl, zlb rfl, zlb rfl⟩) rfl (by decide) rfl (r' := 1) (by decide) ?_
  refine zz_getf F dX11_nominate_19 wfRX11_63 zCl_9 rfl (⟨zlb rfl, zlb rfl, zlb rfl⟩) rfl (by decide) rfl rfl ?_
  refine zz_bipush F (v := (24 : Int32)) dX11_nominate_22 (by decide) ?_
  refine zz_iadd F dX11_nominate_24 ?_
  refine zz_bind ?_
  refine zz_callSr F (ρ := []) (so := fun q2 => [zi q2]) (Mo := fun q2 => [s0_1, s1]) (zfMO_in a1 ((s1 0 0 10) + (1 : Int32)) ((s1 0 0 10) + (24 : Int32))) dX11_nominate_25 wcRX11_20 wy_yX11_in rfl ⟨rel14, rfl, rfl, Nat.le_of_ble_eq_true rfl, Nat.le_of_ble_eq_true rfl, Nat.le_of_ble_eq_true rfl⟩ rfl (fun _ => rfl) (fun _ => rfl) fun q2 => ?_
  refine zz_if_eq F (tgt := 42) dX11_nominate_28 (by decide) (fun h => zz_t h ?_) (fun h => zz_f h ?_)
  · refine zz_aload_n F (i := 0) dX11_nominate_42 rfl rfl ?_
    refine zz_iconst F (v := (1 : Int32)) dX11_nominate_43 (by decide) ?_
    refine zz_bind ?_
    refine zz_callVr F (ρ := [0, 1]) (so := fun q3 => [zi q3.1]) (Mo := fun q3 => [q3.2, s1]) (zfMO_no (1 : Int32) s0_1 s1) dX11_nominate_44 wcRX11_40 wy_yX11_no rfl ⟨rel15, rfl, rfl, Nat.le_of_ble_eq_true rfl, Nat.le_of_ble_eq_true rfl, Nat.le_of_ble_eq_true rfl⟩ (⟨zlb rfl, zlb rfl, zlb rfl⟩) rfl rfl rfl (fun _ => rfl) (fun _ => rfl) fun q3 => ?_
    exact zz_ireturn F dX11_nominate_47 rfl (hκ _)
  · refine zz_iload_n F (i := 2) dX11_nominate_31 rfl rfl ?_
    refine zz_iconst F (v := (0 : Int32)) dX11_nominate_32 (by decide) ?_
    refine zz_sipush F (v := (20000 : Int32)) dX11_nominate_33 (by decide) ?_
    refine zz_bind ?_
    refine zz_callSr F (ρ := []) (so := fun q4 => [zi q4]) (Mo := fun q4 => [s0_1, s1]) (zfMO_in a2 (0 : Int32) (20000 : Int32)) dX11_nominate_36 wcRX11_20 wy_yX11_in rfl ⟨rel14, rfl, rfl, Nat.le_of_ble_eq_true rfl, Nat.le_of_ble_eq_true rfl, Nat.le_of_ble_eq_true rfl⟩ rfl (fun _ => rfl) (fun _ => rfl) fun q4 => ?_
    refine zz_if_ne F (tgt := 48) dX11_nominate_39 (by decide) (fun h => zz_f h ?_) (fun h => zz_t h ?_)
    · refine zz_aload_n F (i := 0) dX11_nominate_48 rfl rfl ?_
      refine zz_getr F dX11_nominate_49 wfRX11_10 zCl_10 rfl (⟨zlb rfl, zlb rfl, zlb rfl⟩) rfl (by decide) rfl (r' := 1) (by decide) ?_
      refine zz_getr F dX11_nominate_52 wfRX11_66 zCl_9 rfl (⟨zlb rfl, zlb rfl, zlb rfl⟩) rfl (by decide) rfl (r' := 1) (by decide) ?_
      refine zz_iload_n F (i := 1) dX11_nominate_55 rfl rfl ?_
      refine zz_bipush F (v := (32 : Int32)) dX11_nominate_56 (by decide) ?_
      refine zz_irem F dX11_nominate_58 (by decide) ?_
      refine zz_iload_n F (i := 1) dX11_nominate_59 rfl rfl ?_
      refine zz_ix fun j5 hj5 hinj5 hej5 => zz_ias F (Ms' := [s0_1, (zu s1 5 0 j5 a1)]) dX11_nominate_60 rfl (⟨zlb rfl, zlb rfl, zlb rfl⟩) rfl hinj5 hej5 rfl ?_
      refine zz_letm (Mf := fun s1_6 => [s0_1, s1_6]) fun s1_6 => ?_
      refine zz_aload_n F (i := 0) dX11_nominate_61 rfl rfl ?_
      refine zz_getr F dX11_nominate_62 wfRX11_10 zCl_10 rfl (⟨zlb rfl, zlb rfl, zlb rfl⟩) rfl (by decide) rfl (r' := 1) (by decide) ?_
      refine zz_getr F dX11_nominate_65 wfRX11_70 zCl_9 rfl (⟨zlb rfl, zlb rfl, zlb rfl⟩) rfl (by decide) rfl (r' := 1) (by decide) ?_
      refine zz_iload_n F (i := 1) dX11_nominate_68 rfl rfl ?_
      refine zz_bipush F (v := (32 : Int32)) dX11_nominate_69 (by decide) ?_
      refine zz_irem F dX11_nominate_71 (by decide) ?_
      refine zz_iload_n F (i := 2) dX11_nominate_72 rfl rfl ?_
      refine zz_ix fun j7 hj7 hinj7 hej7 => zz_ias F (Ms' := [s0_1, (zu s1_6 6 0 j7 a2)]) dX11_nominate_73 rfl (⟨zlb rfl, zlb rfl, zlb rfl⟩) rfl hinj7 hej7 rfl ?_
      refine zz_letm (Mf := fun s1_8 => [s0_1, s1_8]) fun s1_8 => ?_
      refine zz_aload_n F (i := 0) dX11_nominate_74 rfl rfl ?_
      refine zz_getr F dX11_nominate_75 wfRX11_10 zCl_10 rfl (⟨zlb rfl, zlb rfl, zlb rfl⟩) rfl (by decide) rfl (r' := 1) (by decide) ?_
      refine zz_bind ?_
      refine zz_callVr F (ρ := [1]) (so := fun q9 => [zi q9]) (Mo := fun q9 => [s0_1, s1_8]) (zfMS_toCome s1_8) dX11_nominate_78 wcRX11_73 wy_yX10_toCome rfl ⟨rel16, rfl, rfl, Nat.le_of_ble_eq_true rfl, Nat.le_of_ble_eq_true rfl, Nat.le_of_ble_eq_true rfl⟩ (⟨zlb rfl, zlb rfl, zlb rfl⟩) rfl rfl rfl (fun _ => rfl) (fun _ => rfl) fun q9 => ?_
      exact zz_ireturn F dX11_nominate_81 rfl (hκ _)
    · refine zz_aload_n F (i := 0) dX11_nominate_42 rfl rfl ?_
      refine zz_iconst F (v := (1 : Int32)) dX11_nominate_43 (by decide) ?_
      refine zz_bind ?_
      refine zz_callVr F (ρ := [0, 1]) (so := fun q10 => [zi q10.1]) (Mo := fun q10 => [q10.2, s1]) (zfMO_no (1 : Int32) s0_1 s1) dX11_nominate_44 wcRX11_40 wy_yX11_no rfl ⟨rel15, rfl, rfl, Nat.le_of_ble_eq_true rfl, Nat.le_of_ble_eq_true rfl, Nat.le_of_ble_eq_true rfl⟩ (⟨zlb rfl, zlb rfl, zlb rfl⟩) rfl rfl rfl (fun _ => rfl) (fun _ => rfl) fun q10 => ?_
      exact zz_ireturn F dX11_nominate_47 rfl (hκ _)
theorem zfMO_nominate (a1 : Int32) (a2 : Int32)  (s0 : zM) (s1 : zM) : ∀ a, fMO_nominate a1 a2 s0 s1 = some a → zMet yX11_nominate cX11_nominate 3 (some .int) 1 22 [(4, [1]), (3, [])] [zr 0 0 0, zi a1, zi a2] [s0, s1] ((fun a => ((.inl ((fun q => some (zi q.1)) a), (fun q => [q.2.1, q.2.2]) a) : zO)) a) := fun a ha => zMet_of (L0 := [some (zr 0 0 0), some (zi a1), some (zi a2)]) (φ := Option.bind (fMO_nominate a1 a2 s0 s1) (fun a => some ((fun a => ((.inl ((fun q => some (zi q.1)) a), (fun q => [q.2.1, q.2.2]) a) : zO)) a))) (by decide) (fun _ => Nat.le_of_ble_eq_true rfl) (zl0 0 rfl) (fun X F => bfMO_nominate F a1 a2 s0 s1 (fun _ => rfl)) (by rw [ha]; rfl)
