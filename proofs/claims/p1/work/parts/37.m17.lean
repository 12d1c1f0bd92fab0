theorem dX11_many_0 : decode cX11_many 0 = .ok (.aload_n 0, 1) := by decide +kernel
theorem dX11_many_1 : decode cX11_many 1 = .ok (.iconst 0, 1) := by decide +kernel
theorem dX11_many_2 : decode cX11_many 2 = .ok (.putfield 16, 3) := by decide +kernel
theorem dX11_many_5 : decode cX11_many 5 = .ok (.iload_n 1, 1) := by decide +kernel
theorem dX11_many_6 : decode cX11_many 6 = .ok (.iconst 0, 1) := by decide +kernel
theorem dX11_many_7 : decode cX11_many 7 = .ok (.bipush 13, 2) := by decide +kernel
theorem dX11_many_9 : decode cX11_many 9 = .ok (.invokestatic 20, 3) := by decide +kernel
theorem dX11_many_12 : decode cX11_many 12 = .ok (.ifCond .ne 9, 3) := by decide +kernel
theorem dX11_many_15 : decode cX11_many 15 = .ok (.aload_n 0, 1) := by decide +kernel
theorem dX11_many_16 : decode cX11_many 16 = .ok (.iconst 1, 1) := by decide +kernel
theorem dX11_many_17 : decode cX11_many 17 = .ok (.invokevirtual 40, 3) := by decide +kernel
theorem dX11_many_20 : decode cX11_many 20 = .ok (.ireturn, 1) := by decide +kernel
theorem dX11_many_21 : decode cX11_many 21 = .ok (.aload_n 0, 1) := by decide +kernel
theorem dX11_many_22 : decode cX11_many 22 = .ok (.iload_n 1, 1) := by decide +kernel
theorem dX11_many_23 : decode cX11_many 23 = .ok (.invokevirtual 153, 3) := by decide +kernel
theorem dX11_many_26 : decode cX11_many 26 = .ok (.ireturn, 1) := by decide +kernel
theorem wcRX11_153 : Cond.methodLink RX11 153 yX11_manyNow ∈ zTg ∧ Cond.instanceMethod yX11_manyNow ∈ zTg ∧ Cond.selects RX11 yX11_manyNow yX11_manyNow ∈ zTg ∧ Cond.initialized RX11 ∈ zTg ∧ Cond.code yX11_manyNow cX11_manyNow 2 (some .int) ∈ zTg := ⟨zm_f 1263 (by decide +kernel) rfl, zm_f 1265 (by decide +kernel) rfl, zm_f 33 (by decide +kernel) rfl, zm_f 46 (by decide +kernel) rfl, zm_f 1266 (by decide +kernel) rfl⟩
theorem wy_yX11_manyNow : yX11_manyNow.cls = RX11 ∧ yX11_manyNow.cls ≠ "java/lang/invoke/MethodHandle" ∧ yX11_manyNow.cls ≠ "java/lang/invoke/VarHandle" ∧ (parseMethodDescriptor yX11_manyNow.desc).map (fun d => d.parameters.length) = some 1 := by decide +kernel
def fMO_many (a1 : Int32) (s0 : zM) (s1 : zM) : Option (Int32 × zM) :=
  zlet (zu s0 0 0 0 (0 : Int32)) fun s0_1 =>
  Option.bind (fMO_in a1 (0 : Int32) (13 : Int32)) fun q2 =>
  if q2 = 0 then
  Option.bind (fMO_no (1 : Int32) s0_1 s1) fun q4 =>
    some (q4.1, q4.2)
else
  Option.bind (fMO_manyNow a1 s0_1 s1) fun q3 =>
    some (q3, s0_1)
set_option maxHeartbeats 4000000 in
set_option maxRecDepth 20000 in
theorem bfMO_many {X : zX} (F : zFr X cX11_many 2 RX11 (some .int)) (a1 : Int32)  (s0 : zM) (s1 : zM) {κ : Int32 × zM → Option zO} (hκ : ∀ a, κ a = some ((fun a => ((.inl ((fun q => some (zi q.1)) a), (fun q => [q.2, s1]) a) : zO)) a)) : zZ X [(4, [1]), (3, [])] 2 44 2 0 [some (zr 0 0 0), some (zi a1)] [] [s0, s1] (Option.bind (fMO_many a1 s0 s1) κ) := by
  unfold fMO_many
  refine zz_aload_n F (i := 0) dX11_many_0 rfl rfl ?_
  refine zz_iconst F (v := (0 : Int32)) dX11_many_1 (by decide) ?_
  refine zz_put F (Ms' := [(zu s0 0 0 0 (0 : Int32)), s1]) dX11_many_2 wpRX11_16 zCl_10 rfl (⟨zlb rfl, zlb rfl, zlb rfl⟩) rfl (by decide) rfl rfl rfl ?_
  refine zz_letm (Mf := fun s0_1 => [s0_1, s1]) fun s0_1 => ?_
  refine zz_iload_n F (i := 1) dX11_many_5 rfl rfl ?_
  refine zz_iconst F (v := (0 : Int32)) dX11_many_6 (by decide) ?_
  refine zz_bipush F (v := (13 : Int32)) dX11_many_7 (by decide) ?_
  refine zz_bind ?_
  refine zz_callSr F (ρ := []) (so := fun q2 => [zi q2]) (Mo := fun q2 => [s0_1, s1]) (zfMO_in a1 (0 : Int32) (13 : Int32)) dX11_many_9 wcRX11_20 wy_yX11_in rfl ⟨rel14, rfl, rfl, Nat.le_of_ble_eq_true rfl, Nat.le_of_ble_eq_true rfl, Nat.le_of_ble_eq_true rfl⟩ rfl (fun _ => rfl) (fun _ => rfl) fun q2 => ?_
  refine zz_if_ne F (tgt := 21) dX11_many_12 (by decide) (fun h => zz_f h ?_) (fun h => zz_t h ?_)
  · refine zz_aload_n F (i := 0) dX11_many_21 rfl rfl ?_
    refine zz_iload_n F (i := 1) dX11_many_22 rfl rfl ?_
    refine zz_bind ?_
    refine zz_callVr F (ρ := [0, 1]) (so := fun q3 => [zi q3]) (Mo := fun q3 => [s0_1, s1]) (zfMO_manyNow a1 s0_1 s1) dX11_many_23 wcRX11_153 wy_yX11_manyNow rfl ⟨rel15, rfl, rfl, Nat.le_of_ble_eq_true rfl, Nat.le_of_ble_eq_true rfl, Nat.le_of_ble_eq_true rfl⟩ (⟨zlb rfl, zlb rfl, zlb rfl⟩) rfl rfl rfl (fun _ => rfl) (fun _ => rfl) fun q3 => ?_
    exact zz_ireturn F dX11_many_26 rfl (hκ _)
  · refine zz_aload_n F (i := 0) dX11_many_15 rfl rfl ?_
    refine zz_iconst F (v := (1 : Int32)) dX11_many_16 (by decide) ?_
    refine zz_bind ?_
    refine zz_callVr F (ρ := [0, 1]) (so := fun q4 => [zi q4.1]) (Mo := fun q4 => [q4.2, s1]) (zfMO_no (1 : Int32) s0_1 s1) dX11_many_17 wcRX11_40 wy_yX11_no rfl ⟨rel15, rfl, rfl, Nat.le_of_ble_eq_true rfl, Nat.le_of_ble_eq_true rfl, Nat.le_of_ble_eq_true rfl⟩ (⟨zlb rfl, zlb rfl, zlb rfl⟩) rfl rfl rfl (fun _ => rfl) (fun _ => rfl) fun q4 => ?_
    exact zz_ireturn F dX11_many_20 rfl (hκ _)
theorem zfMO_many (a1 : Int32)  (s0 : zM) (s1 : zM) : ∀ a, fMO_many a1 s0 s1 = some a → zMet yX11_many cX11_many 2 (some .int) 2 44 [(4, [1]), (3, [])] [zr 0 0 0, zi a1] [s0, s1] ((fun a => ((.inl ((fun q => some (zi q.1)) a), (fun q => [q.2, s1]) a) : zO)) a) := fun a ha => zMet_of (L0 := [some (zr 0 0 0), some (zi a1)]) (φ := Option.bind (fMO_many a1 s0 s1) (fun a => some ((fun a => ((.inl ((fun q => some (zi q.1)) a), (fun q => [q.2, s1]) a) : zO)) a))) (by decide) (fun _ => Nat.le_of_ble_eq_true rfl) (zl0 0 rfl) (fun X F => bfMO_many F a1 s0 s1 (fun _ => rfl)) (by rw [ha]; rfl)

theorem dX11_wakeAt_0 : decode cX11_wakeAt 0 = .ok (.iload_n 0, 1) := by decide +kernel
theorem dX11_wakeAt_1 : decode cX11_wakeAt 1 = .ok (.bipush 20, 2) := by decide +kernel
theorem dX11_wakeAt_3 : decode cX11_wakeAt 3 = .ok (.idiv, 1) := by decide +kernel
theorem dX11_wakeAt_4 : decode cX11_wakeAt 4 = .ok (.iload_n 0, 1) := by decide +kernel
theorem dX11_wakeAt_5 : decode cX11_wakeAt 5 = .ok (.bipush 20, 2) := by decide +kernel
theorem dX11_wakeAt_7 : decode cX11_wakeAt 7 = .ok (.irem, 1) := by decide +kernel
theorem dX11_wakeAt_8 : decode cX11_wakeAt 8 = .ok (.iload_n 1, 1) := by decide +kernel
theorem dX11_wakeAt_9 : decode cX11_wakeAt 9 = .ok (.bipush 20, 2) := by decide +kernel
theorem dX11_wakeAt_11 : decode cX11_wakeAt 11 = .ok (.idiv, 1) := by decide +kernel
theorem dX11_wakeAt_12 : decode cX11_wakeAt 12 = .ok (.iload_n 1, 1) := by decide +kernel
theorem dX11_wakeAt_13 : decode cX11_wakeAt 13 = .ok (.bipush 20, 2) := by decide +kernel
theorem dX11_wakeAt_15 : decode cX11_wakeAt 15 = .ok (.irem, 1) := by decide +kernel
theorem dX11_wakeAt_16 : decode cX11_wakeAt 16 = .ok (.iconst 0, 1) := by decide +kernel
theorem dX11_wakeAt_17 : decode cX11_wakeAt 17 = .ok (.iload_n 2, 1) := by decide +kernel
theorem dX11_wakeAt_18 : decode cX11_wakeAt 18 = .ok (.invokestatic 168, 3) := by decide +kernel
theorem dX11_wakeAt_21 : decode cX11_wakeAt 21 = .ok (.ireturn, 1) := by decide +kernel
theorem wcRX11_168 : Cond.methodLink RX11 168 yX10_deficit ∈ zTg ∧ Cond.static yX10_deficit ∈ zTg ∧ Cond.initialized yX10_deficit.cls ∈ zTg ∧ Cond.code yX10_deficit cX10_deficit 10 (some .int) ∈ zTg := ⟨zm_f 1305 (by decide +kernel) rfl, zm_f 1135 (by decide +kernel) rfl, zm_f 47 (by decide +kernel) rfl, zm_f 1136 (by decide +kernel) rfl⟩
def fMO_wakeAt (a0 : Int32) (a1 : Int32) (a2 : Int32)  : Option (Int32) :=
  Option.bind (fMS_deficit6 (a0 / (20 : Int32)) (a0 % (20 : Int32)) (a1 / (20 : Int32)) (a1 % (20 : Int32)) (0 : Int32) a2) fun q1 =>
  some q1
set_option maxHeartbeats 4000000 in
set_option maxRecDepth 20000 in
theorem bfMO_wakeAt {X : zX} (F : zFr X cX11_wakeAt 3 RX11 (some .int)) (a0 : Int32) (a1 : Int32) (a2 : Int32)   {κ : Int32 → Option zO} (hκ : ∀ a, κ a = some ((fun a => ((.inl ((fun q => some (zi q)) a), (fun _ => []) a) : zO)) a)) : zZ X [] 2 52 3 0 [some (zi a0), some (zi a1), some (zi a2)] [] [] (Option.bind (fMO_wakeAt a0 a1 a2) κ) := by
  unfold fMO_wakeAt
  refine zz_iload_n F (i := 0) dX11_wakeAt_0 rfl rfl ?_
  refine zz_bipush F (v := (20 : Int32)) dX11_wakeAt_1 (by decide) ?_
  refine zz_idiv F dX11_wakeAt_3 (by decide) ?_
  refine zz_iload_n F (i := 0) dX11_wakeAt_4 rfl rfl ?_
  refine zz_bipush F (v := (20 : Int32)) dX11_wakeAt_5 (by decide) ?_
  refine zz_irem F dX11_wakeAt_7 (by decide) ?_
  refine zz_iload_n F (i := 1) dX11_wakeAt_8 rfl rfl ?_
  refine zz_bipush F (v := (20 : Int32)) dX11_wakeAt_9 (by decide) ?_
  refine zz_idiv F dX11_wakeAt_11 (by decide) ?_
  refine zz_iload_n F (i := 1) dX11_wakeAt_12 rfl rfl ?_
  refine zz_bipush F (v := (20 : Int32)) dX11_wakeAt_13 (by decide) ?_
  refine zz_irem F dX11_wakeAt_15 (by decide) ?_
  refine zz_iconst F (v := (0 : Int32)) dX11_wakeAt_16 (by decide) ?_
  refine zz_iload_n F (i := 2) dX11_wakeAt_17 rfl rfl ?_
  refine zz_bind ?_
  refine zz_callSr F (ρ := []) (so := fun q1 => [zi q1]) (Mo := fun q1 => []) (zfMS_deficit6 (a0 / (20 : Int32)) (a0 % (20 : Int32)) (a1 / (20 : Int32)) (a1 % (20 : Int32)) (0 : Int32) a2) dX11_wakeAt_18 wcRX11_168 wy_yX10_deficit rfl ⟨rel5, rfl, rfl, Nat.le_of_ble_eq_true rfl, Nat.le_of_ble_eq_true rfl, Nat.le_of_ble_eq_true rfl⟩ rfl (fun _ => rfl) (fun _ => rfl) fun q1 => ?_
  exact zz_ireturn F dX11_wakeAt_21 rfl (hκ _)
theorem zfMO_wakeAt (a0 : Int32) (a1 : Int32) (a2 : Int32)   : ∀ a, fMO_wakeAt a0 a1 a2 = some a → zMet yX11_wakeAt cX11_wakeAt 3 (some .int) 2 52 [] [zi a0, zi a1, zi a2] [] ((fun a => ((.inl ((fun q => some (zi q)) a), (fun _ => []) a) : zO)) a) := fun a ha => zMet_of (L0 := [some (zi a0), some (zi a1), some (zi a2)]) (φ := Option.bind (fMO_wakeAt a0 a1 a2) (fun a => some ((fun a => ((.inl ((fun q => some (zi q)) a), (fun _ => []) a) : zO)) a))) (by decide) (fun _ => Nat.le_of_ble_eq_true rfl) (zl0 0 rfl) (fun X F => bfMO_wakeAt F a0 a1 a2 (fun _ => rfl)) (by rw [ha]; rfl)

theorem dX11_powers_0 : decode cX11_powers 0 = .ok (.iconst 0, 1) := by decide +kernel
theorem dX11_powers_1 : decode cX11_powers 1 = .ok (.istore_n 2, 1) := by decide +kernel
theorem dX11_powers_2 : decode cX11_powers 2 = .ok (.aload_n 0, 1) := by decide +kernel
theorem dX11_powers_3 : decode cX11_powers 3 = .ok (.astore_n 3, 1) := by decide +kernel
theorem dX11_powers_4 : decode cX11_powers 4 = .ok (.aload_n 3, 1) := by decide +kernel
theorem dX11_powers_5 : decode cX11_powers 5 = .ok (.arraylength, 1) := by decide +kernel
theorem dX11_powers_6 : decode cX11_powers 6 = .ok (.istore 4, 2) := by decide +kernel
theorem dX11_powers_8 : decode cX11_powers 8 = .ok (.iconst 0, 1) := by decide +kernel
theorem dX11_powers_9 : decode cX11_powers 9 = .ok (.istore 5, 2) := by decide +kernel
theorem dX11_powers_11 : decode cX11_powers 11 = .ok (.iload 5, 2) := by decide +kernel
theorem dX11_powers_13 : decode cX11_powers 13 = .ok (.iload 4, 2) := by decide +kernel
theorem dX11_powers_15 : decode cX11_powers 15 = .ok (.if_icmp .ge 119, 3) := by decide +kernel
theorem dX11_powers_18 : decode cX11_powers 18 = .ok (.aload_n 3, 1) := by decide +kernel
theorem dX11_powers_19 : decode cX11_powers 19 = .ok (.iload 5, 2) := by decide +kernel
theorem dX11_powers_21 : decode cX11_powers 21 = .ok (.iaload, 1) := by decide +kernel
theorem dX11_powers_22 : decode cX11_powers 22 = .ok (.istore 6, 2) := by decide +kernel
theorem dX11_powers_24 : decode cX11_powers 24 = .ok (.iconst 0, 1) := by decide +kernel
theorem dX11_powers_25 : decode cX11_powers 25 = .ok (.istore 7, 2) := by decide +kernel
theorem dX11_powers_27 : decode cX11_powers 27 = .ok (.iconst 0, 1) := by decide +kernel
theorem dX11_powers_28 : decode cX11_powers 28 = .ok (.istore 8, 2) := by decide +kernel
theorem dX11_powers_30 : decode cX11_powers 30 = .ok (.aload_n 0, 1) := by decide +kernel
theorem dX11_powers_31 : decode cX11_powers 31 = .ok (.astore 9, 2) := by decide +kernel
theorem dX11_powers_33 : decode cX11_powers 33 = .ok (.aload 9, 2) := by decide +kernel
theorem dX11_powers_35 : decode cX11_powers 35 = .ok (.arraylength, 1) := by decide +kernel
theorem dX11_powers_36 : decode cX11_powers 36 = .ok (.istore 10, 2) := by decide +kernel
theorem dX11_powers_38 : decode cX11_powers 38 = .ok (.iconst 0, 1) := by decide +kernel
theorem dX11_powers_39 : decode cX11_powers 39 = .ok (.istore 11, 2) := by decide +kernel
theorem dX11_powers_41 : decode cX11_powers 41 = .ok (.iload 11, 2) := by decide +kernel
theorem dX11_powers_43 : decode cX11_powers 43 = .ok (.iload 10, 2) := by decide +kernel
theorem dX11_powers_45 : decode cX11_powers 45 = .ok (.if_icmp .ge 53, 3) := by decide +kernel
theorem dX11_powers_48 : decode cX11_powers 48 = .ok (.aload 9, 2) := by decide +kernel
theorem dX11_powers_50 : decode cX11_powers 50 = .ok (.iload 11, 2) := by decide +kernel
theorem dX11_powers_52 : decode cX11_powers 52 = .ok (.iaload, 1) := by decide +kernel
theorem dX11_powers_53 : decode cX11_powers 53 = .ok (.istore 12, 2) := by decide +kernel
theorem dX11_powers_55 : decode cX11_powers 55 = .ok (.iload 12, 2) := by decide +kernel
theorem dX11_powers_57 : decode cX11_powers 57 = .ok (.iload 6, 2) := by decide +kernel
theorem dX11_powers_59 : decode cX11_powers 59 = .ok (.if_icmp .ne 7, 3) := by decide +kernel
theorem dX11_powers_62 : decode cX11_powers 62 = .ok (.iconst 0, 1) := by decide +kernel
theorem dX11_powers_63 : decode cX11_powers 63 = .ok (.goto 11, 3) := by decide +kernel
theorem dX11_powers_66 : decode cX11_powers 66 = .ok (.iload 6, 2) := by decide +kernel
theorem dX11_powers_68 : decode cX11_powers 68 = .ok (.iload 12, 2) := by decide +kernel
theorem dX11_powers_70 : decode cX11_powers 70 = .ok (.iload_n 1, 1) := by decide +kernel
theorem dX11_powers_71 : decode cX11_powers 71 = .ok (.invokestatic 175, 3) := by decide +kernel
theorem dX11_powers_74 : decode cX11_powers 74 = .ok (.istore 13, 2) := by decide +kernel
theorem dX11_powers_76 : decode cX11_powers 76 = .ok (.iload 8, 2) := by decide +kernel
theorem dX11_powers_78 : decode cX11_powers 78 = .ok (.iload 13, 2) := by decide +kernel
theorem dX11_powers_80 : decode cX11_powers 80 = .ok (.iadd, 1) := by decide +kernel
theorem dX11_powers_81 : decode cX11_powers 81 = .ok (.istore 8, 2) := by decide +kernel
theorem dX11_powers_83 : decode cX11_powers 83 = .ok (.iload 7, 2) := by decide +kernel
theorem dX11_powers_85 : decode cX11_powers 85 = .ok (.iload 13, 2) := by decide +kernel
theorem dX11_powers_87 : decode cX11_powers 87 = .ok (.invokestatic 162, 3) := by decide +kernel
theorem dX11_powers_90 : decode cX11_powers 90 = .ok (.istore 7, 2) := by decide +kernel
theorem dX11_powers_92 : decode cX11_powers 92 = .ok (.iinc 11 1, 3) := by decide +kernel
theorem dX11_powers_95 : decode cX11_powers 95 = .ok (.goto (-54), 3) := by decide +kernel
theorem dX11_powers_98 : decode cX11_powers 98 = .ok (.iload_n 2, 1) := by decide +kernel
theorem dX11_powers_99 : decode cX11_powers 99 = .ok (.bipush 10, 2) := by decide +kernel
theorem dX11_powers_101 : decode cX11_powers 101 = .ok (.bipush 100, 2) := by decide +kernel
theorem dX11_powers_103 : decode cX11_powers 103 = .ok (.bipush 60, 2) := by decide +kernel
theorem dX11_powers_105 : decode cX11_powers 105 = .ok (.iload 7, 2) := by decide +kernel
theorem dX11_powers_107 : decode cX11_powers 107 = .ok (.iload 8, 2) := by decide +kernel
theorem dX11_powers_109 : decode cX11_powers 109 = .ok (.iload 7, 2) := by decide +kernel
theorem dX11_powers_111 : decode cX11_powers 111 = .ok (.isub, 1) := by decide +kernel
theorem dX11_powers_112 : decode cX11_powers 112 = .ok (.iconst 2, 1) := by decide +kernel
theorem dX11_powers_113 : decode cX11_powers 113 = .ok (.idiv, 1) := by decide +kernel
theorem dX11_powers_114 : decode cX11_powers 114 = .ok (.iadd, 1) := by decide +kernel
theorem dX11_powers_115 : decode cX11_powers 115 = .ok (.invokestatic 24, 3) := by decide +kernel
theorem dX11_powers_118 : decode cX11_powers 118 = .ok (.isub, 1) := by decide +kernel
theorem dX11_powers_119 : decode cX11_powers 119 = .ok (.imul, 1) := by decide +kernel
theorem dX11_powers_120 : decode cX11_powers 120 = .ok (.bipush 100, 2) := by decide +kernel
theorem dX11_powers_122 : decode cX11_powers 122 = .ok (.idiv, 1) := by decide +kernel
theorem dX11_powers_123 : decode cX11_powers 123 = .ok (.invokestatic 179, 3) := by decide +kernel
theorem dX11_powers_126 : decode cX11_powers 126 = .ok (.iadd, 1) := by decide +kernel
theorem dX11_powers_127 : decode cX11_powers 127 = .ok (.istore_n 2, 1) := by decide +kernel
theorem dX11_powers_128 : decode cX11_powers 128 = .ok (.iinc 5 1, 3) := by decide +kernel
theorem dX11_powers_131 : decode cX11_powers 131 = .ok (.goto (-120), 3) := by decide +kernel
theorem dX11_powers_134 : decode cX11_powers 134 = .ok (.iload_n 2, 1) := by decide +kernel
theorem dX11_powers_135 : decode cX11_powers 135 = .ok (.ireturn, 1) := by decide +kernel
theorem wcRX11_175 : Cond.methodLink RX11 175 yX11_wakeAt ∈ zTg ∧ Cond.static yX11_wakeAt ∈ zTg ∧ Cond.initialized yX11_wakeAt.cls ∈ zTg ∧ Cond.code yX11_wakeAt cX11_wakeAt 3 (some .int) ∈ zTg := ⟨zm_f 1302 (by decide +kernel) rfl, zm_f 1303 (by decide +kernel) rfl, zm_f 46 (by decide +kernel) rfl, zm_f 1304 (by decide +kernel) rfl⟩
theorem wy_yX11_wakeAt : yX11_wakeAt.cls ≠ "java/lang/invoke/MethodHandle" ∧ yX11_wakeAt.cls ≠ "java/lang/invoke/VarHandle" ∧ (parseMethodDescriptor yX11_wakeAt.desc).map (fun d => d.parameters.length) = some 3 := by decide +kernel
theorem rel19 : zRel [] [(5, [])] [] := by unfold zRel; decide
theorem wmRX11_162 : Cond.methodLink RX11 162 Lib.Math.max.name ∈ zTg := zm_f 1294 (by decide +kernel) rfl
theorem wcRX11_179 : Cond.methodLink RX11 179 yX11_power ∈ zTg ∧ Cond.static yX11_power ∈ zTg ∧ Cond.initialized yX11_power.cls ∈ zTg ∧ Cond.code yX11_power cX11_power 1 (some .int) ∈ zTg := ⟨zm_f 1306 (by decide +kernel) rfl, zm_f 1148 (by decide +kernel) rfl, zm_f 46 (by decide +kernel) rfl, zm_f 1149 (by decide +kernel) rfl⟩
def fMO_powers_l41 (a1 : Int32) (s0 : zM) (v4 : Int32) (q5 : Int32 × Int32 × Int32) : Option ((Int32 × Int32 × Int32) ⊕ ((Int32 × Int32))) :=
  if (1 : Int32) ≤ q5.2.2 then
  some (.inr (q5.1, q5.2.1))
else
  zix q5.2.2 1 fun j7 =>
    zlet ((s0 0 0 j7)) fun v8 =>
    Option.bind (if v8 = v4 then
    some (0 : Int32)
  else
    Option.bind (fMO_wakeAt v4 v8 a1) fun q13 =>
      some q13) fun q9 =>
    zlet ((q5.2.1 + q9)) fun v14 =>
    zlet ((zmax q5.1 q9)) fun v15 =>
    zlet (q5.2.2 + 1) fun v16 =>
    some (.inl (v15, v14, v16))
def fMO_powers_l11 (a1 : Int32) (s0 : zM) (q1 : Int32 × Int32) : Option ((Int32 × Int32) ⊕ ((Int32))) :=
  if (1 : Int32) ≤ q1.2 then
  some (.inr q1.1)
else
  zix q1.2 1 fun j3 =>
    zlet ((s0 0 0 j3)) fun v4 =>
    Option.bind (ziter (fMO_powers_l41 a1 s0 v4) 1000 ((0 : Int32), (0 : Int32), (0 : Int32))) fun q6 =>
    Option.bind (fMO_power (((10 : Int32) * ((100 : Int32) - (zmin (60 : Int32) (q6.1 + ((q6.2 - q6.1) / (2 : Int32)))))) / (100 : Int32))) fun q17 =>
    zlet ((q1.1 + q17)) fun v18 =>
    zlet (q1.2 + 1) fun v19 =>
    some (.inl (v18, v19))
def fMO_powers (a1 : Int32) (s0 : zM) : Option (Int32) :=
  Option.bind (ziter (fMO_powers_l11 a1 s0) 1000 ((0 : Int32), (0 : Int32))) fun q2 =>
  some q2
set_option maxHeartbeats 4000000 in
set_option maxRecDepth 20000 in
theorem bfMO_powers_l41 {X : zX} (F : zFr X cX11_powers 14 RX11 (some .int)) (a1 : Int32) (s0 : zM) (v4 : Int32) (q1 : (Int32 × Int32))  {ψ : (Int32 × Int32 × Int32) ⊕ ((Int32 × Int32)) → Option zO} (h1 : ∀ q5 : Int32 × Int32 × Int32, zZ X [(5, [])] 3 74 14 41 [some (zr 0 0 0), some (zi a1), some (zi q1.1), some (zr 0 0 0), some (zi (1 : Int32)), some (zi q1.2), some (zi v4), some (zi q5.1), some (zi q5.2.1), some (zr 0 0 0), some (zi (1 : Int32)), some (zi q5.2.2), none, none] [] [s0] (ψ (.inl q5))) (h2 : ∀ q6 : Int32 × Int32, zZ X [(5, [])] 3 74 14 98 [some (zr 0 0 0), some (zi a1), some (zi q1.1), some (zr 0 0 0), some (zi (1 : Int32)), some (zi q1.2), none, some (zi q6.1), some (zi q6.2), none, none, none, none, none] [] [s0] (ψ (.inr q6))) (q5 : Int32 × Int32 × Int32) : zZ X [(5, [])] 3 74 14 41 [some (zr 0 0 0), some (zi a1), some (zi q1.1), some (zr 0 0 0), some (zi (1 : Int32)), some (zi q1.2), some (zi v4), some (zi q5.1), some (zi q5.2.1), some (zr 0 0 0), some (zi (1 : Int32)), some (zi q5.2.2), none, none] [] [s0] (Option.bind (fMO_powers_l41 a1 s0 v4 q5) ψ) := by
  unfold fMO_powers_l41
  refine zz_iload F (i := 11) dX11_powers_41 rfl ?_
  refine zz_iload F (i := 10) dX11_powers_43 rfl ?_
  refine zz_icmp_ge F (tgt := 98) dX11_powers_45 (by decide) (fun h => zz_t h ?_) (fun h => zz_f h ?_)
  · exact zz_sub (zs_k (zs_k (zs_k (zs_k (zs_k (zs_k (zs_n (zs_k (zs_k (zs_n (zs_n (zs_n (zs_k (zs_k zs_z)))))))))))))) (h2 (q5.1, q5.2.1))
  · refine zz_aload F (i := 9) dX11_powers_48 rfl ?_
    refine zz_iload F (i := 11) dX11_powers_50 rfl ?_
    refine zz_ix fun j7 hj7 hinj7 hej7 => zz_ial F dX11_powers_52 rfl (⟨zlb rfl, zlb rfl, zlb rfl⟩) rfl hinj7 hej7 ?_
    refine zz_istore F (i := 12) (L' := [some (zr 0 0 0), some (zi a1), some (zi q1.1), some (zr 0 0 0), some (zi (1 : Int32)), some (zi q1.2), some (zi v4), some (zi q5.1), some (zi q5.2.1), some (zr 0 0 0), some (zi (1 : Int32)), some (zi q5.2.2), some (zi (s0 0 0 j7)), none]) dX11_powers_53 (by decide) rfl rfl ?_
    refine zz_letl (Lf := fun v8 => [some (zr 0 0 0), some (zi a1), some (zi q1.1), some (zr 0 0 0), some (zi (1 : Int32)), some (zi q1.2), some (zi v4), some (zi q5.1), some (zi q5.2.1), some (zr 0 0 0), some (zi (1 : Int32)), some (zi q5.2.2), some (zi v8), none]) fun v8 => ?_
    refine zz_iload F (i := 12) dX11_powers_55 rfl ?_
    refine zz_iload F (i := 6) dX11_powers_57 rfl ?_
    refine zz_join (pj := 74) (Lj := fun q9 => [some (zr 0 0 0), some (zi a1), some (zi q1.1), some (zr 0 0 0), some (zi (1 : Int32)), some (zi q1.2), some (zi v4), some (zi q5.1), some (zi q5.2.1), some (zr 0 0 0), some (zi (1 : Int32)), some (zi q5.2.2), none, none]) (Sj := fun q9 => [zi q9]) (Mj := fun q9 => [s0]) (fun q9 => ?_) (fun κ11 hj10 => ?_)
    · refine zz_istore F (i := 13) (L' := [some (zr 0 0 0), some (zi a1), some (zi q1.1), some (zr 0 0 0), some (zi (1 : Int32)), some (zi q1.2), some (zi v4), some (zi q5.1), some (zi q5.2.1), some (zr 0 0 0), some (zi (1 : Int32)), some (zi q5.2.2), none, some (zi q9)]) dX11_powers_74 (by decide) rfl rfl ?_
      refine zz_iload F (i := 8) dX11_powers_76 rfl ?_
      refine zz_iload F (i := 13) dX11_powers_78 rfl ?_
      refine zz_iadd F dX11_powers_80 ?_
      refine zz_istore F (i := 8) (L' := [some (zr 0 0 0), some (zi a1), some (zi q1.1), some (zr 0 0 0), some (zi (1 : Int32)), some (zi q1.2), some (zi v4), some (zi q5.1), some (zi (q5.2.1 + q9)), some (zr 0 0 0), some (zi (1 : Int32)), some (zi q5.2.2), none, some (zi q9)]) dX11_powers_81 (by decide) rfl rfl ?_
      refine zz_letl (Lf := fun v14 => [some (zr 0 0 0), some (zi a1), some (zi q1.1), some (zr 0 0 0), some (zi (1 : Int32)), some (zi q1.2), some (zi v4), some (zi q5.1), some (zi v14), some (zr 0 0 0), some (zi (1 : Int32)), some (zi q5.2.2), none, some (zi q9)]) fun v14 => ?_
      refine zz_iload F (i := 7) dX11_powers_83 rfl ?_
      refine zz_iload F (i := 13) dX11_powers_85 rfl ?_
      refine zz_max F dX11_powers_87 wmRX11_162 wMath_max (Nat.le_of_ble_eq_true rfl) (Nat.le_of_ble_eq_true rfl) ?_
      refine zz_istore F (i := 7) (L' := [some (zr 0 0 0), some (zi a1), some (zi q1.1), some (zr 0 0 0), some (zi (1 : Int32)), some (zi q1.2), some (zi v4), some (zi (zmax q5.1 q9)), some (zi v14), some (zr 0 0 0), some (zi (1 : Int32)), some (zi q5.2.2), none, some (zi q9)]) dX11_powers_90 (by decide) rfl rfl ?_
      refine zz_letl (Lf := fun v15 => [some (zr 0 0 0), some (zi a1), some (zi q1.1), some (zr 0 0 0), some (zi (1 : Int32)), some (zi q1.2), some (zi v4), some (zi v15), some (zi v14), some (zr 0 0 0), some (zi (1 : Int32)), some (zi q5.2.2), none, some (zi q9)]) fun v15 => ?_
      refine zz_iinc F (i := 11) (v := q5.2.2 + 1) (L' := [some (zr 0 0 0), some (zi a1), some (zi q1.1), some (zr 0 0 0), some (zi (1 : Int32)), some (zi q1.2), some (zi v4), some (zi v15), some (zi v14), some (zr 0 0 0), some (zi (1 : Int32)), some (zi (q5.2.2 + 1)), none, some (zi q9)]) dX11_powers_92 rfl (by first | rfl | decide) (by decide) rfl rfl ?_
      refine zz_letl (Lf := fun v16 => [some (zr 0 0 0), some (zi a1), some (zi q1.1), some (zr 0 0 0), some (zi (1 : Int32)), some (zi q1.2), some (zi v4), some (zi v15), some (zi v14), some (zr 0 0 0), some (zi (1 : Int32)), some (zi v16), none, some (zi q9)]) fun v16 => ?_
      refine zz_goto F (tgt := 41) dX11_powers_95 (by decide) ?_
      exact zz_sub (zs_k (zs_k (zs_k (zs_k (zs_k (zs_k (zs_k (zs_k (zs_k (zs_k (zs_k (zs_k (zs_k (zs_n zs_z)))))))))))))) (h1 (v15, v14, v16))
    · refine zz_icmp_ne F (tgt := 66) dX11_powers_59 (by decide) (fun h => zz_f h ?_) (fun h => zz_t h ?_)
      · refine zz_iload F (i := 6) dX11_powers_66 rfl ?_
        refine zz_iload F (i := 12) dX11_powers_68 rfl ?_
        refine zz_iload_n F (i := 1) dX11_powers_70 rfl rfl ?_
        refine zz_bind ?_
        refine zz_callSr F (ρ := []) (so := fun q13 => [zi q13]) (Mo := fun q13 => [s0]) (zfMO_wakeAt v4 v8 a1) dX11_powers_71 wcRX11_175 wy_yX11_wakeAt rfl ⟨rel19, rfl, rfl, Nat.le_of_ble_eq_true rfl, Nat.le_of_ble_eq_true rfl, Nat.le_of_ble_eq_true rfl⟩ rfl (fun _ => rfl) (fun _ => rfl) fun q13 => ?_
        exact zz_sub (zs_k (zs_k (zs_k (zs_k (zs_k (zs_k (zs_k (zs_k (zs_k (zs_k (zs_k (zs_k (zs_n (zs_k zs_z)))))))))))))) (hj10 q13)
      · refine zz_iconst F (v := (0 : Int32)) dX11_powers_62 (by decide) ?_
        refine zz_goto F (tgt := 74) dX11_powers_63 (by decide) ?_
        exact zz_sub (zs_k (zs_k (zs_k (zs_k (zs_k (zs_k (zs_k (zs_k (zs_k (zs_k (zs_k (zs_k (zs_n (zs_k zs_z)))))))))))))) (hj10 (0 : Int32))
set_option maxHeartbeats 4000000 in
set_option maxRecDepth 20000 in
theorem bfMO_powers_l11 {X : zX} (F : zFr X cX11_powers 14 RX11 (some .int)) (a1 : Int32) (s0 : zM)  {ψ : (Int32 × Int32) ⊕ ((Int32)) → Option zO} (h1 : ∀ q1 : Int32 × Int32, zZ X [(5, [])] 3 74 14 11 [some (zr 0 0 0), some (zi a1), some (zi q1.1), some (zr 0 0 0), some (zi (1 : Int32)), some (zi q1.2), none, none, none, none, none, none, none, none] [] [s0] (ψ (.inl q1))) (h2 : ∀ q2 : Int32, zZ X [(5, [])] 3 74 14 134 [none, none, some (zi q2), none, none, none, none, none, none, none, none, none, none, none] [] [s0] (ψ (.inr q2))) (q1 : Int32 × Int32) : zZ X [(5, [])] 3 74 14 11 [some (zr 0 0 0), some (zi a1), some (zi q1.1), some (zr 0 0 0), some (zi (1 : Int32)), some (zi q1.2), none, none, none, none, none, none, none, none] [] [s0] (Option.bind (fMO_powers_l11 a1 s0 q1) ψ) := by
  unfold fMO_powers_l11
  refine zz_iload F (i := 5) dX11_powers_11 rfl ?_
  refine zz_iload F (i := 4) dX11_powers_13 rfl ?_
  refine zz_icmp_ge F (tgt := 134) dX11_powers_15 (by decide) (fun h => zz_t h ?_) (fun h => zz_f h ?_)
  · exact zz_sub (zs_n (zs_n (zs_k (zs_n (zs_n (zs_n (zs_k (zs_k (zs_k (zs_k (zs_k (zs_k (zs_k (zs_k zs_z)))))))))))))) (h2 q1.1)
  · refine zz_aload_n F (i := 3) dX11_powers_18 rfl rfl ?_
    refine zz_iload F (i := 5) dX11_powers_19 rfl ?_
    refine zz_ix fun j3 hj3 hinj3 hej3 => zz_ial F dX11_powers_21 rfl (⟨zlb rfl, zlb rfl, zlb rfl⟩) rfl hinj3 hej3 ?_
    refine zz_istore F (i := 6) (L' := [some (zr 0 0 0), some (zi a1), some (zi q1.1), some (zr 0 0 0), some (zi (1 : Int32)), some (zi q1.2), some (zi (s0 0 0 j3)), none, none, none, none, none, none, none]) dX11_powers_22 (by decide) rfl rfl ?_
    refine zz_letl (Lf := fun v4 => [some (zr 0 0 0), some (zi a1), some (zi q1.1), some (zr 0 0 0), some (zi (1 : Int32)), some (zi q1.2), some (zi v4), none, none, none, none, none, none, none]) fun v4 => ?_
    refine zz_iconst F (v := (0 : Int32)) dX11_powers_24 (by decide) ?_
    refine zz_istore F (i := 7) (L' := [some (zr 0 0 0), some (zi a1), some (zi q1.1), some (zr 0 0 0), some (zi (1 : Int32)), some (zi q1.2), some (zi v4), some (zi (0 : Int32)), none, none, none, none, none, none]) dX11_powers_25 (by decide) rfl rfl ?_
    refine zz_iconst F (v := (0 : Int32)) dX11_powers_27 (by decide) ?_
    refine zz_istore F (i := 8) (L' := [some (zr 0 0 0), some (zi a1), some (zi q1.1), some (zr 0 0 0), some (zi (1 : Int32)), some (zi q1.2), some (zi v4), some (zi (0 : Int32)), some (zi (0 : Int32)), none, none, none, none, none]) dX11_powers_28 (by decide) rfl rfl ?_
    refine zz_aload_n F (i := 0) dX11_powers_30 rfl rfl ?_
    refine zz_astore F (i := 9) (L' := [some (zr 0 0 0), some (zi a1), some (zi q1.1), some (zr 0 0 0), some (zi (1 : Int32)), some (zi q1.2), some (zi v4), some (zi (0 : Int32)), some (zi (0 : Int32)), some (zr 0 0 0), none, none, none, none]) dX11_powers_31 (by decide) rfl rfl ?_
    refine zz_aload F (i := 9) dX11_powers_33 rfl ?_
    refine zz_alen F (v := (1 : Int32)) dX11_powers_35 rfl (⟨zlb rfl, zlb rfl, zlb rfl⟩) rfl (by decide) ?_
    refine zz_istore F (i := 10) (L' := [some (zr 0 0 0), some (zi a1), some (zi q1.1), some (zr 0 0 0), some (zi (1 : Int32)), some (zi q1.2), some (zi v4), some (zi (0 : Int32)), some (zi (0 : Int32)), some (zr 0 0 0), some (zi (1 : Int32)), none, none, none]) dX11_powers_36 (by decide) rfl rfl ?_
    refine zz_iconst F (v := (0 : Int32)) dX11_powers_38 (by decide) ?_
    refine zz_istore F (i := 11) (L' := [some (zr 0 0 0), some (zi a1), some (zi q1.1), some (zr 0 0 0), some (zi (1 : Int32)), some (zi q1.2), some (zi v4), some (zi (0 : Int32)), some (zi (0 : Int32)), some (zr 0 0 0), some (zi (1 : Int32)), some (zi (0 : Int32)), none, none]) dX11_powers_39 (by decide) rfl rfl ?_
    refine zz_sub (zs_k (zs_k (zs_k (zs_k (zs_k (zs_k (zs_k (zs_k (zs_k (zs_k (zs_k (zs_k (zs_k (zs_k zs_z)))))))))))))) ?_
    refine zz_bind ?_
    refine zz_iter (Lf := fun q5 => [some (zr 0 0 0), some (zi a1), some (zi q1.1), some (zr 0 0 0), some (zi (1 : Int32)), some (zi q1.2), some (zi v4), some (zi q5.1), some (zi q5.2.1), some (zr 0 0 0), some (zi (1 : Int32)), some (zi q5.2.2), none, none]) (Mf := fun q5 => [s0]) (fun q5 _ e20 e21 => bfMO_powers_l41 F a1 s0 v4 q1  e20 (fun q6 => ?_)  q5) 1000 ((0 : Int32), (0 : Int32), (0 : Int32))
    rw [e21]
    refine zz_iload_n F (i := 2) dX11_powers_98 rfl rfl ?_
    refine zz_bipush F (v := (10 : Int32)) dX11_powers_99 (by decide) ?_
    refine zz_bipush F (v := (100 : Int32)) dX11_powers_101 (by decide) ?_
    refine zz_bipush F (v := (60 : Int32)) dX11_powers_103 (by decide) ?_
    refine zz_iload F (i := 7) dX11_powers_105 rfl ?_
    refine zz_iload F (i := 8) dX11_powers_107 rfl ?_
    refine zz_iload F (i := 7) dX11_powers_109 rfl ?_
    refine zz_isub F dX11_powers_111 ?_
    refine zz_iconst F (v := (2 : Int32)) dX11_powers_112 (by decide) ?_
    refine zz_idiv F dX11_powers_113 (by decide) ?_
    refine zz_iadd F dX11_powers_114 ?_
    refine zz_min F dX11_powers_115 wmRX11_24 wMath_min (Nat.le_of_ble_eq_true rfl) (Nat.le_of_ble_eq_true rfl) ?_
    refine zz_isub F dX11_powers_118 ?_
    refine zz_imul F dX11_powers_119 ?_
    refine zz_bipush F (v := (100 : Int32)) dX11_powers_120 (by decide) ?_
    refine zz_idiv F dX11_powers_122 (by decide) ?_
    refine zz_bind ?_
    refine zz_callSr F (ρ := []) (so := fun q17 => [zi q17, zi q1.1]) (Mo := fun q17 => [s0]) (zfMO_power (((10 : Int32) * ((100 : Int32) - (zmin (60 : Int32) (q6.1 + ((q6.2 - q6.1) / (2 : Int32)))))) / (100 : Int32))) dX11_powers_123 wcRX11_179 wy_yX11_power rfl ⟨rel19, rfl, rfl, Nat.le_of_ble_eq_true rfl, Nat.le_of_ble_eq_true rfl, Nat.le_of_ble_eq_true rfl⟩ rfl (fun _ => rfl) (fun _ => rfl) fun q17 => ?_
    refine zz_iadd F dX11_powers_126 ?_
    refine zz_istore_n F (i := 2) (L' := [some (zr 0 0 0), some (zi a1), some (zi (q1.1 + q17)), some (zr 0 0 0), some (zi (1 : Int32)), some (zi q1.2), none, some (zi q6.1), some (zi q6.2), none, none, none, none, none]) dX11_powers_127 rfl (by decide) rfl rfl ?_
    refine zz_letl (Lf := fun v18 => [some (zr 0 0 0), some (zi a1), some (zi v18), some (zr 0 0 0), some (zi (1 : Int32)), some (zi q1.2), none, some (zi q6.1), some (zi q6.2), none, none, none, none, none]) fun v18 => ?_
    refine zz_iinc F (i := 5) (v := q1.2 + 1) (L' := [some (zr 0 0 0), some (zi a1), some (zi v18), some (zr 0 0 0), some (zi (1 : Int32)), some (zi (q1.2 + 1)), none, some (zi q6.1), some (zi q6.2), none, none, none, none, none]) dX11_powers_128 rfl (by first | rfl | decide) (by decide) rfl rfl ?_
    refine zz_letl (Lf := fun v19 => [some (zr 0 0 0), some (zi a1), some (zi v18), some (zr 0 0 0), some (zi (1 : Int32)), some (zi v19), none, some (zi q6.1), some (zi q6.2), none, none, none, none, none]) fun v19 => ?_
    refine zz_goto F (tgt := 11) dX11_powers_131 (by decide) ?_
    exact zz_sub (zs_k (zs_k (zs_k (zs_k (zs_k (zs_k (zs_k (zs_n (zs_n (zs_k (zs_k (zs_k (zs_k (zs_k zs_z)))))))))))))) (h1 (v18, v19))
set_option maxHeartbeats 4000000 in
set_option maxRecDepth 20000 in
theorem bfMO_powers {X : zX} (F : zFr X cX11_powers 14 RX11 (some .int)) (a1 : Int32)  (s0 : zM) {κ : Int32 → Option zO} (hκ : ∀ a, κ a = some ((fun a => ((.inl ((fun q => some (zi q)) a), (fun _ => [s0]) a) : zO)) a)) : zZ X [(5, [])] 3 74 14 0 [some (zr 0 0 0), some (zi a1), none, none, none, none, none, none, none, none, none, none, none, none] [] [s0] (Option.bind (fMO_powers a1 s0) κ) := by
  unfold fMO_powers
  refine zz_iconst F (v := (0 : Int32)) dX11_powers_0 (by decide) ?_
  refine zz_istore_n F (i := 2) (L' := [some (zr 0 0 0), some (zi a1), some (zi (0 : Int32)), none, none, none, none, none, none, none, none, none, none, none]) dX11_powers_1 rfl (by decide) rfl rfl ?_
  refine zz_aload_n F (i := 0) dX11_powers_2 rfl rfl ?_
  refine zz_astore_n F (i := 3) (L' := [some (zr 0 0 0), some (zi a1), some (zi (0 : Int32)), some (zr 0 0 0), none, none, none, none, none, none, none, none, none, none]) dX11_powers_3 rfl (by decide) rfl rfl ?_
  refine zz_aload_n F (i := 3) dX11_powers_4 rfl rfl ?_
  refine zz_alen F (v := (1 : Int32)) dX11_powers_5 rfl (⟨zlb rfl, zlb rfl, zlb rfl⟩) rfl (by decide) ?_
  refine zz_istore F (i := 4) (L' := [some (zr 0 0 0), some (zi a1), some (zi (0 : Int32)), some (zr 0 0 0), some (zi (1 : Int32)), none, none, none, none, none, none, none, none, none]) dX11_powers_6 (by decide) rfl rfl ?_
  refine zz_iconst F (v := (0 : Int32)) dX11_powers_8 (by decide) ?_
  refine zz_istore F (i := 5) (L' := [some (zr 0 0 0), some (zi a1), some (zi (0 : Int32)), some (zr 0 0 0), some (zi (1 : Int32)), some (zi (0 : Int32)), none, none, none, none, none, none, none, none]) dX11_powers_9 (by decide) rfl rfl ?_
  refine zz_sub (zs_k (zs_k (zs_k (zs_k (zs_k (zs_k (zs_k (zs_k (zs_k (zs_k (zs_k (zs_k (zs_k (zs_k zs_z)))))))))))))) ?_
  refine zz_bind ?_
  refine zz_iter (Lf := fun q1 => [some (zr 0 0 0), some (zi a1), some (zi q1.1), some (zr 0 0 0), some (zi (1 : Int32)), some (zi q1.2), none, none, none, none, none, none, none, none]) (Mf := fun q1 => [s0]) (fun q1 _ e22 e23 => bfMO_powers_l11 F a1 s0  e22 (fun q2 => ?_)  q1) 1000 ((0 : Int32), (0 : Int32))
  rw [e23]
  refine zz_iload_n F (i := 2) dX11_powers_134 rfl rfl ?_
  exact zz_ireturn F dX11_powers_135 rfl (hκ _)
theorem zfMO_powers (a1 : Int32)  (s0 : zM) : ∀ a, fMO_powers a1 s0 = some a → zMet yX11_powers cX11_powers 14 (some .int) 3 74 [(5, [])] [zr 0 0 0, zi a1] [s0] ((fun a => ((.inl ((fun q => some (zi q)) a), (fun _ => [s0]) a) : zO)) a) := fun a ha => zMet_of (L0 := [some (zr 0 0 0), some (zi a1), none, none, none, none, none, none, none, none, none, none, none, none]) (φ := Option.bind (fMO_powers a1 s0) (fun a => some ((fun a => ((.inl ((fun q => some (zi q)) a), (fun _ => [s0]) a) : zO)) a))) (by decide) (fun _ => Nat.le_of_ble_eq_true rfl) (zl0 12 rfl) (fun X F => bfMO_powers F a1 s0 (fun _ => rfl)) (by rw [ha]; rfl)
