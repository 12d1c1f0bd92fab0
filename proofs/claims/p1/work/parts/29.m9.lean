theorem dX4_powerAt_0 : decode cX4_powerAt 0 = .ok (.bipush 10, 2) := by decide +kernel
theorem dX4_powerAt_2 : decode cX4_powerAt 2 = .ok (.iload_n 0, 1) := by decide +kernel
theorem dX4_powerAt_3 : decode cX4_powerAt 3 = .ok (.iload_n 1, 1) := by decide +kernel
theorem dX4_powerAt_4 : decode cX4_powerAt 4 = .ok (.invokestatic 63, 3) := by decide +kernel
theorem dX4_powerAt_7 : decode cX4_powerAt 7 = .ok (.invokestatic 66, 3) := by decide +kernel
theorem dX4_powerAt_10 : decode cX4_powerAt 10 = .ok (.invokestatic 69, 3) := by decide +kernel
theorem dX4_powerAt_13 : decode cX4_powerAt 13 = .ok (.ireturn, 1) := by decide +kernel
theorem wcRX4_63 : Cond.methodLink RX4 63 yX7_together ∈ zTg ∧ Cond.static yX7_together ∈ zTg ∧ Cond.initialized yX7_together.cls ∈ zTg ∧ Cond.code yX7_together cX7_together 2 (some .int) ∈ zTg := ⟨zm_f 386 (by decide +kernel) rfl, zm_f 387 (by decide +kernel) rfl, zm_f 55 (by decide +kernel) rfl, zm_f 388 (by decide +kernel) rfl⟩
theorem wcRX4_66 : Cond.methodLink RX4 66 yX7_wind ∈ zTg ∧ Cond.static yX7_wind ∈ zTg ∧ Cond.initialized yX7_wind.cls ∈ zTg ∧ Cond.code yX7_wind cX7_wind 2 (some .int) ∈ zTg := ⟨zm_f 392 (by decide +kernel) rfl, zm_f 393 (by decide +kernel) rfl, zm_f 55 (by decide +kernel) rfl, zm_f 394 (by decide +kernel) rfl⟩
theorem wcRX4_69 : Cond.methodLink RX4 69 yX7_power ∈ zTg ∧ Cond.static yX7_power ∈ zTg ∧ Cond.initialized yX7_power.cls ∈ zTg ∧ Cond.code yX7_power cX7_power 1 (some .int) ∈ zTg := ⟨zm_f 395 (by decide +kernel) rfl, zm_f 396 (by decide +kernel) rfl, zm_f 55 (by decide +kernel) rfl, zm_f 397 (by decide +kernel) rfl⟩
def fSi_powerAt (a0 : Int32) (a1 : Int32)  : Option (Int32) :=
  Option.bind (fWa_together a0 a1) fun q1 =>
  Option.bind (fWa_wind (10 : Int32) q1) fun q2 =>
  Option.bind (fWa_power q2) fun q3 =>
  some q3
set_option maxHeartbeats 4000000 in
set_option maxRecDepth 20000 in
theorem bfSi_powerAt {X : zX} (F : zFr X cX4_powerAt 2 RX4 (some .int)) (a0 : Int32) (a1 : Int32)   {κ : Int32 → Option zO} (hκ : ∀ a, κ a = some ((fun a => ((.inl ((fun q => some (zi q)) a), (fun _ => []) a) : zO)) a)) : zZ X [] 2 44 2 0 [some (zi a0), some (zi a1)] [] [] (Option.bind (fSi_powerAt a0 a1) κ) := by
  unfold fSi_powerAt
  refine zz_bipush F (v := (10 : Int32)) dX4_powerAt_0 (by decide) ?_
  refine zz_iload_n F (i := 0) dX4_powerAt_2 rfl rfl ?_
  refine zz_iload_n F (i := 1) dX4_powerAt_3 rfl rfl ?_
  refine zz_bind ?_
  refine zz_callSr F (ρ := []) (so := fun q1 => [zi q1, zi (10 : Int32)]) (Mo := fun q1 => []) (zfWa_together a0 a1) dX4_powerAt_4 wcRX4_63 wy_yX7_together rfl ⟨rel5, rfl, rfl, Nat.le_of_ble_eq_true rfl, Nat.le_of_ble_eq_true rfl, Nat.le_of_ble_eq_true rfl⟩ rfl (fun _ => rfl) (fun _ => rfl) fun q1 => ?_
  refine zz_bind ?_
  refine zz_callSr F (ρ := []) (so := fun q2 => [zi q2]) (Mo := fun q2 => []) (zfWa_wind (10 : Int32) q1) dX4_powerAt_7 wcRX4_66 wy_yX7_wind rfl ⟨rel5, rfl, rfl, Nat.le_of_ble_eq_true rfl, Nat.le_of_ble_eq_true rfl, Nat.le_of_ble_eq_true rfl⟩ rfl (fun _ => rfl) (fun _ => rfl) fun q2 => ?_
  refine zz_bind ?_
  refine zz_callSr F (ρ := []) (so := fun q3 => [zi q3]) (Mo := fun q3 => []) (zfWa_power q2) dX4_powerAt_10 wcRX4_69 wy_yX7_power rfl ⟨rel5, rfl, rfl, Nat.le_of_ble_eq_true rfl, Nat.le_of_ble_eq_true rfl, Nat.le_of_ble_eq_true rfl⟩ rfl (fun _ => rfl) (fun _ => rfl) fun q3 => ?_
  exact zz_ireturn F dX4_powerAt_13 rfl (hκ _)
theorem zfSi_powerAt (a0 : Int32) (a1 : Int32)   : ∀ a, fSi_powerAt a0 a1 = some a → zMet yX4_powerAt cX4_powerAt 2 (some .int) 2 44 [] [zi a0, zi a1] [] ((fun a => ((.inl ((fun q => some (zi q)) a), (fun _ => []) a) : zO)) a) := fun a ha => zMet_of (L0 := [some (zi a0), some (zi a1)]) (φ := Option.bind (fSi_powerAt a0 a1) (fun a => some ((fun a => ((.inl ((fun q => some (zi q)) a), (fun _ => []) a) : zO)) a))) (by decide) (fun _ => Nat.le_of_ble_eq_true rfl) (zl0 0 rfl) (fun X F => bfSi_powerAt F a0 a1 (fun _ => rfl)) (by rw [ha]; rfl)

theorem dX4_powerWith_0 : decode cX4_powerWith 0 = .ok (.iconst 0, 1) := by decide +kernel
theorem dX4_powerWith_1 : decode cX4_powerWith 1 = .ok (.istore 4, 2) := by decide +kernel
theorem dX4_powerWith_3 : decode cX4_powerWith 3 = .ok (.iconst 0, 1) := by decide +kernel
theorem dX4_powerWith_4 : decode cX4_powerWith 4 = .ok (.istore 5, 2) := by decide +kernel
theorem dX4_powerWith_6 : decode cX4_powerWith 6 = .ok (.iload 5, 2) := by decide +kernel
theorem dX4_powerWith_8 : decode cX4_powerWith 8 = .ok (.bipush 8, 2) := by decide +kernel
theorem dX4_powerWith_10 : decode cX4_powerWith 10 = .ok (.if_icmp .ge 155, 3) := by decide +kernel
theorem dX4_powerWith_13 : decode cX4_powerWith 13 = .ok (.iconst 0, 1) := by decide +kernel
theorem dX4_powerWith_14 : decode cX4_powerWith 14 = .ok (.istore 6, 2) := by decide +kernel
theorem dX4_powerWith_16 : decode cX4_powerWith 16 = .ok (.iconst 0, 1) := by decide +kernel
theorem dX4_powerWith_17 : decode cX4_powerWith 17 = .ok (.istore 7, 2) := by decide +kernel
theorem dX4_powerWith_19 : decode cX4_powerWith 19 = .ok (.iconst 0, 1) := by decide +kernel
theorem dX4_powerWith_20 : decode cX4_powerWith 20 = .ok (.istore 8, 2) := by decide +kernel
theorem dX4_powerWith_22 : decode cX4_powerWith 22 = .ok (.iload 8, 2) := by decide +kernel
theorem dX4_powerWith_24 : decode cX4_powerWith 24 = .ok (.aload_n 1, 1) := by decide +kernel
theorem dX4_powerWith_25 : decode cX4_powerWith 25 = .ok (.getfield 32, 3) := by decide +kernel
theorem dX4_powerWith_28 : decode cX4_powerWith 28 = .ok (.if_icmp .ge 119, 3) := by decide +kernel
theorem dX4_powerWith_31 : decode cX4_powerWith 31 = .ok (.iload_n 2, 1) := by decide +kernel
theorem dX4_powerWith_32 : decode cX4_powerWith 32 = .ok (.aload_n 1, 1) := by decide +kernel
theorem dX4_powerWith_33 : decode cX4_powerWith 33 = .ok (.getfield 36, 3) := by decide +kernel
theorem dX4_powerWith_36 : decode cX4_powerWith 36 = .ok (.iload 8, 2) := by decide +kernel
theorem dX4_powerWith_38 : decode cX4_powerWith 38 = .ok (.aaload, 1) := by decide +kernel
theorem dX4_powerWith_39 : decode cX4_powerWith 39 = .ok (.getfield 40, 3) := by decide +kernel
theorem dX4_powerWith_42 : decode cX4_powerWith 42 = .ok (.isub, 1) := by decide +kernel
theorem dX4_powerWith_43 : decode cX4_powerWith 43 = .ok (.istore 9, 2) := by decide +kernel
theorem dX4_powerWith_45 : decode cX4_powerWith 45 = .ok (.iload_n 3, 1) := by decide +kernel
theorem dX4_powerWith_46 : decode cX4_powerWith 46 = .ok (.aload_n 1, 1) := by decide +kernel
theorem dX4_powerWith_47 : decode cX4_powerWith 47 = .ok (.getfield 36, 3) := by decide +kernel
theorem dX4_powerWith_50 : decode cX4_powerWith 50 = .ok (.iload 8, 2) := by decide +kernel
theorem dX4_powerWith_52 : decode cX4_powerWith 52 = .ok (.aaload, 1) := by decide +kernel
theorem dX4_powerWith_53 : decode cX4_powerWith 53 = .ok (.getfield 45, 3) := by decide +kernel
theorem dX4_powerWith_56 : decode cX4_powerWith 56 = .ok (.isub, 1) := by decide +kernel
theorem dX4_powerWith_57 : decode cX4_powerWith 57 = .ok (.istore 10, 2) := by decide +kernel
theorem dX4_powerWith_59 : decode cX4_powerWith 59 = .ok (.iload 9, 2) := by decide +kernel
theorem dX4_powerWith_61 : decode cX4_powerWith 61 = .ok (.iload 10, 2) := by decide +kernel
theorem dX4_powerWith_63 : decode cX4_powerWith 63 = .ok (.iconst 0, 1) := by decide +kernel
theorem dX4_powerWith_64 : decode cX4_powerWith 64 = .ok (.iload 5, 2) := by decide +kernel
theorem dX4_powerWith_66 : decode cX4_powerWith 66 = .ok (.invokestatic 48, 3) := by decide +kernel
theorem dX4_powerWith_69 : decode cX4_powerWith 69 = .ok (.istore 11, 2) := by decide +kernel
theorem dX4_powerWith_71 : decode cX4_powerWith 71 = .ok (.iload 9, 2) := by decide +kernel
theorem dX4_powerWith_73 : decode cX4_powerWith 73 = .ok (.ineg, 1) := by decide +kernel
theorem dX4_powerWith_74 : decode cX4_powerWith 74 = .ok (.iload 10, 2) := by decide +kernel
theorem dX4_powerWith_76 : decode cX4_powerWith 76 = .ok (.ineg, 1) := by decide +kernel
theorem dX4_powerWith_77 : decode cX4_powerWith 77 = .ok (.iconst 0, 1) := by decide +kernel
theorem dX4_powerWith_78 : decode cX4_powerWith 78 = .ok (.iload 5, 2) := by decide +kernel
theorem dX4_powerWith_80 : decode cX4_powerWith 80 = .ok (.invokestatic 48, 3) := by decide +kernel
theorem dX4_powerWith_83 : decode cX4_powerWith 83 = .ok (.istore 12, 2) := by decide +kernel
theorem dX4_powerWith_85 : decode cX4_powerWith 85 = .ok (.iload 5, 2) := by decide +kernel
theorem dX4_powerWith_87 : decode cX4_powerWith 87 = .ok (.bipush 8, 2) := by decide +kernel
theorem dX4_powerWith_89 : decode cX4_powerWith 89 = .ok (.imul, 1) := by decide +kernel
theorem dX4_powerWith_90 : decode cX4_powerWith 90 = .ok (.iload 8, 2) := by decide +kernel
theorem dX4_powerWith_92 : decode cX4_powerWith 92 = .ok (.iadd, 1) := by decide +kernel
theorem dX4_powerWith_93 : decode cX4_powerWith 93 = .ok (.istore 13, 2) := by decide +kernel
theorem dX4_powerWith_95 : decode cX4_powerWith 95 = .ok (.iload 6, 2) := by decide +kernel
theorem dX4_powerWith_97 : decode cX4_powerWith 97 = .ok (.iload 11, 2) := by decide +kernel
theorem dX4_powerWith_99 : decode cX4_powerWith 99 = .ok (.invokestatic 54, 3) := by decide +kernel
theorem dX4_powerWith_102 : decode cX4_powerWith 102 = .ok (.istore 6, 2) := by decide +kernel
theorem dX4_powerWith_104 : decode cX4_powerWith 104 = .ok (.iload 7, 2) := by decide +kernel
theorem dX4_powerWith_106 : decode cX4_powerWith 106 = .ok (.iload 11, 2) := by decide +kernel
theorem dX4_powerWith_108 : decode cX4_powerWith 108 = .ok (.iadd, 1) := by decide +kernel
theorem dX4_powerWith_109 : decode cX4_powerWith 109 = .ok (.istore 7, 2) := by decide +kernel
theorem dX4_powerWith_111 : decode cX4_powerWith 111 = .ok (.iload 4, 2) := by decide +kernel
theorem dX4_powerWith_113 : decode cX4_powerWith 113 = .ok (.aload_n 0, 1) := by decide +kernel
theorem dX4_powerWith_114 : decode cX4_powerWith 114 = .ok (.getfield 9, 3) := by decide +kernel
theorem dX4_powerWith_117 : decode cX4_powerWith 117 = .ok (.iload 13, 2) := by decide +kernel
theorem dX4_powerWith_119 : decode cX4_powerWith 119 = .ok (.iaload, 1) := by decide +kernel
theorem dX4_powerWith_120 : decode cX4_powerWith 120 = .ok (.iload 12, 2) := by decide +kernel
theorem dX4_powerWith_122 : decode cX4_powerWith 122 = .ok (.invokestatic 54, 3) := by decide +kernel
theorem dX4_powerWith_125 : decode cX4_powerWith 125 = .ok (.aload_n 0, 1) := by decide +kernel
theorem dX4_powerWith_126 : decode cX4_powerWith 126 = .ok (.getfield 15, 3) := by decide +kernel
theorem dX4_powerWith_129 : decode cX4_powerWith 129 = .ok (.iload 13, 2) := by decide +kernel
theorem dX4_powerWith_131 : decode cX4_powerWith 131 = .ok (.iaload, 1) := by decide +kernel
theorem dX4_powerWith_132 : decode cX4_powerWith 132 = .ok (.iload 12, 2) := by decide +kernel
theorem dX4_powerWith_134 : decode cX4_powerWith 134 = .ok (.iadd, 1) := by decide +kernel
theorem dX4_powerWith_135 : decode cX4_powerWith 135 = .ok (.invokestatic 60, 3) := by decide +kernel
theorem dX4_powerWith_138 : decode cX4_powerWith 138 = .ok (.iadd, 1) := by decide +kernel
theorem dX4_powerWith_139 : decode cX4_powerWith 139 = .ok (.istore 4, 2) := by decide +kernel
theorem dX4_powerWith_141 : decode cX4_powerWith 141 = .ok (.iinc 8 1, 3) := by decide +kernel
theorem dX4_powerWith_144 : decode cX4_powerWith 144 = .ok (.goto (-122), 3) := by decide +kernel
theorem dX4_powerWith_147 : decode cX4_powerWith 147 = .ok (.iload 4, 2) := by decide +kernel
theorem dX4_powerWith_149 : decode cX4_powerWith 149 = .ok (.iload 6, 2) := by decide +kernel
theorem dX4_powerWith_151 : decode cX4_powerWith 151 = .ok (.iload 7, 2) := by decide +kernel
theorem dX4_powerWith_153 : decode cX4_powerWith 153 = .ok (.invokestatic 60, 3) := by decide +kernel
theorem dX4_powerWith_156 : decode cX4_powerWith 156 = .ok (.iadd, 1) := by decide +kernel
theorem dX4_powerWith_157 : decode cX4_powerWith 157 = .ok (.istore 4, 2) := by decide +kernel
theorem dX4_powerWith_159 : decode cX4_powerWith 159 = .ok (.iinc 5 1, 3) := by decide +kernel
theorem dX4_powerWith_162 : decode cX4_powerWith 162 = .ok (.goto (-156), 3) := by decide +kernel
theorem dX4_powerWith_165 : decode cX4_powerWith 165 = .ok (.iload 4, 2) := by decide +kernel
theorem dX4_powerWith_167 : decode cX4_powerWith 167 = .ok (.ireturn, 1) := by decide +kernel
theorem wcRX4_60 : Cond.methodLink RX4 60 yX4_powerAt ∈ zTg ∧ Cond.static yX4_powerAt ∈ zTg ∧ Cond.initialized yX4_powerAt.cls ∈ zTg ∧ Cond.code yX4_powerAt cX4_powerAt 2 (some .int) ∈ zTg := ⟨zm_f 383 (by decide +kernel) rfl, zm_f 384 (by decide +kernel) rfl, zm_f 45 (by decide +kernel) rfl, zm_f 385 (by decide +kernel) rfl⟩
theorem wy_yX4_powerAt : yX4_powerAt.cls ≠ "java/lang/invoke/MethodHandle" ∧ yX4_powerAt.cls ≠ "java/lang/invoke/VarHandle" ∧ (parseMethodDescriptor yX4_powerAt.desc).map (fun d => d.parameters.length) = some 2 := by decide +kernel
def fSi_powerWith_l22 (a2 : Int32) (a3 : Int32) (s0 : zM) (s1 : zM) (q1 : (Int32 × Int32)) (q3 : Int32 × Int32 × Int32 × Int32) : Option ((Int32 × Int32 × Int32 × Int32) ⊕ ((Int32 × Int32 × Int32))) :=
  if (s1 0 0 5) ≤ q3.2.2.2 then
  some (.inr (q3.1, q3.2.1, q3.2.2.1))
else
  zix q3.2.2.2 8 fun j5 =>
    zlet ((a2 - (s1 7 j5 0))) fun v6 =>
    zix q3.2.2.2 8 fun j7 =>
    zlet ((a3 - (s1 7 j7 1))) fun v8 =>
    Option.bind (fWa_deficit v6 v8 (0 : Int32) q1.2) fun q9 =>
    Option.bind (fWa_deficit (-v6) (-v8) (0 : Int32) q1.2) fun q10 =>
    zlet (((q1.2 * (8 : Int32)) + q3.2.2.2)) fun v11 =>
    zlet ((zmax q3.2.1 q9)) fun v12 =>
    zlet ((q3.2.2.1 + q9)) fun v13 =>
    zix v11 64 fun j14 =>
    zix v11 64 fun j15 =>
    Option.bind (fSi_powerAt (zmax (s0 1 0 j14) q10) ((s0 2 0 j15) + q10)) fun q16 =>
    zlet ((q3.1 + q16)) fun v17 =>
    zlet (q3.2.2.2 + 1) fun v18 =>
    some (.inl (v17, v12, v13, v18))
def fSi_powerWith_l6 (a2 : Int32) (a3 : Int32) (s0 : zM) (s1 : zM) (q1 : Int32 × Int32) : Option ((Int32 × Int32) ⊕ ((Int32))) :=
  if (8 : Int32) ≤ q1.2 then
  some (.inr q1.1)
else
  Option.bind (ziter (fSi_powerWith_l22 a2 a3 s0 s1 q1) 1000 (q1.1, (0 : Int32), (0 : Int32), (0 : Int32))) fun q4 =>
    Option.bind (fSi_powerAt q4.2.1 q4.2.2) fun q19 =>
    zlet ((q4.1 + q19)) fun v20 =>
    zlet (q1.2 + 1) fun v21 =>
    some (.inl (v20, v21))
def fSi_powerWith (a2 : Int32) (a3 : Int32) (s0 : zM) (s1 : zM) : Option (Int32) :=
  Option.bind (ziter (fSi_powerWith_l6 a2 a3 s0 s1) 1000 ((0 : Int32), (0 : Int32))) fun q2 =>
  some q2
set_option maxHeartbeats 4000000 in
set_option maxRecDepth 20000 in
theorem bfSi_powerWith_l22 {X : zX} (F : zFr X cX4_powerWith 14 RX4 (some .int)) (a2 : Int32) (a3 : Int32) (s0 : zM) (s1 : zM) (q1 : (Int32 × Int32))  {ψ : (Int32 × Int32 × Int32 × Int32) ⊕ ((Int32 × Int32 × Int32)) → Option zO} (h1 : ∀ q3 : Int32 × Int32 × Int32 × Int32, zZ X [(1, []), (0, [])] 3 65 14 22 [some (zr 0 0 0), some (zr 1 0 0), some (zi a2), some (zi a3), some (zi q3.1), some (zi q1.2), some (zi q3.2.1), some (zi q3.2.2.1), some (zi q3.2.2.2), none, none, none, none, none] [] [s0, s1] (ψ (.inl q3))) (h2 : ∀ q4 : Int32 × Int32 × Int32, zZ X [(1, []), (0, [])] 3 65 14 147 [some (zr 0 0 0), some (zr 1 0 0), some (zi a2), some (zi a3), some (zi q4.1), some (zi q1.2), some (zi q4.2.1), some (zi q4.2.2), none, none, none, none, none, none] [] [s0, s1] (ψ (.inr q4))) (q3 : Int32 × Int32 × Int32 × Int32) : zZ X [(1, []), (0, [])] 3 65 14 22 [some (zr 0 0 0), some (zr 1 0 0), some (zi a2), some (zi a3), some (zi q3.1), some (zi q1.2), some (zi q3.2.1), some (zi q3.2.2.1), some (zi q3.2.2.2), none, none, none, none, none] [] [s0, s1] (Option.bind (fSi_powerWith_l22 a2 a3 s0 s1 q1 q3) ψ) := by
  unfold fSi_powerWith_l22
  refine zz_iload F (i := 8) dX4_powerWith_22 rfl ?_
  refine zz_aload_n F (i := 1) dX4_powerWith_24 rfl rfl ?_
  refine zz_getf F dX4_powerWith_25 wfRX4_32 zCl_3 rfl (⟨zlb rfl, zlb rfl, zlb rfl⟩) rfl (by decide) rfl rfl ?_
  refine zz_icmp_ge F (tgt := 147) dX4_powerWith_28 (by decide) (fun h => zz_t h ?_) (fun h => zz_f h ?_)
  · exact zz_sub (zs_k (zs_k (zs_k (zs_k (zs_k (zs_k (zs_k (zs_k (zs_n (zs_k (zs_k (zs_k (zs_k (zs_k zs_z)))))))))))))) (h2 (q3.1, q3.2.1, q3.2.2.1))
  · refine zz_iload_n F (i := 2) dX4_powerWith_31 rfl rfl ?_
    refine zz_aload_n F (i := 1) dX4_powerWith_32 rfl rfl ?_
    refine zz_getr F dX4_powerWith_33 wfRX4_36 zCl_3 rfl (⟨zlb rfl, zlb rfl, zlb rfl⟩) rfl (by decide) rfl (r' := 1) (by decide) ?_
    refine zz_iload F (i := 8) dX4_powerWith_36 rfl ?_
    refine zz_ix fun j5 hj5 hinj5 hej5 => zz_aal F dX4_powerWith_38 rfl (⟨zlb rfl, zlb rfl, zlb rfl⟩) rfl (by decide) rfl hinj5 hej5 rfl ?_
    refine zz_getf F dX4_powerWith_39 wfRX4_40 zCl_5 rfl (⟨zlb rfl, zlb rfl, hj5⟩) rfl (by decide) rfl rfl ?_
    refine zz_isub F dX4_powerWith_42 ?_
    refine zz_istore F (i := 9) (L' := [some (zr 0 0 0), some (zr 1 0 0), some (zi a2), some (zi a3), some (zi q3.1), some (zi q1.2), some (zi q3.2.1), some (zi q3.2.2.1), some (zi q3.2.2.2), some (zi (a2 - (s1 7 j5 0))), none, none, none, none]) dX4_powerWith_43 (by decide) rfl rfl ?_
    refine zz_letl (Lf := fun v6 => [some (zr 0 0 0), some (zr 1 0 0), some (zi a2), some (zi a3), some (zi q3.1), some (zi q1.2), some (zi q3.2.1), some (zi q3.2.2.1), some (zi q3.2.2.2), some (zi v6), none, none, none, none]) fun v6 => ?_
    refine zz_iload_n F (i := 3) dX4_powerWith_45 rfl rfl ?_
    refine zz_aload_n F (i := 1) dX4_powerWith_46 rfl rfl ?_
    refine zz_getr F dX4_powerWith_47 wfRX4_36 zCl_3 rfl (⟨zlb rfl, zlb rfl, zlb rfl⟩) rfl (by decide) rfl (r' := 1) (by decide) ?_
    refine zz_iload F (i := 8) dX4_powerWith_50 rfl ?_
    refine zz_ix fun j7 hj7 hinj7 hej7 => zz_aal F dX4_powerWith_52 rfl (⟨zlb rfl, zlb rfl, zlb rfl⟩) rfl (by decide) rfl hinj7 hej7 rfl ?_
    refine zz_getf F dX4_powerWith_53 wfRX4_45 zCl_5 rfl (⟨zlb rfl, zlb rfl, hj7⟩) rfl (by decide) rfl rfl ?_
    refine zz_isub F dX4_powerWith_56 ?_
    refine zz_istore F (i := 10) (L' := [some (zr 0 0 0), some (zr 1 0 0), some (zi a2), some (zi a3), some (zi q3.1), some (zi q1.2), some (zi q3.2.1), some (zi q3.2.2.1), some (zi q3.2.2.2), some (zi v6), some (zi (a3 - (s1 7 j7 1))), none, none, none]) dX4_powerWith_57 (by decide) rfl rfl ?_
    refine zz_letl (Lf := fun v8 => [some (zr 0 0 0), some (zr 1 0 0), some (zi a2), some (zi a3), some (zi q3.1), some (zi q1.2), some (zi q3.2.1), some (zi q3.2.2.1), some (zi q3.2.2.2), some (zi v6), some (zi v8), none, none, none]) fun v8 => ?_
    refine zz_iload F (i := 9) dX4_powerWith_59 rfl ?_
    refine zz_iload F (i := 10) dX4_powerWith_61 rfl ?_
    refine zz_iconst F (v := (0 : Int32)) dX4_powerWith_63 (by decide) ?_
    refine zz_iload F (i := 5) dX4_powerWith_64 rfl ?_
    refine zz_bind ?_
    refine zz_callSr F (ρ := []) (so := fun q9 => [zi q9]) (Mo := fun q9 => [s0, s1]) (zfWa_deficit v6 v8 (0 : Int32) q1.2) dX4_powerWith_66 wcRX4_48 wy_yX7_deficit rfl ⟨rel10, rfl, rfl, Nat.le_of_ble_eq_true rfl, Nat.le_of_ble_eq_true rfl, Nat.le_of_ble_eq_true rfl⟩ rfl (fun _ => rfl) (fun _ => rfl) fun q9 => ?_
    refine zz_istore F (i := 11) (L' := [some (zr 0 0 0), some (zr 1 0 0), some (zi a2), some (zi a3), some (zi q3.1), some (zi q1.2), some (zi q3.2.1), some (zi q3.2.2.1), some (zi q3.2.2.2), some (zi v6), some (zi v8), some (zi q9), none, none]) dX4_powerWith_69 (by decide) rfl rfl ?_
    refine zz_iload F (i := 9) dX4_powerWith_71 rfl ?_
    refine zz_ineg F dX4_powerWith_73 ?_
    refine zz_iload F (i := 10) dX4_powerWith_74 rfl ?_
    refine zz_ineg F dX4_powerWith_76 ?_
    refine zz_iconst F (v := (0 : Int32)) dX4_powerWith_77 (by decide) ?_
    refine zz_iload F (i := 5) dX4_powerWith_78 rfl ?_
    refine zz_bind ?_
    refine zz_callSr F (ρ := []) (so := fun q10 => [zi q10]) (Mo := fun q10 => [s0, s1]) (zfWa_deficit (-v6) (-v8) (0 : Int32) q1.2) dX4_powerWith_80 wcRX4_48 wy_yX7_deficit rfl ⟨rel10, rfl, rfl, Nat.le_of_ble_eq_true rfl, Nat.le_of_ble_eq_true rfl, Nat.le_of_ble_eq_true rfl⟩ rfl (fun _ => rfl) (fun _ => rfl) fun q10 => ?_
    refine zz_istore F (i := 12) (L' := [some (zr 0 0 0), some (zr 1 0 0), some (zi a2), some (zi a3), some (zi q3.1), some (zi q1.2), some (zi q3.2.1), some (zi q3.2.2.1), some (zi q3.2.2.2), some (zi v6), some (zi v8), some (zi q9), some (zi q10), none]) dX4_powerWith_83 (by decide) rfl rfl ?_
    refine zz_iload F (i := 5) dX4_powerWith_85 rfl ?_
    refine zz_bipush F (v := (8 : Int32)) dX4_powerWith_87 (by decide) ?_
    refine zz_imul F dX4_powerWith_89 ?_
    refine zz_iload F (i := 8) dX4_powerWith_90 rfl ?_
    refine zz_iadd F dX4_powerWith_92 ?_
    refine zz_istore F (i := 13) (L' := [some (zr 0 0 0), some (zr 1 0 0), some (zi a2), some (zi a3), some (zi q3.1), some (zi q1.2), some (zi q3.2.1), some (zi q3.2.2.1), some (zi q3.2.2.2), some (zi v6), some (zi v8), some (zi q9), some (zi q10), some (zi ((q1.2 * (8 : Int32)) + q3.2.2.2))]) dX4_powerWith_93 (by decide) rfl rfl ?_
    refine zz_letl (Lf := fun v11 => [some (zr 0 0 0), some (zr 1 0 0), some (zi a2), some (zi a3), some (zi q3.1), some (zi q1.2), some (zi q3.2.1), some (zi q3.2.2.1), some (zi q3.2.2.2), some (zi v6), some (zi v8), some (zi q9), some (zi q10), some (zi v11)]) fun v11 => ?_
    refine zz_iload F (i := 6) dX4_powerWith_95 rfl ?_
    refine zz_iload F (i := 11) dX4_powerWith_97 rfl ?_
    refine zz_max F dX4_powerWith_99 wmRX4_54 wMath_max (Nat.le_of_ble_eq_true rfl) (Nat.le_of_ble_eq_true rfl) ?_
    refine zz_istore F (i := 6) (L' := [some (zr 0 0 0), some (zr 1 0 0), some (zi a2), some (zi a3), some (zi q3.1), some (zi q1.2), some (zi (zmax q3.2.1 q9)), some (zi q3.2.2.1), some (zi q3.2.2.2), some (zi v6), some (zi v8), some (zi q9), some (zi q10), some (zi v11)]) dX4_powerWith_102 (by decide) rfl rfl ?_
    refine zz_letl (Lf := fun v12 => [some (zr 0 0 0), some (zr 1 0 0), some (zi a2), some (zi a3), some (zi q3.1), some (zi q1.2), some (zi v12), some (zi q3.2.2.1), some (zi q3.2.2.2), some (zi v6), some (zi v8), some (zi q9), some (zi q10), some (zi v11)]) fun v12 => ?_
    refine zz_iload F (i := 7) dX4_powerWith_104 rfl ?_
    refine zz_iload F (i := 11) dX4_powerWith_106 rfl ?_
    refine zz_iadd F dX4_powerWith_108 ?_
    refine zz_istore F (i := 7) (L' := [some (zr 0 0 0), some (zr 1 0 0), some (zi a2), some (zi a3), some (zi q3.1), some (zi q1.2), some (zi v12), some (zi (q3.2.2.1 + q9)), some (zi q3.2.2.2), some (zi v6), some (zi v8), some (zi q9), some (zi q10), some (zi v11)]) dX4_powerWith_109 (by decide) rfl rfl ?_
    refine zz_letl (Lf := fun v13 => [some (zr 0 0 0), some (zr 1 0 0), some (zi a2), some (zi a3), some (zi q3.1), some (zi q1.2), some (zi v12), some (zi v13), some (zi q3.2.2.2), some (zi v6), some (zi v8), some (zi q9), some (zi q10), some (zi v11)]) fun v13 => ?_
    refine zz_iload F (i := 4) dX4_powerWith_111 rfl ?_
    refine zz_aload_n F (i := 0) dX4_powerWith_113 rfl rfl ?_
    refine zz_getr F dX4_powerWith_114 wfRX4_9 zCl_4 rfl (⟨zlb rfl, zlb rfl, zlb rfl⟩) rfl (by decide) rfl (r' := 0) (by decide) ?_
    refine zz_iload F (i := 13) dX4_powerWith_117 rfl ?_
    refine zz_ix fun j14 hj14 hinj14 hej14 => zz_ial F dX4_powerWith_119 rfl (⟨zlb rfl, zlb rfl, zlb rfl⟩) rfl hinj14 hej14 ?_
    refine zz_iload F (i := 12) dX4_powerWith_120 rfl ?_
    refine zz_max F dX4_powerWith_122 wmRX4_54 wMath_max (Nat.le_of_ble_eq_true rfl) (Nat.le_of_ble_eq_true rfl) ?_
    refine zz_aload_n F (i := 0) dX4_powerWith_125 rfl rfl ?_
    refine zz_getr F dX4_powerWith_126 wfRX4_15 zCl_4 rfl (⟨zlb rfl, zlb rfl, zlb rfl⟩) rfl (by decide) rfl (r' := 0) (by decide) ?_
    refine zz_iload F (i := 13) dX4_powerWith_129 rfl ?_
    refine zz_ix fun j15 hj15 hinj15 hej15 => zz_ial F dX4_powerWith_131 rfl (⟨zlb rfl, zlb rfl, zlb rfl⟩) rfl hinj15 hej15 ?_
    refine zz_iload F (i := 12) dX4_powerWith_132 rfl ?_
    refine zz_iadd F dX4_powerWith_134 ?_
    refine zz_bind ?_
    refine zz_callSr F (ρ := []) (so := fun q16 => [zi q16, zi q3.1]) (Mo := fun q16 => [s0, s1]) (zfSi_powerAt (zmax (s0 1 0 j14) q10) ((s0 2 0 j15) + q10)) dX4_powerWith_135 wcRX4_60 wy_yX4_powerAt rfl ⟨rel10, rfl, rfl, Nat.le_of_ble_eq_true rfl, Nat.le_of_ble_eq_true rfl, Nat.le_of_ble_eq_true rfl⟩ rfl (fun _ => rfl) (fun _ => rfl) fun q16 => ?_
    refine zz_iadd F dX4_powerWith_138 ?_
    refine zz_istore F (i := 4) (L' := [some (zr 0 0 0), some (zr 1 0 0), some (zi a2), some (zi a3), some (zi (q3.1 + q16)), some (zi q1.2), some (zi v12), some (zi v13), some (zi q3.2.2.2), some (zi v6), some (zi v8), some (zi q9), some (zi q10), some (zi v11)]) dX4_powerWith_139 (by decide) rfl rfl ?_
    refine zz_letl (Lf := fun v17 => [some (zr 0 0 0), some (zr 1 0 0), some (zi a2), some (zi a3), some (zi v17), some (zi q1.2), some (zi v12), some (zi v13), some (zi q3.2.2.2), some (zi v6), some (zi v8), some (zi q9), some (zi q10), some (zi v11)]) fun v17 => ?_
    refine zz_iinc F (i := 8) (v := q3.2.2.2 + 1) (L' := [some (zr 0 0 0), some (zr 1 0 0), some (zi a2), some (zi a3), some (zi v17), some (zi q1.2), some (zi v12), some (zi v13), some (zi (q3.2.2.2 + 1)), some (zi v6), some (zi v8), some (zi q9), some (zi q10), some (zi v11)]) dX4_powerWith_141 rfl (by first | rfl | decide) (by decide) rfl rfl ?_
    refine zz_letl (Lf := fun v18 => [some (zr 0 0 0), some (zr 1 0 0), some (zi a2), some (zi a3), some (zi v17), some (zi q1.2), some (zi v12), some (zi v13), some (zi v18), some (zi v6), some (zi v8), some (zi q9), some (zi q10), some (zi v11)]) fun v18 => ?_
    refine zz_goto F (tgt := 22) dX4_powerWith_144 (by decide) ?_
    exact zz_sub (zs_k (zs_k (zs_k (zs_k (zs_k (zs_k (zs_k (zs_k (zs_k (zs_n (zs_n (zs_n (zs_n (zs_n zs_z)))))))))))))) (h1 (v17, v12, v13, v18))
set_option maxHeartbeats 4000000 in
set_option maxRecDepth 20000 in
theorem bfSi_powerWith_l6 {X : zX} (F : zFr X cX4_powerWith 14 RX4 (some .int)) (a2 : Int32) (a3 : Int32) (s0 : zM) (s1 : zM)  {ψ : (Int32 × Int32) ⊕ ((Int32)) → Option zO} (h1 : ∀ q1 : Int32 × Int32, zZ X [(1, []), (0, [])] 3 65 14 6 [some (zr 0 0 0), some (zr 1 0 0), some (zi a2), some (zi a3), some (zi q1.1), some (zi q1.2), none, none, none, none, none, none, none, none] [] [s0, s1] (ψ (.inl q1))) (h2 : ∀ q2 : Int32, zZ X [(1, []), (0, [])] 3 65 14 165 [none, none, none, none, some (zi q2), none, none, none, none, none, none, none, none, none] [] [s0, s1] (ψ (.inr q2))) (q1 : Int32 × Int32) : zZ X [(1, []), (0, [])] 3 65 14 6 [some (zr 0 0 0), some (zr 1 0 0), some (zi a2), some (zi a3), some (zi q1.1), some (zi q1.2), none, none, none, none, none, none, none, none] [] [s0, s1] (Option.bind (fSi_powerWith_l6 a2 a3 s0 s1 q1) ψ) := by
  unfold fSi_powerWith_l6
  refine zz_iload F (i := 5) dX4_powerWith_6 rfl ?_
  refine zz_bipush F (v := (8 : Int32)) dX4_powerWith_8 (by decide) ?_
  refine zz_icmp_ge F (tgt := 165) dX4_powerWith_10 (by decide) (fun h => zz_t h ?_) (fun h => zz_f h ?_)
  · exact zz_sub (zs_n (zs_n (zs_n (zs_n (zs_k (zs_n (zs_k (zs_k (zs_k (zs_k (zs_k (zs_k (zs_k (zs_k zs_z)))))))))))))) (h2 q1.1)
  · refine zz_iconst F (v := (0 : Int32)) dX4_powerWith_13 (by decide) ?_
    refine zz_istore F (i := 6) (L' := [some (zr 0 0 0), some (zr 1 0 0), some (zi a2), some (zi a3), some (zi q1.1), some (zi q1.2), some (zi (0 : Int32)), none, none, none, none, none, none, none]) dX4_powerWith_14 (by decide) rfl rfl ?_
    refine zz_iconst F (v := (0 : Int32)) dX4_powerWith_16 (by decide) ?_
    refine zz_istore F (i := 7) (L' := [some (zr 0 0 0), some (zr 1 0 0), some (zi a2), some (zi a3), some (zi q1.1), some (zi q1.2), some (zi (0 : Int32)), some (zi (0 : Int32)), none, none, none, none, none, none]) dX4_powerWith_17 (by decide) rfl rfl ?_
    refine zz_iconst F (v := (0 : Int32)) dX4_powerWith_19 (by decide) ?_
    refine zz_istore F (i := 8) (L' := [some (zr 0 0 0), some (zr 1 0 0), some (zi a2), some (zi a3), some (zi q1.1), some (zi q1.2), some (zi (0 : Int32)), some (zi (0 : Int32)), some (zi (0 : Int32)), none, none, none, none, none]) dX4_powerWith_20 (by decide) rfl rfl ?_
    refine zz_sub (zs_k (zs_k (zs_k (zs_k (zs_k (zs_k (zs_k (zs_k (zs_k (zs_k (zs_k (zs_k (zs_k (zs_k zs_z)))))))))))))) ?_
    refine zz_bind ?_
    refine zz_iter (Lf := fun q3 => [some (zr 0 0 0), some (zr 1 0 0), some (zi a2), some (zi a3), some (zi q3.1), some (zi q1.2), some (zi q3.2.1), some (zi q3.2.2.1), some (zi q3.2.2.2), none, none, none, none, none]) (Mf := fun q3 => [s0, s1]) (fun q3 _ e22 e23 => bfSi_powerWith_l22 F a2 a3 s0 s1 q1  e22 (fun q4 => ?_)  q3) 1000 (q1.1, (0 : Int32), (0 : Int32), (0 : Int32))
    rw [e23]
    refine zz_iload F (i := 4) dX4_powerWith_147 rfl ?_
    refine zz_iload F (i := 6) dX4_powerWith_149 rfl ?_
    refine zz_iload F (i := 7) dX4_powerWith_151 rfl ?_
    refine zz_bind ?_
    refine zz_callSr F (ρ := []) (so := fun q19 => [zi q19, zi q4.1]) (Mo := fun q19 => [s0, s1]) (zfSi_powerAt q4.2.1 q4.2.2) dX4_powerWith_153 wcRX4_60 wy_yX4_powerAt rfl ⟨rel10, rfl, rfl, Nat.le_of_ble_eq_true rfl, Nat.le_of_ble_eq_true rfl, Nat.le_of_ble_eq_true rfl⟩ rfl (fun _ => rfl) (fun _ => rfl) fun q19 => ?_
    refine zz_iadd F dX4_powerWith_156 ?_
    refine zz_istore F (i := 4) (L' := [some (zr 0 0 0), some (zr 1 0 0), some (zi a2), some (zi a3), some (zi (q4.1 + q19)), some (zi q1.2), some (zi q4.2.1), some (zi q4.2.2), none, none, none, none, none, none]) dX4_powerWith_157 (by decide) rfl rfl ?_
    refine zz_letl (Lf := fun v20 => [some (zr 0 0 0), some (zr 1 0 0), some (zi a2), some (zi a3), some (zi v20), some (zi q1.2), some (zi q4.2.1), some (zi q4.2.2), none, none, none, none, none, none]) fun v20 => ?_
    refine zz_iinc F (i := 5) (v := q1.2 + 1) (L' := [some (zr 0 0 0), some (zr 1 0 0), some (zi a2), some (zi a3), some (zi v20), some (zi (q1.2 + 1)), some (zi q4.2.1), some (zi q4.2.2), none, none, none, none, none, none]) dX4_powerWith_159 rfl (by first | rfl | decide) (by decide) rfl rfl ?_
    refine zz_letl (Lf := fun v21 => [some (zr 0 0 0), some (zr 1 0 0), some (zi a2), some (zi a3), some (zi v20), some (zi v21), some (zi q4.2.1), some (zi q4.2.2), none, none, none, none, none, none]) fun v21 => ?_
    refine zz_goto F (tgt := 6) dX4_powerWith_162 (by decide) ?_
    exact zz_sub (zs_k (zs_k (zs_k (zs_k (zs_k (zs_k (zs_n (zs_n (zs_k (zs_k (zs_k (zs_k (zs_k (zs_k zs_z)))))))))))))) (h1 (v20, v21))
set_option maxHeartbeats 4000000 in
set_option maxRecDepth 20000 in
theorem bfSi_powerWith {X : zX} (F : zFr X cX4_powerWith 14 RX4 (some .int)) (a2 : Int32) (a3 : Int32)  (s0 : zM) (s1 : zM) {κ : Int32 → Option zO} (hκ : ∀ a, κ a = some ((fun a => ((.inl ((fun q => some (zi q)) a), (fun _ => [s0, s1]) a) : zO)) a)) : zZ X [(1, []), (0, [])] 3 65 14 0 [some (zr 0 0 0), some (zr 1 0 0), some (zi a2), some (zi a3), none, none, none, none, none, none, none, none, none, none] [] [s0, s1] (Option.bind (fSi_powerWith a2 a3 s0 s1) κ) := by
  unfold fSi_powerWith
  refine zz_iconst F (v := (0 : Int32)) dX4_powerWith_0 (by decide) ?_
  refine zz_istore F (i := 4) (L' := [some (zr 0 0 0), some (zr 1 0 0), some (zi a2), some (zi a3), some (zi (0 : Int32)), none, none, none, none, none, none, none, none, none]) dX4_powerWith_1 (by decide) rfl rfl ?_
  refine zz_iconst F (v := (0 : Int32)) dX4_powerWith_3 (by decide) ?_
  refine zz_istore F (i := 5) (L' := [some (zr 0 0 0), some (zr 1 0 0), some (zi a2), some (zi a3), some (zi (0 : Int32)), some (zi (0 : Int32)), none, none, none, none, none, none, none, none]) dX4_powerWith_4 (by decide) rfl rfl ?_
  refine zz_sub (zs_k (zs_k (zs_k (zs_k (zs_k (zs_k (zs_k (zs_k (zs_k (zs_k (zs_k (zs_k (zs_k (zs_k zs_z)))))))))))))) ?_
  refine zz_bind ?_
  refine zz_iter (Lf := fun q1 => [some (zr 0 0 0), some (zr 1 0 0), some (zi a2), some (zi a3), some (zi q1.1), some (zi q1.2), none, none, none, none, none, none, none, none]) (Mf := fun q1 => [s0, s1]) (fun q1 _ e24 e25 => bfSi_powerWith_l6 F a2 a3 s0 s1  e24 (fun q2 => ?_)  q1) 1000 ((0 : Int32), (0 : Int32))
  rw [e25]
  refine zz_iload F (i := 4) dX4_powerWith_165 rfl ?_
  exact zz_ireturn F dX4_powerWith_167 rfl (hκ _)
theorem zfSi_powerWith (a2 : Int32) (a3 : Int32)  (s0 : zM) (s1 : zM) : ∀ a, fSi_powerWith a2 a3 s0 s1 = some a → zMet yX4_powerWith cX4_powerWith 14 (some .int) 3 65 [(1, []), (0, [])] [zr 0 0 0, zr 1 0 0, zi a2, zi a3] [s0, s1] ((fun a => ((.inl ((fun q => some (zi q)) a), (fun _ => [s0, s1]) a) : zO)) a) := fun a ha => zMet_of (L0 := [some (zr 0 0 0), some (zr 1 0 0), some (zi a2), some (zi a3), none, none, none, none, none, none, none, none, none, none]) (φ := Option.bind (fSi_powerWith a2 a3 s0 s1) (fun a => some ((fun a => ((.inl ((fun q => some (zi q)) a), (fun _ => [s0, s1]) a) : zO)) a))) (by decide) (fun _ => Nat.le_of_ble_eq_true rfl) (zl0 10 rfl) (fun X F => bfSi_powerWith F a2 a3 s0 s1 (fun _ => rfl)) (by rw [ha]; rfl)

theorem dX4_bestFor_0 : decode cX4_bestFor 0 = .ok (.iconst 0, 1) := by decide +kernel
theorem dX4_bestFor_1 : decode cX4_bestFor 1 = .ok (.istore_n 2, 1) := by decide +kernel
theorem dX4_bestFor_2 : decode cX4_bestFor 2 = .ok (.iload_n 2, 1) := by decide +kernel
theorem dX4_bestFor_3 : decode cX4_bestFor 3 = .ok (.bipush 8, 2) := by decide +kernel
theorem dX4_bestFor_5 : decode cX4_bestFor 5 = .ok (.if_icmp .ge 15, 3) := by decide +kernel
theorem dX4_bestFor_8 : decode cX4_bestFor 8 = .ok (.aload_n 0, 1) := by decide +kernel
theorem dX4_bestFor_9 : decode cX4_bestFor 9 = .ok (.aload_n 1, 1) := by decide +kernel
theorem dX4_bestFor_10 : decode cX4_bestFor 10 = .ok (.iload_n 2, 1) := by decide +kernel
theorem dX4_bestFor_11 : decode cX4_bestFor 11 = .ok (.invokevirtual 18, 3) := by decide +kernel
theorem dX4_bestFor_14 : decode cX4_bestFor 14 = .ok (.iinc 2 1, 3) := by decide +kernel
theorem dX4_bestFor_17 : decode cX4_bestFor 17 = .ok (.goto (-15), 3) := by decide +kernel
theorem dX4_bestFor_20 : decode cX4_bestFor 20 = .ok (.iconst (-1), 1) := by decide +kernel
theorem dX4_bestFor_21 : decode cX4_bestFor 21 = .ok (.istore_n 2, 1) := by decide +kernel
theorem dX4_bestFor_22 : decode cX4_bestFor 22 = .ok (.iconst (-1), 1) := by decide +kernel
theorem dX4_bestFor_23 : decode cX4_bestFor 23 = .ok (.istore_n 3, 1) := by decide +kernel
theorem dX4_bestFor_24 : decode cX4_bestFor 24 = .ok (.iconst 0, 1) := by decide +kernel
theorem dX4_bestFor_25 : decode cX4_bestFor 25 = .ok (.istore 4, 2) := by decide +kernel
theorem dX4_bestFor_27 : decode cX4_bestFor 27 = .ok (.iload 4, 2) := by decide +kernel
theorem dX4_bestFor_29 : decode cX4_bestFor 29 = .ok (.sipush 400, 3) := by decide +kernel
theorem dX4_bestFor_32 : decode cX4_bestFor 32 = .ok (.if_icmp .ge 61, 3) := by decide +kernel
theorem dX4_bestFor_35 : decode cX4_bestFor 35 = .ok (.iload 4, 2) := by decide +kernel
theorem dX4_bestFor_37 : decode cX4_bestFor 37 = .ok (.bipush 20, 2) := by decide +kernel
theorem dX4_bestFor_39 : decode cX4_bestFor 39 = .ok (.idiv, 1) := by decide +kernel
theorem dX4_bestFor_40 : decode cX4_bestFor 40 = .ok (.istore 5, 2) := by decide +kernel
theorem dX4_bestFor_42 : decode cX4_bestFor 42 = .ok (.iload 4, 2) := by decide +kernel
theorem dX4_bestFor_44 : decode cX4_bestFor 44 = .ok (.bipush 20, 2) := by decide +kernel
theorem dX4_bestFor_46 : decode cX4_bestFor 46 = .ok (.irem, 1) := by decide +kernel
theorem dX4_bestFor_47 : decode cX4_bestFor 47 = .ok (.istore 6, 2) := by decide +kernel
theorem dX4_bestFor_49 : decode cX4_bestFor 49 = .ok (.aload_n 1, 1) := by decide +kernel
theorem dX4_bestFor_50 : decode cX4_bestFor 50 = .ok (.iload 5, 2) := by decide +kernel
theorem dX4_bestFor_52 : decode cX4_bestFor 52 = .ok (.iload 6, 2) := by decide +kernel
theorem dX4_bestFor_54 : decode cX4_bestFor 54 = .ok (.invokevirtual 22, 3) := by decide +kernel
theorem dX4_bestFor_57 : decode cX4_bestFor 57 = .ok (.ifCond .eq 7, 3) := by decide +kernel
theorem dX4_bestFor_60 : decode cX4_bestFor 60 = .ok (.iconst (-1), 1) := by decide +kernel
theorem dX4_bestFor_61 : decode cX4_bestFor 61 = .ok (.goto 12, 3) := by decide +kernel
theorem dX4_bestFor_64 : decode cX4_bestFor 64 = .ok (.aload_n 0, 1) := by decide +kernel
theorem dX4_bestFor_65 : decode cX4_bestFor 65 = .ok (.aload_n 1, 1) := by decide +kernel
theorem dX4_bestFor_66 : decode cX4_bestFor 66 = .ok (.iload 5, 2) := by decide +kernel
theorem dX4_bestFor_68 : decode cX4_bestFor 68 = .ok (.iload 6, 2) := by decide +kernel
theorem dX4_bestFor_70 : decode cX4_bestFor 70 = .ok (.invokevirtual 28, 3) := by decide +kernel
theorem dX4_bestFor_73 : decode cX4_bestFor 73 = .ok (.istore 7, 2) := by decide +kernel
theorem dX4_bestFor_75 : decode cX4_bestFor 75 = .ok (.iload 7, 2) := by decide +kernel
theorem dX4_bestFor_77 : decode cX4_bestFor 77 = .ok (.iload_n 3, 1) := by decide +kernel
theorem dX4_bestFor_78 : decode cX4_bestFor 78 = .ok (.if_icmp .le 9, 3) := by decide +kernel
theorem dX4_bestFor_81 : decode cX4_bestFor 81 = .ok (.iload 7, 2) := by decide +kernel
theorem dX4_bestFor_83 : decode cX4_bestFor 83 = .ok (.istore_n 3, 1) := by decide +kernel
theorem dX4_bestFor_84 : decode cX4_bestFor 84 = .ok (.iload 4, 2) := by decide +kernel
theorem dX4_bestFor_86 : decode cX4_bestFor 86 = .ok (.istore_n 2, 1) := by decide +kernel
theorem dX4_bestFor_87 : decode cX4_bestFor 87 = .ok (.iinc 4 1, 3) := by decide +kernel
theorem dX4_bestFor_90 : decode cX4_bestFor 90 = .ok (.goto (-63), 3) := by decide +kernel
theorem dX4_bestFor_93 : decode cX4_bestFor 93 = .ok (.iload_n 2, 1) := by decide +kernel
theorem dX4_bestFor_94 : decode cX4_bestFor 94 = .ok (.ireturn, 1) := by decide +kernel
theorem wcRX4_18 : Cond.methodLink RX4 18 yX4_takeDeficits ∈ zTg ∧ Cond.instanceMethod yX4_takeDeficits ∈ zTg ∧ Cond.selects RX4 yX4_takeDeficits yX4_takeDeficits ∈ zTg ∧ Cond.initialized RX4 ∈ zTg ∧ Cond.code yX4_takeDeficits cX4_takeDeficits 8 none ∈ zTg := ⟨zm_f 361 (by decide +kernel) rfl, zm_f 363 (by decide +kernel) rfl, zm_f 0 (by decide +kernel) rfl, zm_f 45 (by decide +kernel) rfl, zm_f 364 (by decide +kernel) rfl⟩
theorem wy_yX4_takeDeficits : yX4_takeDeficits.cls = RX4 ∧ yX4_takeDeficits.cls ≠ "java/lang/invoke/MethodHandle" ∧ yX4_takeDeficits.cls ≠ "java/lang/invoke/VarHandle" ∧ (parseMethodDescriptor yX4_takeDeficits.desc).map (fun d => d.parameters.length) = some 2 := by decide +kernel
theorem rel11 : zRel [0, 1] [(1, []), (0, [])] [(1, []), (0, [])] := by unfold zRel; decide
theorem wcRX4_22 : Cond.methodLink RX4 22 yX3_isTaken ∈ zTg ∧ Cond.instanceMethod yX3_isTaken ∈ zTg ∧ Cond.selects RX3 yX3_isTaken yX3_isTaken ∈ zTg ∧ Cond.initialized RX3 ∈ zTg ∧ Cond.code yX3_isTaken cX3_isTaken 4 (some .boolean) ∈ zTg := ⟨zm_f 375 (by decide +kernel) rfl, zm_f 376 (by decide +kernel) rfl, zm_f 377 (by decide +kernel) rfl, zm_f 38 (by decide +kernel) rfl, zm_f 378 (by decide +kernel) rfl⟩
theorem rel12 : zRel [1] [(1, []), (0, [])] [(0, [])] := by unfold zRel; decide
theorem wcRX4_28 : Cond.methodLink RX4 28 yX4_powerWith ∈ zTg ∧ Cond.instanceMethod yX4_powerWith ∈ zTg ∧ Cond.selects RX4 yX4_powerWith yX4_powerWith ∈ zTg ∧ Cond.initialized RX4 ∈ zTg ∧ Cond.code yX4_powerWith cX4_powerWith 14 (some .int) ∈ zTg := ⟨zm_f 379 (by decide +kernel) rfl, zm_f 381 (by decide +kernel) rfl, zm_f 1 (by decide +kernel) rfl, zm_f 45 (by decide +kernel) rfl, zm_f 382 (by decide +kernel) rfl⟩
theorem wy_yX4_powerWith : yX4_powerWith.cls = RX4 ∧ yX4_powerWith.cls ≠ "java/lang/invoke/MethodHandle" ∧ yX4_powerWith.cls ≠ "java/lang/invoke/VarHandle" ∧ (parseMethodDescriptor yX4_powerWith.desc).map (fun d => d.parameters.length) = some 3 := by decide +kernel
def fSi_bestFor_l2 (s1 : zM) (q1 : Int32 × zM) : Option ((Int32 × zM) ⊕ ((zM))) :=
  if (8 : Int32) ≤ q1.1 then
  some (.inr q1.2)
else
  Option.bind (fSi_takeDeficits q1.1 q1.2 s1) fun q3 =>
    zlet (q1.1 + 1) fun v4 =>
    some (.inl (v4, q3))
def fSi_bestFor_l27 (s1 : zM) (q2 : (zM)) (q5 : Int32 × Int32 × Int32) : Option ((Int32 × Int32 × Int32) ⊕ ((Int32))) :=
  if (400 : Int32) ≤ q5.2.2 then
  some (.inr q5.1)
else
  zlet ((q5.2.2 / (20 : Int32))) fun v7 =>
    zlet ((q5.2.2 % (20 : Int32))) fun v8 =>
    Option.bind (fSe_isTaken v7 v8 s1) fun q9 =>
    Option.bind (if q9 = 0 then
    Option.bind (fSi_powerWith v7 v8 q2 s1) fun q14 =>
      some q14
  else
    some (-1 : Int32)) fun q10 =>
    Option.bind (if q10 ≤ q5.2.1 then
    some (q5.1, q5.2.1)
  else
    some (q5.2.2, q10)) fun q15 =>
    zlet (q5.2.2 + 1) fun v19 =>
    some (.inl (q15.1, q15.2, v19))
def fSi_bestFor  (s0 : zM) (s1 : zM) : Option (Int32 × zM) :=
  Option.bind (ziter (fSi_bestFor_l2 s1) 1000 ((0 : Int32), s0)) fun q2 =>
  Option.bind (ziter (fSi_bestFor_l27 s1 q2) 1000 ((-1 : Int32), (-1 : Int32), (0 : Int32))) fun q6 =>
  some (q6, q2)
set_option maxHeartbeats 4000000 in
set_option maxRecDepth 20000 in
theorem bfSi_bestFor_l2 {X : zX} (F : zFr X cX4_bestFor 8 RX4 (some .int)) (s1 : zM)  {ψ : (Int32 × zM) ⊕ ((zM)) → Option zO} (h1 : ∀ q1 : Int32 × zM, zZ X [(1, []), (0, [])] 4 98 8 2 [some (zr 0 0 0), some (zr 1 0 0), some (zi q1.1), none, none, none, none, none] [] [q1.2, s1] (ψ (.inl q1))) (h2 : ∀ q2 : zM, zZ X [(1, []), (0, [])] 4 98 8 20 [some (zr 0 0 0), some (zr 1 0 0), none, none, none, none, none, none] [] [q2, s1] (ψ (.inr q2))) (q1 : Int32 × zM) : zZ X [(1, []), (0, [])] 4 98 8 2 [some (zr 0 0 0), some (zr 1 0 0), some (zi q1.1), none, none, none, none, none] [] [q1.2, s1] (Option.bind (fSi_bestFor_l2 s1 q1) ψ) := by
  unfold fSi_bestFor_l2
  refine zz_iload_n F (i := 2) dX4_bestFor_2 rfl rfl ?_
  refine zz_bipush F (v := (8 : Int32)) dX4_bestFor_3 (by decide) ?_
  refine zz_icmp_ge F (tgt := 20) dX4_bestFor_5 (by decide) (fun h => zz_t h ?_) (fun h => zz_f h ?_)
  · exact zz_sub (zs_k (zs_k (zs_n (zs_k (zs_k (zs_k (zs_k (zs_k zs_z)))))))) (h2 q1.2)
  · refine zz_aload_n F (i := 0) dX4_bestFor_8 rfl rfl ?_
    refine zz_aload_n F (i := 1) dX4_bestFor_9 rfl rfl ?_
    refine zz_iload_n F (i := 2) dX4_bestFor_10 rfl rfl ?_
    refine zz_bind ?_
    refine zz_callVr F (ρ := [0, 1]) (so := fun q3 => []) (Mo := fun q3 => [q3, s1]) (zfSi_takeDeficits q1.1 q1.2 s1) dX4_bestFor_11 wcRX4_18 wy_yX4_takeDeficits rfl ⟨rel11, rfl, rfl, Nat.le_of_ble_eq_true rfl, Nat.le_of_ble_eq_true rfl, Nat.le_of_ble_eq_true rfl⟩ (⟨zlb rfl, zlb rfl, zlb rfl⟩) rfl rfl rfl (fun _ => rfl) (fun _ => rfl) fun q3 => ?_
    refine zz_iinc F (i := 2) (v := q1.1 + 1) (L' := [some (zr 0 0 0), some (zr 1 0 0), some (zi (q1.1 + 1)), none, none, none, none, none]) dX4_bestFor_14 rfl (by first | rfl | decide) (by decide) rfl rfl ?_
    refine zz_letl (Lf := fun v4 => [some (zr 0 0 0), some (zr 1 0 0), some (zi v4), none, none, none, none, none]) fun v4 => ?_
    refine zz_goto F (tgt := 2) dX4_bestFor_17 (by decide) ?_
    exact zz_sub (zs_k (zs_k (zs_k (zs_k (zs_k (zs_k (zs_k (zs_k zs_z)))))))) (h1 (v4, q3))
set_option maxHeartbeats 4000000 in
set_option maxRecDepth 20000 in
theorem bfSi_bestFor_l27 {X : zX} (F : zFr X cX4_bestFor 8 RX4 (some .int)) (s1 : zM) (q2 : (zM))  {ψ : (Int32 × Int32 × Int32) ⊕ ((Int32)) → Option zO} (h1 : ∀ q5 : Int32 × Int32 × Int32, zZ X [(1, []), (0, [])] 4 98 8 27 [some (zr 0 0 0), some (zr 1 0 0), some (zi q5.1), some (zi q5.2.1), some (zi q5.2.2), none, none, none] [] [q2, s1] (ψ (.inl q5))) (h2 : ∀ q6 : Int32, zZ X [(1, []), (0, [])] 4 98 8 93 [none, none, some (zi q6), none, none, none, none, none] [] [q2, s1] (ψ (.inr q6))) (q5 : Int32 × Int32 × Int32) : zZ X [(1, []), (0, [])] 4 98 8 27 [some (zr 0 0 0), some (zr 1 0 0), some (zi q5.1), some (zi q5.2.1), some (zi q5.2.2), none, none, none] [] [q2, s1] (Option.bind (fSi_bestFor_l27 s1 q2 q5) ψ) := by
  unfold fSi_bestFor_l27
  refine zz_iload F (i := 4) dX4_bestFor_27 rfl ?_
  refine zz_sipush F (v := (400 : Int32)) dX4_bestFor_29 (by decide) ?_
  refine zz_icmp_ge F (tgt := 93) dX4_bestFor_32 (by decide) (fun h => zz_t h ?_) (fun h => zz_f h ?_)
  · exact zz_sub (zs_n (zs_n (zs_k (zs_n (zs_n (zs_k (zs_k (zs_k zs_z)))))))) (h2 q5.1)
  · refine zz_iload F (i := 4) dX4_bestFor_35 rfl ?_
    refine zz_bipush F (v := (20 : Int32)) dX4_bestFor_37 (by decide) ?_
    refine zz_idiv F dX4_bestFor_39 (by decide) ?_
    refine zz_istore F (i := 5) (L' := [some (zr 0 0 0), some (zr 1 0 0), some (zi q5.1), some (zi q5.2.1), some (zi q5.2.2), some (zi (q5.2.2 / (20 : Int32))), none, none]) dX4_bestFor_40 (by decide) rfl rfl ?_
    refine zz_letl (Lf := fun v7 => [some (zr 0 0 0), some (zr 1 0 0), some (zi q5.1), some (zi q5.2.1), some (zi q5.2.2), some (zi v7), none, none]) fun v7 => ?_
    refine zz_iload F (i := 4) dX4_bestFor_42 rfl ?_
    refine zz_bipush F (v := (20 : Int32)) dX4_bestFor_44 (by decide) ?_
    refine zz_irem F dX4_bestFor_46 (by decide) ?_
    refine zz_istore F (i := 6) (L' := [some (zr 0 0 0), some (zr 1 0 0), some (zi q5.1), some (zi q5.2.1), some (zi q5.2.2), some (zi v7), some (zi (q5.2.2 % (20 : Int32))), none]) dX4_bestFor_47 (by decide) rfl rfl ?_
    refine zz_letl (Lf := fun v8 => [some (zr 0 0 0), some (zr 1 0 0), some (zi q5.1), some (zi q5.2.1), some (zi q5.2.2), some (zi v7), some (zi v8), none]) fun v8 => ?_
    refine zz_aload_n F (i := 1) dX4_bestFor_49 rfl rfl ?_
    refine zz_iload F (i := 5) dX4_bestFor_50 rfl ?_
    refine zz_iload F (i := 6) dX4_bestFor_52 rfl ?_
    refine zz_bind ?_
    refine zz_callVr F (ρ := [1]) (so := fun q9 => [zi q9]) (Mo := fun q9 => [q2, s1]) (zfSe_isTaken v7 v8 s1) dX4_bestFor_54 wcRX4_22 wy_yX3_isTaken rfl ⟨rel12, rfl, rfl, Nat.le_of_ble_eq_true rfl, Nat.le_of_ble_eq_true rfl, Nat.le_of_ble_eq_true rfl⟩ (⟨zlb rfl, zlb rfl, zlb rfl⟩) rfl rfl rfl (fun _ => rfl) (fun _ => rfl) fun q9 => ?_
    refine zz_join (pj := 73) (Lj := fun q10 => [some (zr 0 0 0), some (zr 1 0 0), some (zi q5.1), some (zi q5.2.1), some (zi q5.2.2), none, none, none]) (Sj := fun q10 => [zi q10]) (Mj := fun q10 => [q2, s1]) (fun q10 => ?_) (fun κ12 hj11 => ?_)
    · refine zz_istore F (i := 7) (L' := [some (zr 0 0 0), some (zr 1 0 0), some (zi q5.1), some (zi q5.2.1), some (zi q5.2.2), none, none, some (zi q10)]) dX4_bestFor_73 (by decide) rfl rfl ?_
      refine zz_iload F (i := 7) dX4_bestFor_75 rfl ?_
      refine zz_iload_n F (i := 3) dX4_bestFor_77 rfl rfl ?_
      refine zz_join (pj := 87) (Lj := fun q15 => [some (zr 0 0 0), some (zr 1 0 0), some (zi q15.1), some (zi q15.2), some (zi q5.2.2), none, none, none]) (Sj := fun q15 => []) (Mj := fun q15 => [q2, s1]) (fun q15 => ?_) (fun κ17 hj16 => ?_)
      · refine zz_iinc F (i := 4) (v := q5.2.2 + 1) (L' := [some (zr 0 0 0), some (zr 1 0 0), some (zi q15.1), some (zi q15.2), some (zi (q5.2.2 + 1)), none, none, none]) dX4_bestFor_87 rfl (by first | rfl | decide) (by decide) rfl rfl ?_
        refine zz_letl (Lf := fun v19 => [some (zr 0 0 0), some (zr 1 0 0), some (zi q15.1), some (zi q15.2), some (zi v19), none, none, none]) fun v19 => ?_
        refine zz_goto F (tgt := 27) dX4_bestFor_90 (by decide) ?_
        exact zz_sub (zs_k (zs_k (zs_k (zs_k (zs_k (zs_k (zs_k (zs_k zs_z)))))))) (h1 (q15.1, q15.2, v19))
      · refine zz_icmp_le F (tgt := 87) dX4_bestFor_78 (by decide) (fun h => zz_t h ?_) (fun h => zz_f h ?_)
        · exact zz_sub (zs_k (zs_k (zs_k (zs_k (zs_k (zs_k (zs_k (zs_n zs_z)))))))) (hj16 (q5.1, q5.2.1))
        · refine zz_iload F (i := 7) dX4_bestFor_81 rfl ?_
          refine zz_istore_n F (i := 3) (L' := [some (zr 0 0 0), some (zr 1 0 0), some (zi q5.1), some (zi q10), some (zi q5.2.2), none, none, some (zi q10)]) dX4_bestFor_83 rfl (by decide) rfl rfl ?_
          refine zz_iload F (i := 4) dX4_bestFor_84 rfl ?_
          refine zz_istore_n F (i := 2) (L' := [some (zr 0 0 0), some (zr 1 0 0), some (zi q5.2.2), some (zi q10), some (zi q5.2.2), none, none, some (zi q10)]) dX4_bestFor_86 rfl (by decide) rfl rfl ?_
          exact zz_sub (zs_k (zs_k (zs_k (zs_k (zs_k (zs_k (zs_k (zs_n zs_z)))))))) (hj16 (q5.2.2, q10))
    · refine zz_if_eq F (tgt := 64) dX4_bestFor_57 (by decide) (fun h => zz_t h ?_) (fun h => zz_f h ?_)
      · refine zz_aload_n F (i := 0) dX4_bestFor_64 rfl rfl ?_
        refine zz_aload_n F (i := 1) dX4_bestFor_65 rfl rfl ?_
        refine zz_iload F (i := 5) dX4_bestFor_66 rfl ?_
        refine zz_iload F (i := 6) dX4_bestFor_68 rfl ?_
        refine zz_bind ?_
        refine zz_callVr F (ρ := [0, 1]) (so := fun q14 => [zi q14]) (Mo := fun q14 => [q2, s1]) (zfSi_powerWith v7 v8 q2 s1) dX4_bestFor_70 wcRX4_28 wy_yX4_powerWith rfl ⟨rel11, rfl, rfl, Nat.le_of_ble_eq_true rfl, Nat.le_of_ble_eq_true rfl, Nat.le_of_ble_eq_true rfl⟩ (⟨zlb rfl, zlb rfl, zlb rfl⟩) rfl rfl rfl (fun _ => rfl) (fun _ => rfl) fun q14 => ?_
        exact zz_sub (zs_k (zs_k (zs_k (zs_k (zs_k (zs_n (zs_n (zs_k zs_z)))))))) (hj11 q14)
      · refine zz_iconst F (v := (-1 : Int32)) dX4_bestFor_60 (by decide) ?_
        refine zz_goto F (tgt := 73) dX4_bestFor_61 (by decide) ?_
        exact zz_sub (zs_k (zs_k (zs_k (zs_k (zs_k (zs_n (zs_n (zs_k zs_z)))))))) (hj11 (-1 : Int32))
set_option maxHeartbeats 4000000 in
set_option maxRecDepth 20000 in
theorem bfSi_bestFor {X : zX} (F : zFr X cX4_bestFor 8 RX4 (some .int))   (s0 : zM) (s1 : zM) {κ : Int32 × zM → Option zO} (hκ : ∀ a, κ a = some ((fun a => ((.inl ((fun q => some (zi q.1)) a), (fun q => [q.2, s1]) a) : zO)) a)) : zZ X [(1, []), (0, [])] 4 98 8 0 [some (zr 0 0 0), some (zr 1 0 0), none, none, none, none, none, none] [] [s0, s1] (Option.bind (fSi_bestFor s0 s1) κ) := by
  unfold fSi_bestFor
  refine zz_iconst F (v := (0 : Int32)) dX4_bestFor_0 (by decide) ?_
  refine zz_istore_n F (i := 2) (L' := [some (zr 0 0 0), some (zr 1 0 0), some (zi (0 : Int32)), none, none, none, none, none]) dX4_bestFor_1 rfl (by decide) rfl rfl ?_
  refine zz_sub (zs_k (zs_k (zs_k (zs_k (zs_k (zs_k (zs_k (zs_k zs_z)))))))) ?_
  refine zz_bind ?_
  refine zz_iter (Lf := fun q1 => [some (zr 0 0 0), some (zr 1 0 0), some (zi q1.1), none, none, none, none, none]) (Mf := fun q1 => [q1.2, s1]) (fun q1 _ e22 e23 => bfSi_bestFor_l2 F s1  e22 (fun q2 => ?_)  q1) 1000 ((0 : Int32), s0)
  rw [e23]
  refine zz_iconst F (v := (-1 : Int32)) dX4_bestFor_20 (by decide) ?_
  refine zz_istore_n F (i := 2) (L' := [some (zr 0 0 0), some (zr 1 0 0), some (zi (-1 : Int32)), none, none, none, none, none]) dX4_bestFor_21 rfl (by decide) rfl rfl ?_
  refine zz_iconst F (v := (-1 : Int32)) dX4_bestFor_22 (by decide) ?_
  refine zz_istore_n F (i := 3) (L' := [some (zr 0 0 0), some (zr 1 0 0), some (zi (-1 : Int32)), some (zi (-1 : Int32)), none, none, none, none]) dX4_bestFor_23 rfl (by decide) rfl rfl ?_
  refine zz_iconst F (v := (0 : Int32)) dX4_bestFor_24 (by decide) ?_
  refine zz_istore F (i := 4) (L' := [some (zr 0 0 0), some (zr 1 0 0), some (zi (-1 : Int32)), some (zi (-1 : Int32)), some (zi (0 : Int32)), none, none, none]) dX4_bestFor_25 (by decide) rfl rfl ?_
  refine zz_sub (zs_k (zs_k (zs_k (zs_k (zs_k (zs_k (zs_k (zs_k zs_z)))))))) ?_
  refine zz_bind ?_
  refine zz_iter (Lf := fun q5 => [some (zr 0 0 0), some (zr 1 0 0), some (zi q5.1), some (zi q5.2.1), some (zi q5.2.2), none, none, none]) (Mf := fun q5 => [q2, s1]) (fun q5 _ e20 e21 => bfSi_bestFor_l27 F s1 q2  e20 (fun q6 => ?_)  q5) 1000 ((-1 : Int32), (-1 : Int32), (0 : Int32))
  rw [e21]
  refine zz_iload_n F (i := 2) dX4_bestFor_93 rfl rfl ?_
  exact zz_ireturn F dX4_bestFor_94 rfl (hκ _)
theorem zfSi_bestFor   (s0 : zM) (s1 : zM) : ∀ a, fSi_bestFor s0 s1 = some a → zMet yX4_bestFor cX4_bestFor 8 (some .int) 4 98 [(1, []), (0, [])] [zr 0 0 0, zr 1 0 0] [s0, s1] ((fun a => ((.inl ((fun q => some (zi q.1)) a), (fun q => [q.2, s1]) a) : zO)) a) := fun a ha => zMet_of (L0 := [some (zr 0 0 0), some (zr 1 0 0), none, none, none, none, none, none]) (φ := Option.bind (fSi_bestFor s0 s1) (fun a => some ((fun a => ((.inl ((fun q => some (zi q.1)) a), (fun q => [q.2, s1]) a) : zO)) a))) (by decide) (fun _ => Nat.le_of_ble_eq_true rfl) (zl0 6 rfl) (fun X F => bfSi_bestFor F s0 s1 (fun _ => rfl)) (by rw [ha]; rfl)

theorem dX9_bestPlace_0 : decode cX9_bestPlace 0 = .ok (.aload_n 0, 1) := by decide +kernel
theorem dX9_bestPlace_1 : decode cX9_bestPlace 1 = .ok (.getfield 10, 3) := by decide +kernel
theorem dX9_bestPlace_4 : decode cX9_bestPlace 4 = .ok (.getfield 56, 3) := by decide +kernel
theorem dX9_bestPlace_7 : decode cX9_bestPlace 7 = .ok (.bipush 8, 2) := by decide +kernel
theorem dX9_bestPlace_9 : decode cX9_bestPlace 9 = .ok (.if_icmp .lt 7, 3) := by decide +kernel
theorem dX9_bestPlace_12 : decode cX9_bestPlace 12 = .ok (.iconst (-1), 1) := by decide +kernel
theorem dX9_bestPlace_13 : decode cX9_bestPlace 13 = .ok (.goto 14, 3) := by decide +kernel
theorem dX9_bestPlace_16 : decode cX9_bestPlace 16 = .ok (.aload_n 0, 1) := by decide +kernel
theorem dX9_bestPlace_17 : decode cX9_bestPlace 17 = .ok (.getfield 22, 3) := by decide +kernel
theorem dX9_bestPlace_20 : decode cX9_bestPlace 20 = .ok (.aload_n 0, 1) := by decide +kernel
theorem dX9_bestPlace_21 : decode cX9_bestPlace 21 = .ok (.getfield 10, 3) := by decide +kernel
theorem dX9_bestPlace_24 : decode cX9_bestPlace 24 = .ok (.invokevirtual 320, 3) := by decide +kernel
theorem dX9_bestPlace_27 : decode cX9_bestPlace 27 = .ok (.ireturn, 1) := by decide +kernel
theorem wfRX9_22 : zFl RX9 22 8 2 := ⟨_, rfl, by decide, zm_f 341 (by decide +kernel) rfl⟩
theorem wcRX9_320 : Cond.methodLink RX9 320 yX4_bestFor ∈ zTg ∧ Cond.instanceMethod yX4_bestFor ∈ zTg ∧ Cond.selects RX4 yX4_bestFor yX4_bestFor ∈ zTg ∧ Cond.initialized RX4 ∈ zTg ∧ Cond.code yX4_bestFor cX4_bestFor 8 (some .int) ∈ zTg := ⟨zm_f 357 (by decide +kernel) rfl, zm_f 358 (by decide +kernel) rfl, zm_f 359 (by decide +kernel) rfl, zm_f 45 (by decide +kernel) rfl, zm_f 360 (by decide +kernel) rfl⟩
theorem wy_yX4_bestFor : yX4_bestFor.cls = RX4 ∧ yX4_bestFor.cls ≠ "java/lang/invoke/MethodHandle" ∧ yX4_bestFor.cls ≠ "java/lang/invoke/VarHandle" ∧ (parseMethodDescriptor yX4_bestFor.desc).map (fun d => d.parameters.length) = some 1 := by decide +kernel
theorem rel13 : zRel [3, 1] [(2, [1, 2, 3]), (0, []), (0, []), (1, [])] [(1, []), (0, [])] := by unfold zRel; decide
def fWB_bestPlace  (s0 : zM) (s1 : zM) (s2 : zM) (s3 : zM) : Option (Int32 × zM) :=
  if (s1 0 0 5) < (8 : Int32) then
  Option.bind (fSi_bestFor s3 s1) fun q1 =>
    some (q1.1, q1.2)
else
  some ((-1 : Int32), s3)
set_option maxHeartbeats 4000000 in
set_option maxRecDepth 20000 in
theorem bfWB_bestPlace {X : zX} (F : zFr X cX9_bestPlace 1 RX9 (some .int))   (s0 : zM) (s1 : zM) (s2 : zM) (s3 : zM) {κ : Int32 × zM → Option zO} (hκ : ∀ a, κ a = some ((fun a => ((.inl ((fun q => some (zi q.1)) a), (fun q => [s0, s1, s2, q.2]) a) : zO)) a)) : zZ X [(2, [1, 2, 3]), (0, []), (0, []), (1, [])] 5 125 1 0 [some (zr 0 0 0)] [] [s0, s1, s2, s3] (Option.bind (fWB_bestPlace s0 s1 s2 s3) κ) := by
  unfold fWB_bestPlace
  refine zz_aload_n F (i := 0) dX9_bestPlace_0 rfl rfl ?_
  refine zz_getr F dX9_bestPlace_1 wfRX9_10 zCl_8 rfl (⟨zlb rfl, zlb rfl, zlb rfl⟩) rfl (by decide) rfl (r' := 1) (by decide) ?_
  refine zz_getf F dX9_bestPlace_4 wfRX9_56 zCl_3 rfl (⟨zlb rfl, zlb rfl, zlb rfl⟩) rfl (by decide) rfl rfl ?_
  refine zz_bipush F (v := (8 : Int32)) dX9_bestPlace_7 (by decide) ?_
  refine zz_icmp_lt F (tgt := 16) dX9_bestPlace_9 (by decide) (fun h => zz_t h ?_) (fun h => zz_f h ?_)
  · refine zz_aload_n F (i := 0) dX9_bestPlace_16 rfl rfl ?_
    refine zz_getr F dX9_bestPlace_17 wfRX9_22 zCl_8 rfl (⟨zlb rfl, zlb rfl, zlb rfl⟩) rfl (by decide) rfl (r' := 3) (by decide) ?_
    refine zz_aload_n F (i := 0) dX9_bestPlace_20 rfl rfl ?_
    refine zz_getr F dX9_bestPlace_21 wfRX9_10 zCl_8 rfl (⟨zlb rfl, zlb rfl, zlb rfl⟩) rfl (by decide) rfl (r' := 1) (by decide) ?_
    refine zz_bind ?_
    refine zz_callVr F (ρ := [3, 1]) (so := fun q1 => [zi q1.1]) (Mo := fun q1 => [s0, s1, s2, q1.2]) (zfSi_bestFor s3 s1) dX9_bestPlace_24 wcRX9_320 wy_yX4_bestFor rfl ⟨rel13, rfl, rfl, Nat.le_of_ble_eq_true rfl, Nat.le_of_ble_eq_true rfl, Nat.le_of_ble_eq_true rfl⟩ (⟨zlb rfl, zlb rfl, zlb rfl⟩) rfl rfl rfl (fun _ => rfl) (fun _ => rfl) fun q1 => ?_
    exact zz_ireturn F dX9_bestPlace_27 rfl (hκ _)
  · refine zz_iconst F (v := (-1 : Int32)) dX9_bestPlace_12 (by decide) ?_
    refine zz_goto F (tgt := 27) dX9_bestPlace_13 (by decide) ?_
    exact zz_ireturn F dX9_bestPlace_27 rfl (hκ _)
theorem zfWB_bestPlace   (s0 : zM) (s1 : zM) (s2 : zM) (s3 : zM) : ∀ a, fWB_bestPlace s0 s1 s2 s3 = some a → zMet yX9_bestPlace cX9_bestPlace 1 (some .int) 5 125 [(2, [1, 2, 3]), (0, []), (0, []), (1, [])] [zr 0 0 0] [s0, s1, s2, s3] ((fun a => ((.inl ((fun q => some (zi q.1)) a), (fun q => [s0, s1, s2, q.2]) a) : zO)) a) := fun a ha => zMet_of (L0 := [some (zr 0 0 0)]) (φ := Option.bind (fWB_bestPlace s0 s1 s2 s3) (fun a => some ((fun a => ((.inl ((fun q => some (zi q.1)) a), (fun q => [s0, s1, s2, q.2]) a) : zO)) a))) (by decide) (fun _ => Nat.le_of_ble_eq_true rfl) (zl0 0 rfl) (fun X F => bfWB_bestPlace F s0 s1 s2 s3 (fun _ => rfl)) (by rw [ha]; rfl)

theorem dX9_digestTurbine_0 : decode cX9_digestTurbine 0 = .ok (.lload_n 1, 1) := by decide +kernel
theorem dX9_digestTurbine_1 : decode cX9_digestTurbine 1 = .ok (.lstore 4, 2) := by decide +kernel
theorem dX9_digestTurbine_3 : decode cX9_digestTurbine 3 = .ok (.iconst 0, 1) := by decide +kernel
theorem dX9_digestTurbine_4 : decode cX9_digestTurbine 4 = .ok (.istore 6, 2) := by decide +kernel
theorem dX9_digestTurbine_6 : decode cX9_digestTurbine 6 = .ok (.iload 6, 2) := by decide +kernel
theorem dX9_digestTurbine_8 : decode cX9_digestTurbine 8 = .ok (.bipush 10, 2) := by decide +kernel
theorem dX9_digestTurbine_10 : decode cX9_digestTurbine 10 = .ok (.if_icmp .ge 26, 3) := by decide +kernel
theorem dX9_digestTurbine_13 : decode cX9_digestTurbine 13 = .ok (.lload 4, 2) := by decide +kernel
theorem dX9_digestTurbine_15 : decode cX9_digestTurbine 15 = .ok (.ldc2_w 326, 3) := by decide +kernel
theorem dX9_digestTurbine_18 : decode cX9_digestTurbine 18 = .ok (.lmul, 1) := by decide +kernel
theorem dX9_digestTurbine_19 : decode cX9_digestTurbine 19 = .ok (.aload_n 0, 1) := by decide +kernel
theorem dX9_digestTurbine_20 : decode cX9_digestTurbine 20 = .ok (.iload_n 3, 1) := by decide +kernel
theorem dX9_digestTurbine_21 : decode cX9_digestTurbine 21 = .ok (.iload 6, 2) := by decide +kernel
theorem dX9_digestTurbine_23 : decode cX9_digestTurbine 23 = .ok (.invokevirtual 347, 3) := by decide +kernel
theorem dX9_digestTurbine_26 : decode cX9_digestTurbine 26 = .ok (.i2l, 1) := by decide +kernel
theorem dX9_digestTurbine_27 : decode cX9_digestTurbine 27 = .ok (.ladd, 1) := by decide +kernel
theorem dX9_digestTurbine_28 : decode cX9_digestTurbine 28 = .ok (.lstore 4, 2) := by decide +kernel
theorem dX9_digestTurbine_30 : decode cX9_digestTurbine 30 = .ok (.iinc 6 1, 3) := by decide +kernel
theorem dX9_digestTurbine_33 : decode cX9_digestTurbine 33 = .ok (.goto (-27), 3) := by decide +kernel
theorem dX9_digestTurbine_36 : decode cX9_digestTurbine 36 = .ok (.iconst 0, 1) := by decide +kernel
theorem dX9_digestTurbine_37 : decode cX9_digestTurbine 37 = .ok (.istore 6, 2) := by decide +kernel
theorem dX9_digestTurbine_39 : decode cX9_digestTurbine 39 = .ok (.iload 6, 2) := by decide +kernel
theorem dX9_digestTurbine_41 : decode cX9_digestTurbine 41 = .ok (.iconst 3, 1) := by decide +kernel
theorem dX9_digestTurbine_42 : decode cX9_digestTurbine 42 = .ok (.if_icmp .ge 26, 3) := by decide +kernel
theorem dX9_digestTurbine_45 : decode cX9_digestTurbine 45 = .ok (.lload 4, 2) := by decide +kernel
theorem dX9_digestTurbine_47 : decode cX9_digestTurbine 47 = .ok (.ldc2_w 326, 3) := by decide +kernel
theorem dX9_digestTurbine_50 : decode cX9_digestTurbine 50 = .ok (.lmul, 1) := by decide +kernel
theorem dX9_digestTurbine_51 : decode cX9_digestTurbine 51 = .ok (.aload_n 0, 1) := by decide +kernel
theorem dX9_digestTurbine_52 : decode cX9_digestTurbine 52 = .ok (.iload_n 3, 1) := by decide +kernel
theorem dX9_digestTurbine_53 : decode cX9_digestTurbine 53 = .ok (.iload 6, 2) := by decide +kernel
theorem dX9_digestTurbine_55 : decode cX9_digestTurbine 55 = .ok (.invokevirtual 350, 3) := by decide +kernel
theorem dX9_digestTurbine_58 : decode cX9_digestTurbine 58 = .ok (.i2l, 1) := by decide +kernel
theorem dX9_digestTurbine_59 : decode cX9_digestTurbine 59 = .ok (.ladd, 1) := by decide +kernel
theorem dX9_digestTurbine_60 : decode cX9_digestTurbine 60 = .ok (.lstore 4, 2) := by decide +kernel
theorem dX9_digestTurbine_62 : decode cX9_digestTurbine 62 = .ok (.iinc 6 1, 3) := by decide +kernel
theorem dX9_digestTurbine_65 : decode cX9_digestTurbine 65 = .ok (.goto (-26), 3) := by decide +kernel
theorem dX9_digestTurbine_68 : decode cX9_digestTurbine 68 = .ok (.iconst 0, 1) := by decide +kernel
theorem dX9_digestTurbine_69 : decode cX9_digestTurbine 69 = .ok (.istore 6, 2) := by decide +kernel
theorem dX9_digestTurbine_71 : decode cX9_digestTurbine 71 = .ok (.iload 6, 2) := by decide +kernel
theorem dX9_digestTurbine_73 : decode cX9_digestTurbine 73 = .ok (.bipush 8, 2) := by decide +kernel
theorem dX9_digestTurbine_75 : decode cX9_digestTurbine 75 = .ok (.if_icmp .ge 26, 3) := by decide +kernel
theorem dX9_digestTurbine_78 : decode cX9_digestTurbine 78 = .ok (.lload 4, 2) := by decide +kernel
theorem dX9_digestTurbine_80 : decode cX9_digestTurbine 80 = .ok (.ldc2_w 326, 3) := by decide +kernel
theorem dX9_digestTurbine_83 : decode cX9_digestTurbine 83 = .ok (.lmul, 1) := by decide +kernel
theorem dX9_digestTurbine_84 : decode cX9_digestTurbine 84 = .ok (.aload_n 0, 1) := by decide +kernel
theorem dX9_digestTurbine_85 : decode cX9_digestTurbine 85 = .ok (.iload_n 3, 1) := by decide +kernel
theorem dX9_digestTurbine_86 : decode cX9_digestTurbine 86 = .ok (.iload 6, 2) := by decide +kernel
theorem dX9_digestTurbine_88 : decode cX9_digestTurbine 88 = .ok (.invokevirtual 353, 3) := by decide +kernel
theorem dX9_digestTurbine_91 : decode cX9_digestTurbine 91 = .ok (.i2l, 1) := by decide +kernel
theorem dX9_digestTurbine_92 : decode cX9_digestTurbine 92 = .ok (.ladd, 1) := by decide +kernel
theorem dX9_digestTurbine_93 : decode cX9_digestTurbine 93 = .ok (.lstore 4, 2) := by decide +kernel
theorem dX9_digestTurbine_95 : decode cX9_digestTurbine 95 = .ok (.iinc 6 1, 3) := by decide +kernel
theorem dX9_digestTurbine_98 : decode cX9_digestTurbine 98 = .ok (.goto (-27), 3) := by decide +kernel
theorem dX9_digestTurbine_101 : decode cX9_digestTurbine 101 = .ok (.iconst 0, 1) := by decide +kernel
theorem dX9_digestTurbine_102 : decode cX9_digestTurbine 102 = .ok (.istore 6, 2) := by decide +kernel
theorem dX9_digestTurbine_104 : decode cX9_digestTurbine 104 = .ok (.iload 6, 2) := by decide +kernel
theorem dX9_digestTurbine_106 : decode cX9_digestTurbine 106 = .ok (.aload_n 0, 1) := by decide +kernel
theorem dX9_digestTurbine_107 : decode cX9_digestTurbine 107 = .ok (.getfield 10, 3) := by decide +kernel
theorem dX9_digestTurbine_110 : decode cX9_digestTurbine 110 = .ok (.getfield 118, 3) := by decide +kernel
theorem dX9_digestTurbine_113 : decode cX9_digestTurbine 113 = .ok (.iload_n 3, 1) := by decide +kernel
theorem dX9_digestTurbine_114 : decode cX9_digestTurbine 114 = .ok (.aaload, 1) := by decide +kernel
theorem dX9_digestTurbine_115 : decode cX9_digestTurbine 115 = .ok (.getfield 214, 3) := by decide +kernel
theorem dX9_digestTurbine_118 : decode cX9_digestTurbine 118 = .ok (.getfield 223, 3) := by decide +kernel
theorem dX9_digestTurbine_121 : decode cX9_digestTurbine 121 = .ok (.if_icmp .ge 26, 3) := by decide +kernel
theorem dX9_digestTurbine_124 : decode cX9_digestTurbine 124 = .ok (.lload 4, 2) := by decide +kernel
theorem dX9_digestTurbine_126 : decode cX9_digestTurbine 126 = .ok (.ldc2_w 326, 3) := by decide +kernel
theorem dX9_digestTurbine_129 : decode cX9_digestTurbine 129 = .ok (.lmul, 1) := by decide +kernel
theorem dX9_digestTurbine_130 : decode cX9_digestTurbine 130 = .ok (.aload_n 0, 1) := by decide +kernel
theorem dX9_digestTurbine_131 : decode cX9_digestTurbine 131 = .ok (.iload_n 3, 1) := by decide +kernel
theorem dX9_digestTurbine_132 : decode cX9_digestTurbine 132 = .ok (.iload 6, 2) := by decide +kernel
theorem dX9_digestTurbine_134 : decode cX9_digestTurbine 134 = .ok (.invokevirtual 356, 3) := by decide +kernel
theorem dX9_digestTurbine_137 : decode cX9_digestTurbine 137 = .ok (.i2l, 1) := by decide +kernel
theorem dX9_digestTurbine_138 : decode cX9_digestTurbine 138 = .ok (.ladd, 1) := by decide +kernel
theorem dX9_digestTurbine_139 : decode cX9_digestTurbine 139 = .ok (.lstore 4, 2) := by decide +kernel
theorem dX9_digestTurbine_141 : decode cX9_digestTurbine 141 = .ok (.iinc 6 1, 3) := by decide +kernel
theorem dX9_digestTurbine_144 : decode cX9_digestTurbine 144 = .ok (.goto (-40), 3) := by decide +kernel
theorem dX9_digestTurbine_147 : decode cX9_digestTurbine 147 = .ok (.iconst 0, 1) := by decide +kernel
theorem dX9_digestTurbine_148 : decode cX9_digestTurbine 148 = .ok (.istore 6, 2) := by decide +kernel
theorem dX9_digestTurbine_150 : decode cX9_digestTurbine 150 = .ok (.iload 6, 2) := by decide +kernel
theorem dX9_digestTurbine_152 : decode cX9_digestTurbine 152 = .ok (.aload_n 0, 1) := by decide +kernel
theorem dX9_digestTurbine_153 : decode cX9_digestTurbine 153 = .ok (.getfield 10, 3) := by decide +kernel
theorem dX9_digestTurbine_156 : decode cX9_digestTurbine 156 = .ok (.getfield 56, 3) := by decide +kernel
theorem dX9_digestTurbine_159 : decode cX9_digestTurbine 159 = .ok (.if_icmp .ge 26, 3) := by decide +kernel
theorem dX9_digestTurbine_162 : decode cX9_digestTurbine 162 = .ok (.lload 4, 2) := by decide +kernel
theorem dX9_digestTurbine_164 : decode cX9_digestTurbine 164 = .ok (.ldc2_w 326, 3) := by decide +kernel
theorem dX9_digestTurbine_167 : decode cX9_digestTurbine 167 = .ok (.lmul, 1) := by decide +kernel
theorem dX9_digestTurbine_168 : decode cX9_digestTurbine 168 = .ok (.aload_n 0, 1) := by decide +kernel
theorem dX9_digestTurbine_169 : decode cX9_digestTurbine 169 = .ok (.iload_n 3, 1) := by decide +kernel
theorem dX9_digestTurbine_170 : decode cX9_digestTurbine 170 = .ok (.iload 6, 2) := by decide +kernel
theorem dX9_digestTurbine_172 : decode cX9_digestTurbine 172 = .ok (.invokevirtual 359, 3) := by decide +kernel
theorem dX9_digestTurbine_175 : decode cX9_digestTurbine 175 = .ok (.i2l, 1) := by decide +kernel
theorem dX9_digestTurbine_176 : decode cX9_digestTurbine 176 = .ok (.ladd, 1) := by decide +kernel
theorem dX9_digestTurbine_177 : decode cX9_digestTurbine 177 = .ok (.lstore 4, 2) := by decide +kernel
theorem dX9_digestTurbine_179 : decode cX9_digestTurbine 179 = .ok (.iinc 6 1, 3) := by decide +kernel
theorem dX9_digestTurbine_182 : decode cX9_digestTurbine 182 = .ok (.goto (-32), 3) := by decide +kernel
theorem dX9_digestTurbine_185 : decode cX9_digestTurbine 185 = .ok (.lload 4, 2) := by decide +kernel
theorem dX9_digestTurbine_187 : decode cX9_digestTurbine 187 = .ok (.lreturn, 1) := by decide +kernel
theorem wlRX9_326 : Cond.constantLong RX9 326 (31 : Int64) ∈ zTg := zm_f 403 (by decide +kernel) rfl
theorem wcRX9_347 : Cond.methodLink RX9 347 yX9_ofTurbine ∈ zTg ∧ Cond.instanceMethod yX9_ofTurbine ∈ zTg ∧ Cond.selects RX9 yX9_ofTurbine yX9_ofTurbine ∈ zTg ∧ Cond.initialized RX9 ∈ zTg ∧ Cond.code yX9_ofTurbine cX9_ofTurbine 4 (some .int) ∈ zTg := ⟨zm_f 492 (by decide +kernel) rfl, zm_f 493 (by decide +kernel) rfl, zm_f 494 (by decide +kernel) rfl, zm_f 37 (by decide +kernel) rfl, zm_f 495 (by decide +kernel) rfl⟩
theorem wy_yX9_ofTurbine : yX9_ofTurbine.cls = RX9 ∧ yX9_ofTurbine.cls ≠ "java/lang/invoke/MethodHandle" ∧ yX9_ofTurbine.cls ≠ "java/lang/invoke/VarHandle" ∧ (parseMethodDescriptor yX9_ofTurbine.desc).map (fun d => d.parameters.length) = some 2 := by decide +kernel
theorem wcRX9_350 : Cond.methodLink RX9 350 yX9_wear ∈ zTg ∧ Cond.instanceMethod yX9_wear ∈ zTg ∧ Cond.selects RX9 yX9_wear yX9_wear ∈ zTg ∧ Cond.initialized RX9 ∈ zTg ∧ Cond.code yX9_wear cX9_wear 3 (some .int) ∈ zTg := ⟨zm_f 532 (by decide +kernel) rfl, zm_f 533 (by decide +kernel) rfl, zm_f 534 (by decide +kernel) rfl, zm_f 37 (by decide +kernel) rfl, zm_f 535 (by decide +kernel) rfl⟩
theorem wy_yX9_wear : yX9_wear.cls = RX9 ∧ yX9_wear.cls ≠ "java/lang/invoke/MethodHandle" ∧ yX9_wear.cls ≠ "java/lang/invoke/VarHandle" ∧ (parseMethodDescriptor yX9_wear.desc).map (fun d => d.parameters.length) = some 2 := by decide +kernel
theorem wcRX9_353 : Cond.methodLink RX9 353 yX9_lost ∈ zTg ∧ Cond.instanceMethod yX9_lost ∈ zTg ∧ Cond.selects RX9 yX9_lost yX9_lost ∈ zTg ∧ Cond.initialized RX9 ∈ zTg ∧ Cond.code yX9_lost cX9_lost 3 (some .int) ∈ zTg := ⟨zm_f 543 (by decide +kernel) rfl, zm_f 544 (by decide +kernel) rfl, zm_f 545 (by decide +kernel) rfl, zm_f 37 (by decide +kernel) rfl, zm_f 546 (by decide +kernel) rfl⟩
theorem wy_yX9_lost : yX9_lost.cls = RX9 ∧ yX9_lost.cls ≠ "java/lang/invoke/MethodHandle" ∧ yX9_lost.cls ≠ "java/lang/invoke/VarHandle" ∧ (parseMethodDescriptor yX9_lost.desc).map (fun d => d.parameters.length) = some 2 := by decide +kernel
theorem wcRX9_356 : Cond.methodLink RX9 356 yX9_extreme ∈ zTg ∧ Cond.instanceMethod yX9_extreme ∈ zTg ∧ Cond.selects RX9 yX9_extreme yX9_extreme ∈ zTg ∧ Cond.initialized RX9 ∈ zTg ∧ Cond.code yX9_extreme cX9_extreme 4 (some .int) ∈ zTg := ⟨zm_f 548 (by decide +kernel) rfl, zm_f 549 (by decide +kernel) rfl, zm_f 550 (by decide +kernel) rfl, zm_f 37 (by decide +kernel) rfl, zm_f 551 (by decide +kernel) rfl⟩
theorem wy_yX9_extreme : yX9_extreme.cls = RX9 ∧ yX9_extreme.cls ≠ "java/lang/invoke/MethodHandle" ∧ yX9_extreme.cls ≠ "java/lang/invoke/VarHandle" ∧ (parseMethodDescriptor yX9_extreme.desc).map (fun d => d.parameters.length) = some 2 := by decide +kernel
theorem wcRX9_359 : Cond.methodLink RX9 359 yX9_wake ∈ zTg ∧ Cond.instanceMethod yX9_wake ∈ zTg ∧ Cond.selects RX9 yX9_wake yX9_wake ∈ zTg ∧ Cond.initialized RX9 ∈ zTg ∧ Cond.code yX9_wake cX9_wake 3 (some .int) ∈ zTg := ⟨zm_f 553 (by decide +kernel) rfl, zm_f 554 (by decide +kernel) rfl, zm_f 555 (by decide +kernel) rfl, zm_f 37 (by decide +kernel) rfl, zm_f 556 (by decide +kernel) rfl⟩
theorem wy_yX9_wake : yX9_wake.cls = RX9 ∧ yX9_wake.cls ≠ "java/lang/invoke/MethodHandle" ∧ yX9_wake.cls ≠ "java/lang/invoke/VarHandle" ∧ (parseMethodDescriptor yX9_wake.desc).map (fun d => d.parameters.length) = some 2 := by decide +kernel
def fWB_digestTurbine_l6 (a3 : Int32) (s0 : zM) (s1 : zM) (s2 : zM) (s3 : zM) (q1 : Int64 × Int32) : Option ((Int64 × Int32) ⊕ ((Int64) ⊕ ((Int64) ⊕ (String)))) :=
  if (10 : Int32) ≤ q1.2 then
  some (.inr (.inl q1.1))
else
  Option.bind (fWB_ofTurbine a3 q1.2 s0 s1 s2 s3) (Sum.elim (fun q3 =>
    zlet (((q1.1 * (31 : Int64)) + (q3).toInt64)) fun v4 =>
    zlet (q1.2 + 1) fun v5 =>
    some (.inl (v4, v5))) (fun b => some (.inr (.inr (.inr b)))))
def fWB_digestTurbine_l39 (a3 : Int32) (s0 : zM) (s1 : zM) (s2 : zM) (s3 : zM) (q6 : Int64 × Int32) : Option ((Int64 × Int32) ⊕ ((Int64) ⊕ ((Int64) ⊕ (String)))) :=
  if (3 : Int32) ≤ q6.2 then
  some (.inr (.inl q6.1))
else
  Option.bind (fWB_wear a3 q6.2 s0 s1 s2 s3) (Sum.elim (fun q8 =>
    zlet (((q6.1 * (31 : Int64)) + (q8).toInt64)) fun v9 =>
    zlet (q6.2 + 1) fun v10 =>
    some (.inl (v9, v10))) (fun b => some (.inr (.inr (.inr b)))))
def fWB_digestTurbine_l71 (a3 : Int32) (s0 : zM) (s1 : zM) (s2 : zM) (s3 : zM) (q11 : Int64 × Int32) : Option ((Int64 × Int32) ⊕ ((Int64) ⊕ ((Int64) ⊕ (String)))) :=
  if (8 : Int32) ≤ q11.2 then
  some (.inr (.inl q11.1))
else
  Option.bind (fWB_lost a3 q11.2 s0 s1 s2 s3) (Sum.elim (fun q13 =>
    zlet (((q11.1 * (31 : Int64)) + (q13).toInt64)) fun v14 =>
    zlet (q11.2 + 1) fun v15 =>
    some (.inl (v14, v15))) (fun b => some (.inr (.inr (.inr b)))))
def fWB_digestTurbine_l104 (a3 : Int32) (s0 : zM) (s1 : zM) (s2 : zM) (s3 : zM) (q16 : Int64 × Int32) : Option ((Int64 × Int32) ⊕ ((Int64) ⊕ ((Int64) ⊕ (String)))) :=
  zix a3 8 fun j18 =>
  if (s1 10 j18 1) ≤ q16.2 then
  some (.inr (.inl q16.1))
else
  Option.bind (fWB_extreme a3 q16.2 s0 s1 s2 s3) (Sum.elim (fun q19 =>
    zlet (((q16.1 * (31 : Int64)) + (q19).toInt64)) fun v20 =>
    zlet (q16.2 + 1) fun v21 =>
    some (.inl (v20, v21))) (fun b => some (.inr (.inr (.inr b)))))
def fWB_digestTurbine_l150 (a3 : Int32) (s0 : zM) (s1 : zM) (s2 : zM) (s3 : zM) (q22 : Int64 × Int32) : Option ((Int64 × Int32) ⊕ ((Int64) ⊕ ((Int64) ⊕ (String)))) :=
  if (s1 0 0 5) ≤ q22.2 then
  some (.inr (.inl q22.1))
else
  Option.bind (fWB_wake a3 q22.2 s0 s1 s2 s3) (Sum.elim (fun q24 =>
    zlet (((q22.1 * (31 : Int64)) + (q24).toInt64)) fun v25 =>
    zlet (q22.2 + 1) fun v26 =>
    some (.inl (v25, v26))) (fun b => some (.inr (.inr (.inr b)))))
def fWB_digestTurbine (a1 : Int64) (a3 : Int32) (s0 : zM) (s1 : zM) (s2 : zM) (s3 : zM) : Option ((Int64) ⊕ (String)) :=
  Option.bind (ziter (fWB_digestTurbine_l6 a3 s0 s1 s2 s3) 1000 (a1, (0 : Int32))) (Sum.elim (fun q2 =>
  Option.bind (ziter (fWB_digestTurbine_l39 a3 s0 s1 s2 s3) 1000 (q2, (0 : Int32))) (Sum.elim (fun q7 =>
  Option.bind (ziter (fWB_digestTurbine_l71 a3 s0 s1 s2 s3) 1000 (q7, (0 : Int32))) (Sum.elim (fun q12 =>
  Option.bind (ziter (fWB_digestTurbine_l104 a3 s0 s1 s2 s3) 1000 (q12, (0 : Int32))) (Sum.elim (fun q17 =>
  Option.bind (ziter (fWB_digestTurbine_l150 a3 s0 s1 s2 s3) 1000 (q17, (0 : Int32))) (Sum.elim (fun q23 =>
  some (.inl q23)) (fun r => some r))) (fun r => some r))) (fun r => some r))) (fun r => some r))) (fun r => some r))
set_option maxHeartbeats 4000000 in
set_option maxRecDepth 20000 in
theorem bfWB_digestTurbine_l6 {X : zX} (F : zFr X cX9_digestTurbine 7 RX9 (some .long)) (a3 : Int32) (s0 : zM) (s1 : zM) (s2 : zM) (s3 : zM)  {ψ : (Int64 × Int32) ⊕ ((Int64) ⊕ ((Int64) ⊕ (String))) → Option zO} (h1 : ∀ q1 : Int64 × Int32, zZ X [(2, [1, 2, 3]), (0, []), (0, []), (1, [])] 8 134 7 6 [some (zr 0 0 0), none, none, some (zi a3), some (zl q1.1), none, some (zi q1.2)] [] [s0, s1, s2, s3] (ψ (.inl q1))) (h2 : ∀ q2 : Int64, zZ X [(2, [1, 2, 3]), (0, []), (0, []), (1, [])] 8 134 7 36 [some (zr 0 0 0), none, none, some (zi a3), some (zl q2), none, none] [] [s0, s1, s2, s3] (ψ (.inr (.inl q2)))) (h3 : ∀ r, ψ (.inr (.inr r)) = some ((zts (fun q => some (zl q)) (fun _ => [s0, s1, s2, s3]) (fun b => b) (fun _ => [s0, s1, s2, s3])) r)) (q1 : Int64 × Int32) : zZ X [(2, [1, 2, 3]), (0, []), (0, []), (1, [])] 8 134 7 6 [some (zr 0 0 0), none, none, some (zi a3), some (zl q1.1), none, some (zi q1.2)] [] [s0, s1, s2, s3] (Option.bind (fWB_digestTurbine_l6 a3 s0 s1 s2 s3 q1) ψ) := by
  unfold fWB_digestTurbine_l6
  refine zz_iload F (i := 6) dX9_digestTurbine_6 rfl ?_
  refine zz_bipush F (v := (10 : Int32)) dX9_digestTurbine_8 (by decide) ?_
  refine zz_icmp_ge F (tgt := 36) dX9_digestTurbine_10 (by decide) (fun h => zz_t h ?_) (fun h => zz_f h ?_)
  · exact zz_sub (zs_k (zs_k (zs_k (zs_k (zs_k (zs_k (zs_n zs_z))))))) (h2 q1.1)
  · refine zz_lload F (i := 4) dX9_digestTurbine_13 rfl ?_
    refine zz_ldc2 F (v := (31 : Int64)) dX9_digestTurbine_15 wlRX9_326 ?_
    refine zz_lmul F dX9_digestTurbine_18 ?_
    refine zz_aload_n F (i := 0) dX9_digestTurbine_19 rfl rfl ?_
    refine zz_iload_n F (i := 3) dX9_digestTurbine_20 rfl rfl ?_
    refine zz_iload F (i := 6) dX9_digestTurbine_21 rfl ?_
    refine zz_bind ?_
    refine zz_callVx F (ρ := [0, 1, 2, 3]) (so := fun q3 => [zi q3, zl (q1.1 * (31 : Int64))]) (Mo := fun q3 => [s0, s1, s2, s3]) (Xo := fun _ => [s0, s1, s2, s3]) (zfWB_ofTurbine a3 q1.2 s0 s1 s2 s3) dX9_digestTurbine_23 wcRX9_347 wy_yX9_ofTurbine rfl ⟨rel2, rfl, rfl, Nat.le_of_ble_eq_true rfl, Nat.le_of_ble_eq_true rfl, Nat.le_of_ble_eq_true rfl⟩ (⟨zlb rfl, zlb rfl, zlb rfl⟩) rfl rfl rfl (fun _ => rfl) (fun _ => rfl) (fun _ => rfl) (fun _ => (h3 _)) fun q3 => ?_
    dsimp only [Sum.elim_inl]
    refine zz_i2l F dX9_digestTurbine_26 ?_
    refine zz_ladd F dX9_digestTurbine_27 ?_
    refine zz_lstore F (i := 4) (L' := [some (zr 0 0 0), none, none, some (zi a3), some (zl ((q1.1 * (31 : Int64)) + (q3).toInt64)), none, some (zi q1.2)]) dX9_digestTurbine_28 (by decide) rfl rfl ?_
    refine zz_letl (Lf := fun v4 => [some (zr 0 0 0), none, none, some (zi a3), some (zl v4), none, some (zi q1.2)]) fun v4 => ?_
    refine zz_iinc F (i := 6) (v := q1.2 + 1) (L' := [some (zr 0 0 0), none, none, some (zi a3), some (zl v4), none, some (zi (q1.2 + 1))]) dX9_digestTurbine_30 rfl (by first | rfl | decide) (by decide) rfl rfl ?_
    refine zz_letl (Lf := fun v5 => [some (zr 0 0 0), none, none, some (zi a3), some (zl v4), none, some (zi v5)]) fun v5 => ?_
    refine zz_goto F (tgt := 6) dX9_digestTurbine_33 (by decide) ?_
    exact zz_sub (zs_k (zs_k (zs_k (zs_k (zs_k (zs_k (zs_k zs_z))))))) (h1 (v4, v5))
set_option maxHeartbeats 4000000 in
set_option maxRecDepth 20000 in
theorem bfWB_digestTurbine_l39 {X : zX} (F : zFr X cX9_digestTurbine 7 RX9 (some .long)) (a3 : Int32) (s0 : zM) (s1 : zM) (s2 : zM) (s3 : zM)  {ψ : (Int64 × Int32) ⊕ ((Int64) ⊕ ((Int64) ⊕ (String))) → Option zO} (h1 : ∀ q6 : Int64 × Int32, zZ X [(2, [1, 2, 3]), (0, []), (0, []), (1, [])] 8 134 7 39 [some (zr 0 0 0), none, none, some (zi a3), some (zl q6.1), none, some (zi q6.2)] [] [s0, s1, s2, s3] (ψ (.inl q6))) (h2 : ∀ q7 : Int64, zZ X [(2, [1, 2, 3]), (0, []), (0, []), (1, [])] 8 134 7 68 [some (zr 0 0 0), none, none, some (zi a3), some (zl q7), none, none] [] [s0, s1, s2, s3] (ψ (.inr (.inl q7)))) (h3 : ∀ r, ψ (.inr (.inr r)) = some ((zts (fun q => some (zl q)) (fun _ => [s0, s1, s2, s3]) (fun b => b) (fun _ => [s0, s1, s2, s3])) r)) (q6 : Int64 × Int32) : zZ X [(2, [1, 2, 3]), (0, []), (0, []), (1, [])] 8 134 7 39 [some (zr 0 0 0), none, none, some (zi a3), some (zl q6.1), none, some (zi q6.2)] [] [s0, s1, s2, s3] (Option.bind (fWB_digestTurbine_l39 a3 s0 s1 s2 s3 q6) ψ) := by
  unfold fWB_digestTurbine_l39
  refine zz_iload F (i := 6) dX9_digestTurbine_39 rfl ?_
  refine zz_iconst F (v := (3 : Int32)) dX9_digestTurbine_41 (by decide) ?_
  refine zz_icmp_ge F (tgt := 68) dX9_digestTurbine_42 (by decide) (fun h => zz_t h ?_) (fun h => zz_f h ?_)
  · exact zz_sub (zs_k (zs_k (zs_k (zs_k (zs_k (zs_k (zs_n zs_z))))))) (h2 q6.1)
  · refine zz_lload F (i := 4) dX9_digestTurbine_45 rfl ?_
    refine zz_ldc2 F (v := (31 : Int64)) dX9_digestTurbine_47 wlRX9_326 ?_
    refine zz_lmul F dX9_digestTurbine_50 ?_
    refine zz_aload_n F (i := 0) dX9_digestTurbine_51 rfl rfl ?_
    refine zz_iload_n F (i := 3) dX9_digestTurbine_52 rfl rfl ?_
    refine zz_iload F (i := 6) dX9_digestTurbine_53 rfl ?_
    refine zz_bind ?_
    refine zz_callVx F (ρ := [0, 1, 2, 3]) (so := fun q8 => [zi q8, zl (q6.1 * (31 : Int64))]) (Mo := fun q8 => [s0, s1, s2, s3]) (Xo := fun _ => [s0, s1, s2, s3]) (zfWB_wear a3 q6.2 s0 s1 s2 s3) dX9_digestTurbine_55 wcRX9_350 wy_yX9_wear rfl ⟨rel2, rfl, rfl, Nat.le_of_ble_eq_true rfl, Nat.le_of_ble_eq_true rfl, Nat.le_of_ble_eq_true rfl⟩ (⟨zlb rfl, zlb rfl, zlb rfl⟩) rfl rfl rfl (fun _ => rfl) (fun _ => rfl) (fun _ => rfl) (fun _ => (h3 _)) fun q8 => ?_
    dsimp only [Sum.elim_inl]
    refine zz_i2l F dX9_digestTurbine_58 ?_
    refine zz_ladd F dX9_digestTurbine_59 ?_
    refine zz_lstore F (i := 4) (L' := [some (zr 0 0 0), none, none, some (zi a3), some (zl ((q6.1 * (31 : Int64)) + (q8).toInt64)), none, some (zi q6.2)]) dX9_digestTurbine_60 (by decide) rfl rfl ?_
    refine zz_letl (Lf := fun v9 => [some (zr 0 0 0), none, none, some (zi a3), some (zl v9), none, some (zi q6.2)]) fun v9 => ?_
    refine zz_iinc F (i := 6) (v := q6.2 + 1) (L' := [some (zr 0 0 0), none, none, some (zi a3), some (zl v9), none, some (zi (q6.2 + 1))]) dX9_digestTurbine_62 rfl (by first | rfl | decide) (by decide) rfl rfl ?_
    refine zz_letl (Lf := fun v10 => [some (zr 0 0 0), none, none, some (zi a3), some (zl v9), none, some (zi v10)]) fun v10 => ?_
    refine zz_goto F (tgt := 39) dX9_digestTurbine_65 (by decide) ?_
    exact zz_sub (zs_k (zs_k (zs_k (zs_k (zs_k (zs_k (zs_k zs_z))))))) (h1 (v9, v10))
set_option maxHeartbeats 4000000 in
set_option maxRecDepth 20000 in
theorem bfWB_digestTurbine_l71 {X : zX} (F : zFr X cX9_digestTurbine 7 RX9 (some .long)) (a3 : Int32) (s0 : zM) (s1 : zM) (s2 : zM) (s3 : zM)  {ψ : (Int64 × Int32) ⊕ ((Int64) ⊕ ((Int64) ⊕ (String))) → Option zO} (h1 : ∀ q11 : Int64 × Int32, zZ X [(2, [1, 2, 3]), (0, []), (0, []), (1, [])] 8 134 7 71 [some (zr 0 0 0), none, none, some (zi a3), some (zl q11.1), none, some (zi q11.2)] [] [s0, s1, s2, s3] (ψ (.inl q11))) (h2 : ∀ q12 : Int64, zZ X [(2, [1, 2, 3]), (0, []), (0, []), (1, [])] 8 134 7 101 [some (zr 0 0 0), none, none, some (zi a3), some (zl q12), none, none] [] [s0, s1, s2, s3] (ψ (.inr (.inl q12)))) (h3 : ∀ r, ψ (.inr (.inr r)) = some ((zts (fun q => some (zl q)) (fun _ => [s0, s1, s2, s3]) (fun b => b) (fun _ => [s0, s1, s2, s3])) r)) (q11 : Int64 × Int32) : zZ X [(2, [1, 2, 3]), (0, []), (0, []), (1, [])] 8 134 7 71 [some (zr 0 0 0), none, none, some (zi a3), some (zl q11.1), none, some (zi q11.2)] [] [s0, s1, s2, s3] (Option.bind (fWB_digestTurbine_l71 a3 s0 s1 s2 s3 q11) ψ) := by
  unfold fWB_digestTurbine_l71
  refine zz_iload F (i := 6) dX9_digestTurbine_71 rfl ?_
  refine zz_bipush F (v := (8 : Int32)) dX9_digestTurbine_73 (by decide) ?_
  refine zz_icmp_ge F (tgt := 101) dX9_digestTurbine_75 (by decide) (fun h => zz_t h ?_) (fun h => zz_f h ?_)
  · exact zz_sub (zs_k (zs_k (zs_k (zs_k (zs_k (zs_k (zs_n zs_z))))))) (h2 q11.1)
  · refine zz_lload F (i := 4) dX9_digestTurbine_78 rfl ?_
    refine zz_ldc2 F (v := (31 : Int64)) dX9_digestTurbine_80 wlRX9_326 ?_
    refine zz_lmul F dX9_digestTurbine_83 ?_
    refine zz_aload_n F (i := 0) dX9_digestTurbine_84 rfl rfl ?_
    refine zz_iload_n F (i := 3) dX9_digestTurbine_85 rfl rfl ?_
    refine zz_iload F (i := 6) dX9_digestTurbine_86 rfl ?_
    refine zz_bind ?_
    refine zz_callVx F (ρ := [0, 1, 2, 3]) (so := fun q13 => [zi q13, zl (q11.1 * (31 : Int64))]) (Mo := fun q13 => [s0, s1, s2, s3]) (Xo := fun _ => [s0, s1, s2, s3]) (zfWB_lost a3 q11.2 s0 s1 s2 s3) dX9_digestTurbine_88 wcRX9_353 wy_yX9_lost rfl ⟨rel2, rfl, rfl, Nat.le_of_ble_eq_true rfl, Nat.le_of_ble_eq_true rfl, Nat.le_of_ble_eq_true rfl⟩ (⟨zlb rfl, zlb rfl, zlb rfl⟩) rfl rfl rfl (fun _ => rfl) (fun _ => rfl) (fun _ => rfl) (fun _ => (h3 _)) fun q13 => ?_
    dsimp only [Sum.elim_inl]
    refine zz_i2l F dX9_digestTurbine_91 ?_
    refine zz_ladd F dX9_digestTurbine_92 ?_
    refine zz_lstore F (i := 4) (L' := [some (zr 0 0 0), none, none, some (zi a3), some (zl ((q11.1 * (31 : Int64)) + (q13).toInt64)), none, some (zi q11.2)]) dX9_digestTurbine_93 (by decide) rfl rfl ?_
    refine zz_letl (Lf := fun v14 => [some (zr 0 0 0), none, none, some (zi a3), some (zl v14), none, some (zi q11.2)]) fun v14 => ?_
    refine zz_iinc F (i := 6) (v := q11.2 + 1) (L' := [some (zr 0 0 0), none, none, some (zi a3), some (zl v14), none, some (zi (q11.2 + 1))]) dX9_digestTurbine_95 rfl (by first | rfl | decide) (by decide) rfl rfl ?_
    refine zz_letl (Lf := fun v15 => [some (zr 0 0 0), none, none, some (zi a3), some (zl v14), none, some (zi v15)]) fun v15 => ?_
    refine zz_goto F (tgt := 71) dX9_digestTurbine_98 (by decide) ?_
    exact zz_sub (zs_k (zs_k (zs_k (zs_k (zs_k (zs_k (zs_k zs_z))))))) (h1 (v14, v15))
set_option maxHeartbeats 4000000 in
set_option maxRecDepth 20000 in
theorem bfWB_digestTurbine_l104 {X : zX} (F : zFr X cX9_digestTurbine 7 RX9 (some .long)) (a3 : Int32) (s0 : zM) (s1 : zM) (s2 : zM) (s3 : zM)  {ψ : (Int64 × Int32) ⊕ ((Int64) ⊕ ((Int64) ⊕ (String))) → Option zO} (h1 : ∀ q16 : Int64 × Int32, zZ X [(2, [1, 2, 3]), (0, []), (0, []), (1, [])] 8 134 7 104 [some (zr 0 0 0), none, none, some (zi a3), some (zl q16.1), none, some (zi q16.2)] [] [s0, s1, s2, s3] (ψ (.inl q16))) (h2 : ∀ q17 : Int64, zZ X [(2, [1, 2, 3]), (0, []), (0, []), (1, [])] 8 134 7 147 [some (zr 0 0 0), none, none, some (zi a3), some (zl q17), none, none] [] [s0, s1, s2, s3] (ψ (.inr (.inl q17)))) (h3 : ∀ r, ψ (.inr (.inr r)) = some ((zts (fun q => some (zl q)) (fun _ => [s0, s1, s2, s3]) (fun b => b) (fun _ => [s0, s1, s2, s3])) r)) (q16 : Int64 × Int32) : zZ X [(2, [1, 2, 3]), (0, []), (0, []), (1, [])] 8 134 7 104 [some (zr 0 0 0), none, none, some (zi a3), some (zl q16.1), none, some (zi q16.2)] [] [s0, s1, s2, s3] (Option.bind (fWB_digestTurbine_l104 a3 s0 s1 s2 s3 q16) ψ) := by
  unfold fWB_digestTurbine_l104
  refine zz_iload F (i := 6) dX9_digestTurbine_104 rfl ?_
  refine zz_aload_n F (i := 0) dX9_digestTurbine_106 rfl rfl ?_
  refine zz_getr F dX9_digestTurbine_107 wfRX9_10 zCl_8 rfl (⟨zlb rfl, zlb rfl, zlb rfl⟩) rfl (by decide) rfl (r' := 1) (by decide) ?_
  refine zz_getr F dX9_digestTurbine_110 wfRX9_118 zCl_3 rfl (⟨zlb rfl, zlb rfl, zlb rfl⟩) rfl (by decide) rfl (r' := 1) (by decide) ?_
  refine zz_iload_n F (i := 3) dX9_digestTurbine_113 rfl rfl ?_
  refine zz_ix fun j18 hj18 hinj18 hej18 => zz_aal F dX9_digestTurbine_114 rfl (⟨zlb rfl, zlb rfl, zlb rfl⟩) rfl (by decide) rfl hinj18 hej18 rfl ?_
  refine zz_getr F dX9_digestTurbine_115 wfRX9_214 zCl_5 rfl (⟨zlb rfl, zlb rfl, hj18⟩) rfl (by decide) rfl (r' := 1) (by decide) ?_
  refine zz_getf F dX9_digestTurbine_118 wfRX9_223 zCl_1 rfl (⟨zlb rfl, zlb rfl, hj18⟩) rfl (by decide) rfl rfl ?_
  refine zz_icmp_ge F (tgt := 147) dX9_digestTurbine_121 (by decide) (fun h => zz_t h ?_) (fun h => zz_f h ?_)
  · exact zz_sub (zs_k (zs_k (zs_k (zs_k (zs_k (zs_k (zs_n zs_z))))))) (h2 q16.1)
  · refine zz_lload F (i := 4) dX9_digestTurbine_124 rfl ?_
    refine zz_ldc2 F (v := (31 : Int64)) dX9_digestTurbine_126 wlRX9_326 ?_
    refine zz_lmul F dX9_digestTurbine_129 ?_
    refine zz_aload_n F (i := 0) dX9_digestTurbine_130 rfl rfl ?_
    refine zz_iload_n F (i := 3) dX9_digestTurbine_131 rfl rfl ?_
    refine zz_iload F (i := 6) dX9_digestTurbine_132 rfl ?_
    refine zz_bind ?_
    refine zz_callVx F (ρ := [0, 1, 2, 3]) (so := fun q19 => [zi q19, zl (q16.1 * (31 : Int64))]) (Mo := fun q19 => [s0, s1, s2, s3]) (Xo := fun _ => [s0, s1, s2, s3]) (zfWB_extreme a3 q16.2 s0 s1 s2 s3) dX9_digestTurbine_134 wcRX9_356 wy_yX9_extreme rfl ⟨rel2, rfl, rfl, Nat.le_of_ble_eq_true rfl, Nat.le_of_ble_eq_true rfl, Nat.le_of_ble_eq_true rfl⟩ (⟨zlb rfl, zlb rfl, zlb rfl⟩) rfl rfl rfl (fun _ => rfl) (fun _ => rfl) (fun _ => rfl) (fun _ => (h3 _)) fun q19 => ?_
    dsimp only [Sum.elim_inl]
    refine zz_i2l F dX9_digestTurbine_137 ?_
    refine zz_ladd F dX9_digestTurbine_138 ?_
    refine zz_lstore F (i := 4) (L' := [some (zr 0 0 0), none, none, some (zi a3), some (zl ((q16.1 * (31 : Int64)) + (q19).toInt64)), none, some (zi q16.2)]) dX9_digestTurbine_139 (by decide) rfl rfl ?_
    refine zz_letl (Lf := fun v20 => [some (zr 0 0 0), none, none, some (zi a3), some (zl v20), none, some (zi q16.2)]) fun v20 => ?_
    refine zz_iinc F (i := 6) (v := q16.2 + 1) (L' := [some (zr 0 0 0), none, none, some (zi a3), some (zl v20), none, some (zi (q16.2 + 1))]) dX9_digestTurbine_141 rfl (by first | rfl | decide) (by decide) rfl rfl ?_
    refine zz_letl (Lf := fun v21 => [some (zr 0 0 0), none, none, some (zi a3), some (zl v20), none, some (zi v21)]) fun v21 => ?_
    refine zz_goto F (tgt := 104) dX9_digestTurbine_144 (by decide) ?_
    exact zz_sub (zs_k (zs_k (zs_k (zs_k (zs_k (zs_k (zs_k zs_z))))))) (h1 (v20, v21))
set_option maxHeartbeats 4000000 in
set_option maxRecDepth 20000 in
theorem bfWB_digestTurbine_l150 {X : zX} (F : zFr X cX9_digestTurbine 7 RX9 (some .long)) (a3 : Int32) (s0 : zM) (s1 : zM) (s2 : zM) (s3 : zM)  {ψ : (Int64 × Int32) ⊕ ((Int64) ⊕ ((Int64) ⊕ (String))) → Option zO} (h1 : ∀ q22 : Int64 × Int32, zZ X [(2, [1, 2, 3]), (0, []), (0, []), (1, [])] 8 134 7 150 [some (zr 0 0 0), none, none, some (zi a3), some (zl q22.1), none, some (zi q22.2)] [] [s0, s1, s2, s3] (ψ (.inl q22))) (h2 : ∀ q23 : Int64, zZ X [(2, [1, 2, 3]), (0, []), (0, []), (1, [])] 8 134 7 185 [none, none, none, none, some (zl q23), none, none] [] [s0, s1, s2, s3] (ψ (.inr (.inl q23)))) (h3 : ∀ r, ψ (.inr (.inr r)) = some ((zts (fun q => some (zl q)) (fun _ => [s0, s1, s2, s3]) (fun b => b) (fun _ => [s0, s1, s2, s3])) r)) (q22 : Int64 × Int32) : zZ X [(2, [1, 2, 3]), (0, []), (0, []), (1, [])] 8 134 7 150 [some (zr 0 0 0), none, none, some (zi a3), some (zl q22.1), none, some (zi q22.2)] [] [s0, s1, s2, s3] (Option.bind (fWB_digestTurbine_l150 a3 s0 s1 s2 s3 q22) ψ) := by
  unfold fWB_digestTurbine_l150
  refine zz_iload F (i := 6) dX9_digestTurbine_150 rfl ?_
  refine zz_aload_n F (i := 0) dX9_digestTurbine_152 rfl rfl ?_
  refine zz_getr F dX9_digestTurbine_153 wfRX9_10 zCl_8 rfl (⟨zlb rfl, zlb rfl, zlb rfl⟩) rfl (by decide) rfl (r' := 1) (by decide) ?_
  refine zz_getf F dX9_digestTurbine_156 wfRX9_56 zCl_3 rfl (⟨zlb rfl, zlb rfl, zlb rfl⟩) rfl (by decide) rfl rfl ?_
  refine zz_icmp_ge F (tgt := 185) dX9_digestTurbine_159 (by decide) (fun h => zz_t h ?_) (fun h => zz_f h ?_)
  · exact zz_sub (zs_n (zs_k (zs_k (zs_n (zs_k (zs_k (zs_n zs_z))))))) (h2 q22.1)
  · refine zz_lload F (i := 4) dX9_digestTurbine_162 rfl ?_
    refine zz_ldc2 F (v := (31 : Int64)) dX9_digestTurbine_164 wlRX9_326 ?_
    refine zz_lmul F dX9_digestTurbine_167 ?_
    refine zz_aload_n F (i := 0) dX9_digestTurbine_168 rfl rfl ?_
    refine zz_iload_n F (i := 3) dX9_digestTurbine_169 rfl rfl ?_
    refine zz_iload F (i := 6) dX9_digestTurbine_170 rfl ?_
    refine zz_bind ?_
    refine zz_callVx F (ρ := [0, 1, 2, 3]) (so := fun q24 => [zi q24, zl (q22.1 * (31 : Int64))]) (Mo := fun q24 => [s0, s1, s2, s3]) (Xo := fun _ => [s0, s1, s2, s3]) (zfWB_wake a3 q22.2 s0 s1 s2 s3) dX9_digestTurbine_172 wcRX9_359 wy_yX9_wake rfl ⟨rel2, rfl, rfl, Nat.le_of_ble_eq_true rfl, Nat.le_of_ble_eq_true rfl, Nat.le_of_ble_eq_true rfl⟩ (⟨zlb rfl, zlb rfl, zlb rfl⟩) rfl rfl rfl (fun _ => rfl) (fun _ => rfl) (fun _ => rfl) (fun _ => (h3 _)) fun q24 => ?_
    dsimp only [Sum.elim_inl]
    refine zz_i2l F dX9_digestTurbine_175 ?_
    refine zz_ladd F dX9_digestTurbine_176 ?_
    refine zz_lstore F (i := 4) (L' := [some (zr 0 0 0), none, none, some (zi a3), some (zl ((q22.1 * (31 : Int64)) + (q24).toInt64)), none, some (zi q22.2)]) dX9_digestTurbine_177 (by decide) rfl rfl ?_
    refine zz_letl (Lf := fun v25 => [some (zr 0 0 0), none, none, some (zi a3), some (zl v25), none, some (zi q22.2)]) fun v25 => ?_
    refine zz_iinc F (i := 6) (v := q22.2 + 1) (L' := [some (zr 0 0 0), none, none, some (zi a3), some (zl v25), none, some (zi (q22.2 + 1))]) dX9_digestTurbine_179 rfl (by first | rfl | decide) (by decide) rfl rfl ?_
    refine zz_letl (Lf := fun v26 => [some (zr 0 0 0), none, none, some (zi a3), some (zl v25), none, some (zi v26)]) fun v26 => ?_
    refine zz_goto F (tgt := 150) dX9_digestTurbine_182 (by decide) ?_
    exact zz_sub (zs_k (zs_k (zs_k (zs_k (zs_k (zs_k (zs_k zs_z))))))) (h1 (v25, v26))
set_option maxHeartbeats 4000000 in
set_option maxRecDepth 20000 in
theorem bfWB_digestTurbine {X : zX} (F : zFr X cX9_digestTurbine 7 RX9 (some .long)) (a1 : Int64) (a3 : Int32)  (s0 : zM) (s1 : zM) (s2 : zM) (s3 : zM) {κ : (Int64) ⊕ (String) → Option zO} (hκ : ∀ a, κ a = some ((zts (fun q => some (zl q)) (fun _ => [s0, s1, s2, s3]) (fun b => b) (fun _ => [s0, s1, s2, s3])) a)) : zZ X [(2, [1, 2, 3]), (0, []), (0, []), (1, [])] 8 134 7 0 [some (zr 0 0 0), some (zl a1), none, some (zi a3), none, none, none] [] [s0, s1, s2, s3] (Option.bind (fWB_digestTurbine a1 a3 s0 s1 s2 s3) κ) := by
  unfold fWB_digestTurbine
  refine zz_lload_n F (i := 1) dX9_digestTurbine_0 rfl rfl ?_
  refine zz_lstore F (i := 4) (L' := [some (zr 0 0 0), some (zl a1), none, some (zi a3), some (zl a1), none, none]) dX9_digestTurbine_1 (by decide) rfl rfl ?_
  refine zz_iconst F (v := (0 : Int32)) dX9_digestTurbine_3 (by decide) ?_
  refine zz_istore F (i := 6) (L' := [some (zr 0 0 0), some (zl a1), none, some (zi a3), some (zl a1), none, some (zi (0 : Int32))]) dX9_digestTurbine_4 (by decide) rfl rfl ?_
  refine zz_sub (zs_k (zs_n (zs_k (zs_k (zs_k (zs_k (zs_k zs_z))))))) ?_
  refine zz_bind ?_
  refine zz_iter (Lf := fun q1 => [some (zr 0 0 0), none, none, some (zi a3), some (zl q1.1), none, some (zi q1.2)]) (Mf := fun q1 => [s0, s1, s2, s3]) (fun q1 _ e35 e36 => bfWB_digestTurbine_l6 F a3 s0 s1 s2 s3  e35 (fun q2 => ?_) (fun r => ?_) q1) 1000 (a1, (0 : Int32))
  · rw [e36]
    dsimp only [Sum.elim_inl]
    refine zz_iconst F (v := (0 : Int32)) dX9_digestTurbine_36 (by decide) ?_
    refine zz_istore F (i := 6) (L' := [some (zr 0 0 0), none, none, some (zi a3), some (zl q2), none, some (zi (0 : Int32))]) dX9_digestTurbine_37 (by decide) rfl rfl ?_
    refine zz_sub (zs_k (zs_k (zs_k (zs_k (zs_k (zs_k (zs_k zs_z))))))) ?_
    refine zz_bind ?_
    refine zz_iter (Lf := fun q6 => [some (zr 0 0 0), none, none, some (zi a3), some (zl q6.1), none, some (zi q6.2)]) (Mf := fun q6 => [s0, s1, s2, s3]) (fun q6 _ e33 e34 => bfWB_digestTurbine_l39 F a3 s0 s1 s2 s3  e33 (fun q7 => ?_) (fun r => ?_) q6) 1000 (q2, (0 : Int32))
    · rw [e34]
      dsimp only [Sum.elim_inl]
      refine zz_iconst F (v := (0 : Int32)) dX9_digestTurbine_68 (by decide) ?_
      refine zz_istore F (i := 6) (L' := [some (zr 0 0 0), none, none, some (zi a3), some (zl q7), none, some (zi (0 : Int32))]) dX9_digestTurbine_69 (by decide) rfl rfl ?_
      refine zz_sub (zs_k (zs_k (zs_k (zs_k (zs_k (zs_k (zs_k zs_z))))))) ?_
      refine zz_bind ?_
      refine zz_iter (Lf := fun q11 => [some (zr 0 0 0), none, none, some (zi a3), some (zl q11.1), none, some (zi q11.2)]) (Mf := fun q11 => [s0, s1, s2, s3]) (fun q11 _ e31 e32 => bfWB_digestTurbine_l71 F a3 s0 s1 s2 s3  e31 (fun q12 => ?_) (fun r => ?_) q11) 1000 (q7, (0 : Int32))
      · rw [e32]
        dsimp only [Sum.elim_inl]
        refine zz_iconst F (v := (0 : Int32)) dX9_digestTurbine_101 (by decide) ?_
        refine zz_istore F (i := 6) (L' := [some (zr 0 0 0), none, none, some (zi a3), some (zl q12), none, some (zi (0 : Int32))]) dX9_digestTurbine_102 (by decide) rfl rfl ?_
        refine zz_sub (zs_k (zs_k (zs_k (zs_k (zs_k (zs_k (zs_k zs_z))))))) ?_
        refine zz_bind ?_
        refine zz_iter (Lf := fun q16 => [some (zr 0 0 0), none, none, some (zi a3), some (zl q16.1), none, some (zi q16.2)]) (Mf := fun q16 => [s0, s1, s2, s3]) (fun q16 _ e29 e30 => bfWB_digestTurbine_l104 F a3 s0 s1 s2 s3  e29 (fun q17 => ?_) (fun r => ?_) q16) 1000 (q12, (0 : Int32))
        · rw [e30]
          dsimp only [Sum.elim_inl]
          refine zz_iconst F (v := (0 : Int32)) dX9_digestTurbine_147 (by decide) ?_
          refine zz_istore F (i := 6) (L' := [some (zr 0 0 0), none, none, some (zi a3), some (zl q17), none, some (zi (0 : Int32))]) dX9_digestTurbine_148 (by decide) rfl rfl ?_
          refine zz_sub (zs_k (zs_k (zs_k (zs_k (zs_k (zs_k (zs_k zs_z))))))) ?_
          refine zz_bind ?_
          refine zz_iter (Lf := fun q22 => [some (zr 0 0 0), none, none, some (zi a3), some (zl q22.1), none, some (zi q22.2)]) (Mf := fun q22 => [s0, s1, s2, s3]) (fun q22 _ e27 e28 => bfWB_digestTurbine_l150 F a3 s0 s1 s2 s3  e27 (fun q23 => ?_) (fun r => ?_) q22) 1000 (q17, (0 : Int32))
          · rw [e28]
            dsimp only [Sum.elim_inl]
            refine zz_lload F (i := 4) dX9_digestTurbine_185 rfl ?_
            exact zz_lreturn F dX9_digestTurbine_187 rfl (hκ _)
          · exact (e28 _).trans (hκ _)
        · exact (e30 _).trans (hκ _)
      · exact (e32 _).trans (hκ _)
    · exact (e34 _).trans (hκ _)
  · exact (e36 _).trans (hκ _)
theorem zfWB_digestTurbine (a1 : Int64) (a3 : Int32)  (s0 : zM) (s1 : zM) (s2 : zM) (s3 : zM) : ∀ a, fWB_digestTurbine a1 a3 s0 s1 s2 s3 = some a → zMet yX9_digestTurbine cX9_digestTurbine 7 (some .long) 8 134 [(2, [1, 2, 3]), (0, []), (0, []), (1, [])] [zr 0 0 0, zl a1, zi a3] [s0, s1, s2, s3] ((zts (fun q => some (zl q)) (fun _ => [s0, s1, s2, s3]) (fun b => b) (fun _ => [s0, s1, s2, s3])) a) := fun a ha => zMet_of (L0 := [some (zr 0 0 0), some (zl a1), none, some (zi a3), none, none, none]) (φ := Option.bind (fWB_digestTurbine a1 a3 s0 s1 s2 s3) (fun a => some ((zts (fun q => some (zl q)) (fun _ => [s0, s1, s2, s3]) (fun b => b) (fun _ => [s0, s1, s2, s3])) a))) (by decide) (fun _ => Nat.le_of_ble_eq_true rfl) (zl0 3 rfl) (fun X F => bfWB_digestTurbine F a1 a3 s0 s1 s2 s3 (fun _ => rfl)) (by rw [ha]; rfl)

theorem dX9_digest_0 : decode cX9_digest 0 = .ok (.ldc2_w 324, 3) := by decide +kernel
theorem dX9_digest_3 : decode cX9_digest 3 = .ok (.lstore_n 1, 1) := by decide +kernel
theorem dX9_digest_4 : decode cX9_digest 4 = .ok (.iconst 0, 1) := by decide +kernel
theorem dX9_digest_5 : decode cX9_digest 5 = .ok (.istore_n 3, 1) := by decide +kernel
theorem dX9_digest_6 : decode cX9_digest 6 = .ok (.iload_n 3, 1) := by decide +kernel
theorem dX9_digest_7 : decode cX9_digest 7 = .ok (.bipush 14, 2) := by decide +kernel
theorem dX9_digest_9 : decode cX9_digest 9 = .ok (.if_icmp .ge 22, 3) := by decide +kernel
theorem dX9_digest_12 : decode cX9_digest 12 = .ok (.lload_n 1, 1) := by decide +kernel
theorem dX9_digest_13 : decode cX9_digest 13 = .ok (.ldc2_w 326, 3) := by decide +kernel
theorem dX9_digest_16 : decode cX9_digest 16 = .ok (.lmul, 1) := by decide +kernel
theorem dX9_digest_17 : decode cX9_digest 17 = .ok (.aload_n 0, 1) := by decide +kernel
theorem dX9_digest_18 : decode cX9_digest 18 = .ok (.iload_n 3, 1) := by decide +kernel
theorem dX9_digest_19 : decode cX9_digest 19 = .ok (.invokevirtual 328, 3) := by decide +kernel
theorem dX9_digest_22 : decode cX9_digest 22 = .ok (.i2l, 1) := by decide +kernel
theorem dX9_digest_23 : decode cX9_digest 23 = .ok (.ladd, 1) := by decide +kernel
theorem dX9_digest_24 : decode cX9_digest 24 = .ok (.lstore_n 1, 1) := by decide +kernel
theorem dX9_digest_25 : decode cX9_digest 25 = .ok (.iinc 3 1, 3) := by decide +kernel
theorem dX9_digest_28 : decode cX9_digest 28 = .ok (.goto (-22), 3) := by decide +kernel
theorem dX9_digest_31 : decode cX9_digest 31 = .ok (.iconst 0, 1) := by decide +kernel
theorem dX9_digest_32 : decode cX9_digest 32 = .ok (.istore_n 3, 1) := by decide +kernel
theorem dX9_digest_33 : decode cX9_digest 33 = .ok (.iload_n 3, 1) := by decide +kernel
theorem dX9_digest_34 : decode cX9_digest 34 = .ok (.aload_n 0, 1) := by decide +kernel
theorem dX9_digest_35 : decode cX9_digest 35 = .ok (.getfield 10, 3) := by decide +kernel
theorem dX9_digest_38 : decode cX9_digest 38 = .ok (.getfield 56, 3) := by decide +kernel
theorem dX9_digest_41 : decode cX9_digest 41 = .ok (.if_icmp .ge 27, 3) := by decide +kernel
theorem dX9_digest_44 : decode cX9_digest 44 = .ok (.aload_n 0, 1) := by decide +kernel
theorem dX9_digest_45 : decode cX9_digest 45 = .ok (.lload_n 1, 1) := by decide +kernel
theorem dX9_digest_46 : decode cX9_digest 46 = .ok (.iload_n 3, 1) := by decide +kernel
theorem dX9_digest_47 : decode cX9_digest 47 = .ok (.invokevirtual 331, 3) := by decide +kernel
theorem dX9_digest_50 : decode cX9_digest 50 = .ok (.ldc2_w 326, 3) := by decide +kernel
theorem dX9_digest_53 : decode cX9_digest 53 = .ok (.lmul, 1) := by decide +kernel
theorem dX9_digest_54 : decode cX9_digest 54 = .ok (.aload_n 0, 1) := by decide +kernel
theorem dX9_digest_55 : decode cX9_digest 55 = .ok (.iload_n 3, 1) := by decide +kernel
theorem dX9_digest_56 : decode cX9_digest 56 = .ok (.invokevirtual 335, 3) := by decide +kernel
theorem dX9_digest_59 : decode cX9_digest 59 = .ok (.i2l, 1) := by decide +kernel
theorem dX9_digest_60 : decode cX9_digest 60 = .ok (.ladd, 1) := by decide +kernel
theorem dX9_digest_61 : decode cX9_digest 61 = .ok (.lstore_n 1, 1) := by decide +kernel
theorem dX9_digest_62 : decode cX9_digest 62 = .ok (.iinc 3 1, 3) := by decide +kernel
theorem dX9_digest_65 : decode cX9_digest 65 = .ok (.goto (-32), 3) := by decide +kernel
theorem dX9_digest_68 : decode cX9_digest 68 = .ok (.iconst 0, 1) := by decide +kernel
theorem dX9_digest_69 : decode cX9_digest 69 = .ok (.istore_n 3, 1) := by decide +kernel
theorem dX9_digest_70 : decode cX9_digest 70 = .ok (.iload_n 3, 1) := by decide +kernel
theorem dX9_digest_71 : decode cX9_digest 71 = .ok (.aload_n 0, 1) := by decide +kernel
theorem dX9_digest_72 : decode cX9_digest 72 = .ok (.getfield 10, 3) := by decide +kernel
theorem dX9_digest_75 : decode cX9_digest 75 = .ok (.getfield 37, 3) := by decide +kernel
theorem dX9_digest_78 : decode cX9_digest 78 = .ok (.if_icmp .ge 39, 3) := by decide +kernel
theorem dX9_digest_81 : decode cX9_digest 81 = .ok (.iconst 0, 1) := by decide +kernel
theorem dX9_digest_82 : decode cX9_digest 82 = .ok (.istore 4, 2) := by decide +kernel
theorem dX9_digest_84 : decode cX9_digest 84 = .ok (.iload 4, 2) := by decide +kernel
theorem dX9_digest_86 : decode cX9_digest 86 = .ok (.iconst 4, 1) := by decide +kernel
theorem dX9_digest_87 : decode cX9_digest 87 = .ok (.if_icmp .ge 24, 3) := by decide +kernel
theorem dX9_digest_90 : decode cX9_digest 90 = .ok (.lload_n 1, 1) := by decide +kernel
theorem dX9_digest_91 : decode cX9_digest 91 = .ok (.ldc2_w 326, 3) := by decide +kernel
theorem dX9_digest_94 : decode cX9_digest 94 = .ok (.lmul, 1) := by decide +kernel
theorem dX9_digest_95 : decode cX9_digest 95 = .ok (.aload_n 0, 1) := by decide +kernel
theorem dX9_digest_96 : decode cX9_digest 96 = .ok (.iload_n 3, 1) := by decide +kernel
theorem dX9_digest_97 : decode cX9_digest 97 = .ok (.iload 4, 2) := by decide +kernel
theorem dX9_digest_99 : decode cX9_digest 99 = .ok (.invokevirtual 338, 3) := by decide +kernel
theorem dX9_digest_102 : decode cX9_digest 102 = .ok (.i2l, 1) := by decide +kernel
theorem dX9_digest_103 : decode cX9_digest 103 = .ok (.ladd, 1) := by decide +kernel
theorem dX9_digest_104 : decode cX9_digest 104 = .ok (.lstore_n 1, 1) := by decide +kernel
theorem dX9_digest_105 : decode cX9_digest 105 = .ok (.iinc 4 1, 3) := by decide +kernel
theorem dX9_digest_108 : decode cX9_digest 108 = .ok (.goto (-24), 3) := by decide +kernel
theorem dX9_digest_111 : decode cX9_digest 111 = .ok (.iinc 3 1, 3) := by decide +kernel
theorem dX9_digest_114 : decode cX9_digest 114 = .ok (.goto (-44), 3) := by decide +kernel
theorem dX9_digest_117 : decode cX9_digest 117 = .ok (.iconst 0, 1) := by decide +kernel
theorem dX9_digest_118 : decode cX9_digest 118 = .ok (.istore_n 3, 1) := by decide +kernel
theorem dX9_digest_119 : decode cX9_digest 119 = .ok (.iload_n 3, 1) := by decide +kernel
theorem dX9_digest_120 : decode cX9_digest 120 = .ok (.aload_n 0, 1) := by decide +kernel
theorem dX9_digest_121 : decode cX9_digest 121 = .ok (.getfield 10, 3) := by decide +kernel
theorem dX9_digest_124 : decode cX9_digest 124 = .ok (.getfield 71, 3) := by decide +kernel
theorem dX9_digest_127 : decode cX9_digest 127 = .ok (.if_icmp .ge 39, 3) := by decide +kernel
theorem dX9_digest_130 : decode cX9_digest 130 = .ok (.iconst 0, 1) := by decide +kernel
theorem dX9_digest_131 : decode cX9_digest 131 = .ok (.istore 4, 2) := by decide +kernel
theorem dX9_digest_133 : decode cX9_digest 133 = .ok (.iload 4, 2) := by decide +kernel
theorem dX9_digest_135 : decode cX9_digest 135 = .ok (.iconst 5, 1) := by decide +kernel
theorem dX9_digest_136 : decode cX9_digest 136 = .ok (.if_icmp .ge 24, 3) := by decide +kernel
theorem dX9_digest_139 : decode cX9_digest 139 = .ok (.lload_n 1, 1) := by decide +kernel
theorem dX9_digest_140 : decode cX9_digest 140 = .ok (.ldc2_w 326, 3) := by decide +kernel
theorem dX9_digest_143 : decode cX9_digest 143 = .ok (.lmul, 1) := by decide +kernel
theorem dX9_digest_144 : decode cX9_digest 144 = .ok (.aload_n 0, 1) := by decide +kernel
theorem dX9_digest_145 : decode cX9_digest 145 = .ok (.iload_n 3, 1) := by decide +kernel
theorem dX9_digest_146 : decode cX9_digest 146 = .ok (.iload 4, 2) := by decide +kernel
theorem dX9_digest_148 : decode cX9_digest 148 = .ok (.invokevirtual 341, 3) := by decide +kernel
theorem dX9_digest_151 : decode cX9_digest 151 = .ok (.i2l, 1) := by decide +kernel
theorem dX9_digest_152 : decode cX9_digest 152 = .ok (.ladd, 1) := by decide +kernel
theorem dX9_digest_153 : decode cX9_digest 153 = .ok (.lstore_n 1, 1) := by decide +kernel
theorem dX9_digest_154 : decode cX9_digest 154 = .ok (.iinc 4 1, 3) := by decide +kernel
theorem dX9_digest_157 : decode cX9_digest 157 = .ok (.goto (-24), 3) := by decide +kernel
theorem dX9_digest_160 : decode cX9_digest 160 = .ok (.iinc 3 1, 3) := by decide +kernel
theorem dX9_digest_163 : decode cX9_digest 163 = .ok (.goto (-44), 3) := by decide +kernel
theorem dX9_digest_166 : decode cX9_digest 166 = .ok (.lload_n 1, 1) := by decide +kernel
theorem dX9_digest_167 : decode cX9_digest 167 = .ok (.ldc2_w 326, 3) := by decide +kernel
theorem dX9_digest_170 : decode cX9_digest 170 = .ok (.lmul, 1) := by decide +kernel
theorem dX9_digest_171 : decode cX9_digest 171 = .ok (.aload_n 0, 1) := by decide +kernel
theorem dX9_digest_172 : decode cX9_digest 172 = .ok (.iconst 3, 1) := by decide +kernel
theorem dX9_digest_173 : decode cX9_digest 173 = .ok (.invokevirtual 344, 3) := by decide +kernel
theorem dX9_digest_176 : decode cX9_digest 176 = .ok (.i2l, 1) := by decide +kernel
theorem dX9_digest_177 : decode cX9_digest 177 = .ok (.ladd, 1) := by decide +kernel
theorem dX9_digest_178 : decode cX9_digest 178 = .ok (.lreturn, 1) := by decide +kernel
theorem wlRX9_324 : Cond.constantLong RX9 324 (58176 : Int64) ∈ zTg := zm_f 402 (by decide +kernel) rfl
theorem wcRX9_328 : Cond.methodLink RX9 328 yX9_many ∈ zTg ∧ Cond.instanceMethod yX9_many ∈ zTg ∧ Cond.selects RX9 yX9_many yX9_many ∈ zTg ∧ Cond.initialized RX9 ∈ zTg ∧ Cond.code yX9_many cX9_many 2 (some .int) ∈ zTg := ⟨zm_f 404 (by decide +kernel) rfl, zm_f 405 (by decide +kernel) rfl, zm_f 406 (by decide +kernel) rfl, zm_f 37 (by decide +kernel) rfl, zm_f 407 (by decide +kernel) rfl⟩
theorem wy_yX9_many : yX9_many.cls = RX9 ∧ yX9_many.cls ≠ "java/lang/invoke/MethodHandle" ∧ yX9_many.cls ≠ "java/lang/invoke/VarHandle" ∧ (parseMethodDescriptor yX9_many.desc).map (fun d => d.parameters.length) = some 1 := by decide +kernel
theorem wcRX9_331 : Cond.methodLink RX9 331 yX9_digestTurbine ∈ zTg ∧ Cond.instanceMethod yX9_digestTurbine ∈ zTg ∧ Cond.selects RX9 yX9_digestTurbine yX9_digestTurbine ∈ zTg ∧ Cond.initialized RX9 ∈ zTg ∧ Cond.code yX9_digestTurbine cX9_digestTurbine 7 (some .long) ∈ zTg := ⟨zm_f 488 (by decide +kernel) rfl, zm_f 490 (by decide +kernel) rfl, zm_f 3 (by decide +kernel) rfl, zm_f 37 (by decide +kernel) rfl, zm_f 491 (by decide +kernel) rfl⟩
theorem wy_yX9_digestTurbine : yX9_digestTurbine.cls = RX9 ∧ yX9_digestTurbine.cls ≠ "java/lang/invoke/MethodHandle" ∧ yX9_digestTurbine.cls ≠ "java/lang/invoke/VarHandle" ∧ (parseMethodDescriptor yX9_digestTurbine.desc).map (fun d => d.parameters.length) = some 2 := by decide +kernel
theorem wcRX9_335 : Cond.methodLink RX9 335 yX9_bestTurn ∈ zTg ∧ Cond.instanceMethod yX9_bestTurn ∈ zTg ∧ Cond.selects RX9 yX9_bestTurn yX9_bestTurn ∈ zTg ∧ Cond.initialized RX9 ∈ zTg ∧ Cond.code yX9_bestTurn cX9_bestTurn 6 (some .int) ∈ zTg := ⟨zm_f 558 (by decide +kernel) rfl, zm_f 559 (by decide +kernel) rfl, zm_f 560 (by decide +kernel) rfl, zm_f 37 (by decide +kernel) rfl, zm_f 561 (by decide +kernel) rfl⟩
theorem wy_yX9_bestTurn : yX9_bestTurn.cls = RX9 ∧ yX9_bestTurn.cls ≠ "java/lang/invoke/MethodHandle" ∧ yX9_bestTurn.cls ≠ "java/lang/invoke/VarHandle" ∧ (parseMethodDescriptor yX9_bestTurn.desc).map (fun d => d.parameters.length) = some 1 := by decide +kernel
theorem wcRX9_338 : Cond.methodLink RX9 338 yX9_ofString ∈ zTg ∧ Cond.instanceMethod yX9_ofString ∈ zTg ∧ Cond.selects RX9 yX9_ofString yX9_ofString ∈ zTg ∧ Cond.initialized RX9 ∈ zTg ∧ Cond.code yX9_ofString cX9_ofString 4 (some .int) ∈ zTg := ⟨zm_f 716 (by decide +kernel) rfl, zm_f 717 (by decide +kernel) rfl, zm_f 718 (by decide +kernel) rfl, zm_f 37 (by decide +kernel) rfl, zm_f 719 (by decide +kernel) rfl⟩
theorem wy_yX9_ofString : yX9_ofString.cls = RX9 ∧ yX9_ofString.cls ≠ "java/lang/invoke/MethodHandle" ∧ yX9_ofString.cls ≠ "java/lang/invoke/VarHandle" ∧ (parseMethodDescriptor yX9_ofString.desc).map (fun d => d.parameters.length) = some 2 := by decide +kernel
theorem wcRX9_341 : Cond.methodLink RX9 341 yX9_ofVessel ∈ zTg ∧ Cond.instanceMethod yX9_ofVessel ∈ zTg ∧ Cond.selects RX9 yX9_ofVessel yX9_ofVessel ∈ zTg ∧ Cond.initialized RX9 ∈ zTg ∧ Cond.code yX9_ofVessel cX9_ofVessel 4 (some .int) ∈ zTg := ⟨zm_f 727 (by decide +kernel) rfl, zm_f 728 (by decide +kernel) rfl, zm_f 729 (by decide +kernel) rfl, zm_f 37 (by decide +kernel) rfl, zm_f 730 (by decide +kernel) rfl⟩
theorem wy_yX9_ofVessel : yX9_ofVessel.cls = RX9 ∧ yX9_ofVessel.cls ≠ "java/lang/invoke/MethodHandle" ∧ yX9_ofVessel.cls ≠ "java/lang/invoke/VarHandle" ∧ (parseMethodDescriptor yX9_ofVessel.desc).map (fun d => d.parameters.length) = some 2 := by decide +kernel
theorem wcRX9_344 : Cond.methodLink RX9 344 yX9_wouldDeliver ∈ zTg ∧ Cond.instanceMethod yX9_wouldDeliver ∈ zTg ∧ Cond.selects RX9 yX9_wouldDeliver yX9_wouldDeliver ∈ zTg ∧ Cond.initialized RX9 ∈ zTg ∧ Cond.code yX9_wouldDeliver cX9_wouldDeliver 2 (some .int) ∈ zTg := ⟨zm_f 737 (by decide +kernel) rfl, zm_f 738 (by decide +kernel) rfl, zm_f 739 (by decide +kernel) rfl, zm_f 37 (by decide +kernel) rfl, zm_f 740 (by decide +kernel) rfl⟩
theorem wy_yX9_wouldDeliver : yX9_wouldDeliver.cls = RX9 ∧ yX9_wouldDeliver.cls ≠ "java/lang/invoke/MethodHandle" ∧ yX9_wouldDeliver.cls ≠ "java/lang/invoke/VarHandle" ∧ (parseMethodDescriptor yX9_wouldDeliver.desc).map (fun d => d.parameters.length) = some 1 := by decide +kernel
def fWB_digest_l6 (s0 : zM) (s1 : zM) (s2 : zM) (s3 : zM) (q1 : Int64 × Int32) : Option ((Int64 × Int32) ⊕ ((Int64) ⊕ ((Int64 × zM) ⊕ (String × zM)))) :=
  if (14 : Int32) ≤ q1.2 then
  some (.inr (.inl q1.1))
else
  Option.bind (fWB_many q1.2 s0 s1 s2 s3) (Sum.elim (fun q3 =>
    zlet (((q1.1 * (31 : Int64)) + (q3).toInt64)) fun v4 =>
    zlet (q1.2 + 1) fun v5 =>
    some (.inl (v4, v5))) (fun b => some (.inr (.inr (.inr (b, s2))))))
def fWB_digest_l33 (s0 : zM) (s1 : zM) (s3 : zM) (q6 : Int64 × Int32 × zM) : Option ((Int64 × Int32 × zM) ⊕ ((Int64 × zM) ⊕ ((Int64 × zM) ⊕ (String × zM)))) :=
  if (s1 0 0 5) ≤ q6.2.1 then
  some (.inr (.inl (q6.1, q6.2.2)))
else
  Option.bind (fWB_digestTurbine q6.1 q6.2.1 s0 s1 q6.2.2 s3) (Sum.elim (fun q8 =>
    Option.bind (fWB_bestTurn q6.2.1 s0 s1 q6.2.2 s3) (Sum.elim (fun q9 =>
    zlet (((q8 * (31 : Int64)) + (q9.1).toInt64)) fun v10 =>
    zlet (q6.2.1 + 1) fun v11 =>
    some (.inl (v10, v11, q9.2))) (fun b => some (.inr (.inr (.inr (b.1, b.2))))))) (fun b => some (.inr (.inr (.inr (b, q6.2.2))))))
def fWB_digest_l84 (s0 : zM) (s1 : zM) (s3 : zM) (q7 : (Int64 × zM)) (q12 : (Int64 × Int32)) (q14 : Int64 × Int32) : Option ((Int64 × Int32) ⊕ ((Int64) ⊕ ((Int64 × zM) ⊕ (String × zM)))) :=
  if (4 : Int32) ≤ q14.2 then
  some (.inr (.inl q14.1))
else
  Option.bind (fWB_ofString q12.2 q14.2 s0 s1 q7.2 s3) (Sum.elim (fun q16 =>
    zlet (((q14.1 * (31 : Int64)) + (q16).toInt64)) fun v17 =>
    zlet (q14.2 + 1) fun v18 =>
    some (.inl (v17, v18))) (fun b => some (.inr (.inr (.inr (b, q7.2))))))
def fWB_digest_l70 (s0 : zM) (s1 : zM) (s3 : zM) (q7 : (Int64 × zM)) (q12 : Int64 × Int32) : Option ((Int64 × Int32) ⊕ ((Int64) ⊕ ((Int64 × zM) ⊕ (String × zM)))) :=
  if (s1 0 0 6) ≤ q12.2 then
  some (.inr (.inl q12.1))
else
  Option.bind (ziter (fWB_digest_l84 s0 s1 s3 q7 q12) 1000 (q12.1, (0 : Int32))) (Sum.elim (fun q15 =>
    zlet (q12.2 + 1) fun v19 =>
    some (.inl (q15, v19))) (fun r => some (.inr (.inr r))))
def fWB_digest_l133 (s0 : zM) (s1 : zM) (s3 : zM) (q7 : (Int64 × zM)) (q22 : (Int64 × Int32)) (q24 : Int64 × Int32) : Option ((Int64 × Int32) ⊕ ((Int64) ⊕ ((Int64 × zM) ⊕ (String × zM)))) :=
  if (5 : Int32) ≤ q24.2 then
  some (.inr (.inl q24.1))
else
  Option.bind (fWB_ofVessel q22.2 q24.2 s0 s1 q7.2 s3) (Sum.elim (fun q26 =>
    zlet (((q24.1 * (31 : Int64)) + (q26).toInt64)) fun v27 =>
    zlet (q24.2 + 1) fun v28 =>
    some (.inl (v27, v28))) (fun b => some (.inr (.inr (.inr (b, q7.2))))))
def fWB_digest_l119 (s0 : zM) (s1 : zM) (s3 : zM) (q7 : (Int64 × zM)) (q22 : Int64 × Int32) : Option ((Int64 × Int32) ⊕ ((Int64) ⊕ ((Int64 × zM) ⊕ (String × zM)))) :=
  if (s1 0 0 7) ≤ q22.2 then
  some (.inr (.inl q22.1))
else
  Option.bind (ziter (fWB_digest_l133 s0 s1 s3 q7 q22) 1000 (q22.1, (0 : Int32))) (Sum.elim (fun q25 =>
    zlet (q22.2 + 1) fun v29 =>
    some (.inl (q25, v29))) (fun r => some (.inr (.inr r))))
def fWB_digest  (s0 : zM) (s1 : zM) (s2 : zM) (s3 : zM) : Option ((Int64 × zM) ⊕ (String × zM)) :=
  Option.bind (ziter (fWB_digest_l6 s0 s1 s2 s3) 1000 ((58176 : Int64), (0 : Int32))) (Sum.elim (fun q2 =>
  Option.bind (ziter (fWB_digest_l33 s0 s1 s3) 1000 (q2, (0 : Int32), s2)) (Sum.elim (fun q7 =>
  Option.bind (ziter (fWB_digest_l70 s0 s1 s3 q7) 1000 (q7.1, (0 : Int32))) (Sum.elim (fun q13 =>
  Option.bind (ziter (fWB_digest_l119 s0 s1 s3 q7) 1000 (q13, (0 : Int32))) (Sum.elim (fun q23 =>
  Option.bind (fWB_wouldDeliver (3 : Int32) s0 s1 q7.2 s3) (Sum.elim (fun q32 =>
  some (.inl (((q23 * (31 : Int64)) + (q32.1).toInt64), q32.2))) (fun b => some (.inr (b.1, b.2))))) (fun r => some r))) (fun r => some r))) (fun r => some r))) (fun r => some r))
set_option maxHeartbeats 4000000 in
set_option maxRecDepth 20000 in
theorem bfWB_digest_l6 {X : zX} (F : zFr X cX9_digest 5 RX9 (some .long)) (s0 : zM) (s1 : zM) (s2 : zM) (s3 : zM)  {ψ : (Int64 × Int32) ⊕ ((Int64) ⊕ ((Int64 × zM) ⊕ (String × zM))) → Option zO} (h1 : ∀ q1 : Int64 × Int32, zZ X [(2, [1, 2, 3]), (0, []), (0, []), (1, [])] 9 160 5 6 [some (zr 0 0 0), some (zl q1.1), none, some (zi q1.2), none] [] [s0, s1, s2, s3] (ψ (.inl q1))) (h2 : ∀ q2 : Int64, zZ X [(2, [1, 2, 3]), (0, []), (0, []), (1, [])] 9 160 5 31 [some (zr 0 0 0), some (zl q2), none, none, none] [] [s0, s1, s2, s3] (ψ (.inr (.inl q2)))) (h3 : ∀ r, ψ (.inr (.inr r)) = some ((zts (fun q => some (zl q.1)) (fun q => [s0, s1, q.2, s3]) (fun b => b.1) (fun b => [s0, s1, b.2, s3])) r)) (q1 : Int64 × Int32) : zZ X [(2, [1, 2, 3]), (0, []), (0, []), (1, [])] 9 160 5 6 [some (zr 0 0 0), some (zl q1.1), none, some (zi q1.2), none] [] [s0, s1, s2, s3] (Option.bind (fWB_digest_l6 s0 s1 s2 s3 q1) ψ) := by
  unfold fWB_digest_l6
  refine zz_iload_n F (i := 3) dX9_digest_6 rfl rfl ?_
  refine zz_bipush F (v := (14 : Int32)) dX9_digest_7 (by decide) ?_
  refine zz_icmp_ge F (tgt := 31) dX9_digest_9 (by decide) (fun h => zz_t h ?_) (fun h => zz_f h ?_)
  · exact zz_sub (zs_k (zs_k (zs_k (zs_n (zs_k zs_z))))) (h2 q1.1)
  · refine zz_lload_n F (i := 1) dX9_digest_12 rfl rfl ?_
    refine zz_ldc2 F (v := (31 : Int64)) dX9_digest_13 wlRX9_326 ?_
    refine zz_lmul F dX9_digest_16 ?_
    refine zz_aload_n F (i := 0) dX9_digest_17 rfl rfl ?_
    refine zz_iload_n F (i := 3) dX9_digest_18 rfl rfl ?_
    refine zz_bind ?_
    refine zz_callVx F (ρ := [0, 1, 2, 3]) (so := fun q3 => [zi q3, zl (q1.1 * (31 : Int64))]) (Mo := fun q3 => [s0, s1, s2, s3]) (Xo := fun _ => [s0, s1, s2, s3]) (zfWB_many q1.2 s0 s1 s2 s3) dX9_digest_19 wcRX9_328 wy_yX9_many rfl ⟨rel2, rfl, rfl, Nat.le_of_ble_eq_true rfl, Nat.le_of_ble_eq_true rfl, Nat.le_of_ble_eq_true rfl⟩ (⟨zlb rfl, zlb rfl, zlb rfl⟩) rfl rfl rfl (fun _ => rfl) (fun _ => rfl) (fun _ => rfl) (fun _ => (h3 _)) fun q3 => ?_
    dsimp only [Sum.elim_inl]
    refine zz_i2l F dX9_digest_22 ?_
    refine zz_ladd F dX9_digest_23 ?_
    refine zz_lstore_n F (i := 1) (L' := [some (zr 0 0 0), some (zl ((q1.1 * (31 : Int64)) + (q3).toInt64)), none, some (zi q1.2), none]) dX9_digest_24 rfl (by decide) rfl rfl ?_
    refine zz_letl (Lf := fun v4 => [some (zr 0 0 0), some (zl v4), none, some (zi q1.2), none]) fun v4 => ?_
    refine zz_iinc F (i := 3) (v := q1.2 + 1) (L' := [some (zr 0 0 0), some (zl v4), none, some (zi (q1.2 + 1)), none]) dX9_digest_25 rfl (by first | rfl | decide) (by decide) rfl rfl ?_
    refine zz_letl (Lf := fun v5 => [some (zr 0 0 0), some (zl v4), none, some (zi v5), none]) fun v5 => ?_
    refine zz_goto F (tgt := 6) dX9_digest_28 (by decide) ?_
    exact zz_sub (zs_k (zs_k (zs_k (zs_k (zs_k zs_z))))) (h1 (v4, v5))
set_option maxHeartbeats 4000000 in
set_option maxRecDepth 20000 in
theorem bfWB_digest_l33 {X : zX} (F : zFr X cX9_digest 5 RX9 (some .long)) (s0 : zM) (s1 : zM) (s3 : zM)  {ψ : (Int64 × Int32 × zM) ⊕ ((Int64 × zM) ⊕ ((Int64 × zM) ⊕ (String × zM))) → Option zO} (h1 : ∀ q6 : Int64 × Int32 × zM, zZ X [(2, [1, 2, 3]), (0, []), (0, []), (1, [])] 9 160 5 33 [some (zr 0 0 0), some (zl q6.1), none, some (zi q6.2.1), none] [] [s0, s1, q6.2.2, s3] (ψ (.inl q6))) (h2 : ∀ q7 : Int64 × zM, zZ X [(2, [1, 2, 3]), (0, []), (0, []), (1, [])] 9 160 5 68 [some (zr 0 0 0), some (zl q7.1), none, none, none] [] [s0, s1, q7.2, s3] (ψ (.inr (.inl q7)))) (h3 : ∀ r, ψ (.inr (.inr r)) = some ((zts (fun q => some (zl q.1)) (fun q => [s0, s1, q.2, s3]) (fun b => b.1) (fun b => [s0, s1, b.2, s3])) r)) (q6 : Int64 × Int32 × zM) : zZ X [(2, [1, 2, 3]), (0, []), (0, []), (1, [])] 9 160 5 33 [some (zr 0 0 0), some (zl q6.1), none, some (zi q6.2.1), none] [] [s0, s1, q6.2.2, s3] (Option.bind (fWB_digest_l33 s0 s1 s3 q6) ψ) := by
  unfold fWB_digest_l33
  refine zz_iload_n F (i := 3) dX9_digest_33 rfl rfl ?_
  refine zz_aload_n F (i := 0) dX9_digest_34 rfl rfl ?_
  refine zz_getr F dX9_digest_35 wfRX9_10 zCl_8 rfl (⟨zlb rfl, zlb rfl, zlb rfl⟩) rfl (by decide) rfl (r' := 1) (by decide) ?_
  refine zz_getf F dX9_digest_38 wfRX9_56 zCl_3 rfl (⟨zlb rfl, zlb rfl, zlb rfl⟩) rfl (by decide) rfl rfl ?_
  refine zz_icmp_ge F (tgt := 68) dX9_digest_41 (by decide) (fun h => zz_t h ?_) (fun h => zz_f h ?_)
  · exact zz_sub (zs_k (zs_k (zs_k (zs_n (zs_k zs_z))))) (h2 (q6.1, q6.2.2))
  · refine zz_aload_n F (i := 0) dX9_digest_44 rfl rfl ?_
    refine zz_lload_n F (i := 1) dX9_digest_45 rfl rfl ?_
    refine zz_iload_n F (i := 3) dX9_digest_46 rfl rfl ?_
    refine zz_bind ?_
    refine zz_callVx F (ρ := [0, 1, 2, 3]) (so := fun q8 => [zl q8]) (Mo := fun q8 => [s0, s1, q6.2.2, s3]) (Xo := fun _ => [s0, s1, q6.2.2, s3]) (zfWB_digestTurbine q6.1 q6.2.1 s0 s1 q6.2.2 s3) dX9_digest_47 wcRX9_331 wy_yX9_digestTurbine rfl ⟨rel2, rfl, rfl, Nat.le_of_ble_eq_true rfl, Nat.le_of_ble_eq_true rfl, Nat.le_of_ble_eq_true rfl⟩ (⟨zlb rfl, zlb rfl, zlb rfl⟩) rfl rfl rfl (fun _ => rfl) (fun _ => rfl) (fun _ => rfl) (fun _ => (h3 _)) fun q8 => ?_
    dsimp only [Sum.elim_inl]
    refine zz_ldc2 F (v := (31 : Int64)) dX9_digest_50 wlRX9_326 ?_
    refine zz_lmul F dX9_digest_53 ?_
    refine zz_aload_n F (i := 0) dX9_digest_54 rfl rfl ?_
    refine zz_iload_n F (i := 3) dX9_digest_55 rfl rfl ?_
    refine zz_bind ?_
    refine zz_callVx F (ρ := [0, 1, 2, 3]) (so := fun q9 => [zi q9.1, zl (q8 * (31 : Int64))]) (Mo := fun q9 => [s0, s1, q9.2, s3]) (Xo := fun b => [s0, s1, b.2, s3]) (zfWB_bestTurn q6.2.1 s0 s1 q6.2.2 s3) dX9_digest_56 wcRX9_335 wy_yX9_bestTurn rfl ⟨rel2, rfl, rfl, Nat.le_of_ble_eq_true rfl, Nat.le_of_ble_eq_true rfl, Nat.le_of_ble_eq_true rfl⟩ (⟨zlb rfl, zlb rfl, zlb rfl⟩) rfl rfl rfl (fun _ => rfl) (fun _ => rfl) (fun _ => rfl) (fun _ => (h3 _)) fun q9 => ?_
    dsimp only [Sum.elim_inl]
    refine zz_i2l F dX9_digest_59 ?_
    refine zz_ladd F dX9_digest_60 ?_
    refine zz_lstore_n F (i := 1) (L' := [some (zr 0 0 0), some (zl ((q8 * (31 : Int64)) + (q9.1).toInt64)), none, some (zi q6.2.1), none]) dX9_digest_61 rfl (by decide) rfl rfl ?_
    refine zz_letl (Lf := fun v10 => [some (zr 0 0 0), some (zl v10), none, some (zi q6.2.1), none]) fun v10 => ?_
    refine zz_iinc F (i := 3) (v := q6.2.1 + 1) (L' := [some (zr 0 0 0), some (zl v10), none, some (zi (q6.2.1 + 1)), none]) dX9_digest_62 rfl (by first | rfl | decide) (by decide) rfl rfl ?_
    refine zz_letl (Lf := fun v11 => [some (zr 0 0 0), some (zl v10), none, some (zi v11), none]) fun v11 => ?_
    refine zz_goto F (tgt := 33) dX9_digest_65 (by decide) ?_
    exact zz_sub (zs_k (zs_k (zs_k (zs_k (zs_k zs_z))))) (h1 (v10, v11, q9.2))
set_option maxHeartbeats 4000000 in
set_option maxRecDepth 20000 in
theorem bfWB_digest_l84 {X : zX} (F : zFr X cX9_digest 5 RX9 (some .long)) (s0 : zM) (s1 : zM) (s3 : zM) (q7 : (Int64 × zM)) (q12 : (Int64 × Int32))  {ψ : (Int64 × Int32) ⊕ ((Int64) ⊕ ((Int64 × zM) ⊕ (String × zM))) → Option zO} (h1 : ∀ q14 : Int64 × Int32, zZ X [(2, [1, 2, 3]), (0, []), (0, []), (1, [])] 9 160 5 84 [some (zr 0 0 0), some (zl q14.1), none, some (zi q12.2), some (zi q14.2)] [] [s0, s1, q7.2, s3] (ψ (.inl q14))) (h2 : ∀ q15 : Int64, zZ X [(2, [1, 2, 3]), (0, []), (0, []), (1, [])] 9 160 5 111 [some (zr 0 0 0), some (zl q15), none, some (zi q12.2), none] [] [s0, s1, q7.2, s3] (ψ (.inr (.inl q15)))) (h3 : ∀ r, ψ (.inr (.inr r)) = some ((zts (fun q => some (zl q.1)) (fun q => [s0, s1, q.2, s3]) (fun b => b.1) (fun b => [s0, s1, b.2, s3])) r)) (q14 : Int64 × Int32) : zZ X [(2, [1, 2, 3]), (0, []), (0, []), (1, [])] 9 160 5 84 [some (zr 0 0 0), some (zl q14.1), none, some (zi q12.2), some (zi q14.2)] [] [s0, s1, q7.2, s3] (Option.bind (fWB_digest_l84 s0 s1 s3 q7 q12 q14) ψ) := by
  unfold fWB_digest_l84
  refine zz_iload F (i := 4) dX9_digest_84 rfl ?_
  refine zz_iconst F (v := (4 : Int32)) dX9_digest_86 (by decide) ?_
  refine zz_icmp_ge F (tgt := 111) dX9_digest_87 (by decide) (fun h => zz_t h ?_) (fun h => zz_f h ?_)
  · exact zz_sub (zs_k (zs_k (zs_k (zs_k (zs_n zs_z))))) (h2 q14.1)
  · refine zz_lload_n F (i := 1) dX9_digest_90 rfl rfl ?_
    refine zz_ldc2 F (v := (31 : Int64)) dX9_digest_91 wlRX9_326 ?_
    refine zz_lmul F dX9_digest_94 ?_
    refine zz_aload_n F (i := 0) dX9_digest_95 rfl rfl ?_
    refine zz_iload_n F (i := 3) dX9_digest_96 rfl rfl ?_
    refine zz_iload F (i := 4) dX9_digest_97 rfl ?_
    refine zz_bind ?_
    refine zz_callVx F (ρ := [0, 1, 2, 3]) (so := fun q16 => [zi q16, zl (q14.1 * (31 : Int64))]) (Mo := fun q16 => [s0, s1, q7.2, s3]) (Xo := fun _ => [s0, s1, q7.2, s3]) (zfWB_ofString q12.2 q14.2 s0 s1 q7.2 s3) dX9_digest_99 wcRX9_338 wy_yX9_ofString rfl ⟨rel2, rfl, rfl, Nat.le_of_ble_eq_true rfl, Nat.le_of_ble_eq_true rfl, Nat.le_of_ble_eq_true rfl⟩ (⟨zlb rfl, zlb rfl, zlb rfl⟩) rfl rfl rfl (fun _ => rfl) (fun _ => rfl) (fun _ => rfl) (fun _ => (h3 _)) fun q16 => ?_
    dsimp only [Sum.elim_inl]
    refine zz_i2l F dX9_digest_102 ?_
    refine zz_ladd F dX9_digest_103 ?_
    refine zz_lstore_n F (i := 1) (L' := [some (zr 0 0 0), some (zl ((q14.1 * (31 : Int64)) + (q16).toInt64)), none, some (zi q12.2), some (zi q14.2)]) dX9_digest_104 rfl (by decide) rfl rfl ?_
    refine zz_letl (Lf := fun v17 => [some (zr 0 0 0), some (zl v17), none, some (zi q12.2), some (zi q14.2)]) fun v17 => ?_
    refine zz_iinc F (i := 4) (v := q14.2 + 1) (L' := [some (zr 0 0 0), some (zl v17), none, some (zi q12.2), some (zi (q14.2 + 1))]) dX9_digest_105 rfl (by first | rfl | decide) (by decide) rfl rfl ?_
    refine zz_letl (Lf := fun v18 => [some (zr 0 0 0), some (zl v17), none, some (zi q12.2), some (zi v18)]) fun v18 => ?_
    refine zz_goto F (tgt := 84) dX9_digest_108 (by decide) ?_
    exact zz_sub (zs_k (zs_k (zs_k (zs_k (zs_k zs_z))))) (h1 (v17, v18))
set_option maxHeartbeats 4000000 in
set_option maxRecDepth 20000 in
theorem bfWB_digest_l70 {X : zX} (F : zFr X cX9_digest 5 RX9 (some .long)) (s0 : zM) (s1 : zM) (s3 : zM) (q7 : (Int64 × zM))  {ψ : (Int64 × Int32) ⊕ ((Int64) ⊕ ((Int64 × zM) ⊕ (String × zM))) → Option zO} (h1 : ∀ q12 : Int64 × Int32, zZ X [(2, [1, 2, 3]), (0, []), (0, []), (1, [])] 9 160 5 70 [some (zr 0 0 0), some (zl q12.1), none, some (zi q12.2), none] [] [s0, s1, q7.2, s3] (ψ (.inl q12))) (h2 : ∀ q13 : Int64, zZ X [(2, [1, 2, 3]), (0, []), (0, []), (1, [])] 9 160 5 117 [some (zr 0 0 0), some (zl q13), none, none, none] [] [s0, s1, q7.2, s3] (ψ (.inr (.inl q13)))) (h3 : ∀ r, ψ (.inr (.inr r)) = some ((zts (fun q => some (zl q.1)) (fun q => [s0, s1, q.2, s3]) (fun b => b.1) (fun b => [s0, s1, b.2, s3])) r)) (q12 : Int64 × Int32) : zZ X [(2, [1, 2, 3]), (0, []), (0, []), (1, [])] 9 160 5 70 [some (zr 0 0 0), some (zl q12.1), none, some (zi q12.2), none] [] [s0, s1, q7.2, s3] (Option.bind (fWB_digest_l70 s0 s1 s3 q7 q12) ψ) := by
  unfold fWB_digest_l70
  refine zz_iload_n F (i := 3) dX9_digest_70 rfl rfl ?_
  refine zz_aload_n F (i := 0) dX9_digest_71 rfl rfl ?_
  refine zz_getr F dX9_digest_72 wfRX9_10 zCl_8 rfl (⟨zlb rfl, zlb rfl, zlb rfl⟩) rfl (by decide) rfl (r' := 1) (by decide) ?_
  refine zz_getf F dX9_digest_75 wfRX9_37 zCl_3 rfl (⟨zlb rfl, zlb rfl, zlb rfl⟩) rfl (by decide) rfl rfl ?_
  refine zz_icmp_ge F (tgt := 117) dX9_digest_78 (by decide) (fun h => zz_t h ?_) (fun h => zz_f h ?_)
  · exact zz_sub (zs_k (zs_k (zs_k (zs_n (zs_k zs_z))))) (h2 q12.1)
  · refine zz_iconst F (v := (0 : Int32)) dX9_digest_81 (by decide) ?_
    refine zz_istore F (i := 4) (L' := [some (zr 0 0 0), some (zl q12.1), none, some (zi q12.2), some (zi (0 : Int32))]) dX9_digest_82 (by decide) rfl rfl ?_
    refine zz_sub (zs_k (zs_k (zs_k (zs_k (zs_k zs_z))))) ?_
    refine zz_bind ?_
    refine zz_iter (Lf := fun q14 => [some (zr 0 0 0), some (zl q14.1), none, some (zi q12.2), some (zi q14.2)]) (Mf := fun q14 => [s0, s1, q7.2, s3]) (fun q14 _ e20 e21 => bfWB_digest_l84 F s0 s1 s3 q7 q12  e20 (fun q15 => ?_) (fun r => ?_) q14) 1000 (q12.1, (0 : Int32))
    · rw [e21]
      dsimp only [Sum.elim_inl]
      refine zz_iinc F (i := 3) (v := q12.2 + 1) (L' := [some (zr 0 0 0), some (zl q15), none, some (zi (q12.2 + 1)), none]) dX9_digest_111 rfl (by first | rfl | decide) (by decide) rfl rfl ?_
      refine zz_letl (Lf := fun v19 => [some (zr 0 0 0), some (zl q15), none, some (zi v19), none]) fun v19 => ?_
      refine zz_goto F (tgt := 70) dX9_digest_114 (by decide) ?_
      exact zz_sub (zs_k (zs_k (zs_k (zs_k (zs_k zs_z))))) (h1 (q15, v19))
    · exact (e21 _).trans (h3 _)
set_option maxHeartbeats 4000000 in
set_option maxRecDepth 20000 in
theorem bfWB_digest_l133 {X : zX} (F : zFr X cX9_digest 5 RX9 (some .long)) (s0 : zM) (s1 : zM) (s3 : zM) (q7 : (Int64 × zM)) (q22 : (Int64 × Int32))  {ψ : (Int64 × Int32) ⊕ ((Int64) ⊕ ((Int64 × zM) ⊕ (String × zM))) → Option zO} (h1 : ∀ q24 : Int64 × Int32, zZ X [(2, [1, 2, 3]), (0, []), (0, []), (1, [])] 9 160 5 133 [some (zr 0 0 0), some (zl q24.1), none, some (zi q22.2), some (zi q24.2)] [] [s0, s1, q7.2, s3] (ψ (.inl q24))) (h2 : ∀ q25 : Int64, zZ X [(2, [1, 2, 3]), (0, []), (0, []), (1, [])] 9 160 5 160 [some (zr 0 0 0), some (zl q25), none, some (zi q22.2), none] [] [s0, s1, q7.2, s3] (ψ (.inr (.inl q25)))) (h3 : ∀ r, ψ (.inr (.inr r)) = some ((zts (fun q => some (zl q.1)) (fun q => [s0, s1, q.2, s3]) (fun b => b.1) (fun b => [s0, s1, b.2, s3])) r)) (q24 : Int64 × Int32) : zZ X [(2, [1, 2, 3]), (0, []), (0, []), (1, [])] 9 160 5 133 [some (zr 0 0 0), some (zl q24.1), none, some (zi q22.2), some (zi q24.2)] [] [s0, s1, q7.2, s3] (Option.bind (fWB_digest_l133 s0 s1 s3 q7 q22 q24) ψ) := by
  unfold fWB_digest_l133
  refine zz_iload F (i := 4) dX9_digest_133 rfl ?_
  refine zz_iconst F (v := (5 : Int32)) dX9_digest_135 (by decide) ?_
  refine zz_icmp_ge F (tgt := 160) dX9_digest_136 (by decide) (fun h => zz_t h ?_) (fun h => zz_f h ?_)
  · exact zz_sub (zs_k (zs_k (zs_k (zs_k (zs_n zs_z))))) (h2 q24.1)
  · refine zz_lload_n F (i := 1) dX9_digest_139 rfl rfl ?_
    refine zz_ldc2 F (v := (31 : Int64)) dX9_digest_140 wlRX9_326 ?_
    refine zz_lmul F dX9_digest_143 ?_
    refine zz_aload_n F (i := 0) dX9_digest_144 rfl rfl ?_
    refine zz_iload_n F (i := 3) dX9_digest_145 rfl rfl ?_
    refine zz_iload F (i := 4) dX9_digest_146 rfl ?_
    refine zz_bind ?_
    refine zz_callVx F (ρ := [0, 1, 2, 3]) (so := fun q26 => [zi q26, zl (q24.1 * (31 : Int64))]) (Mo := fun q26 => [s0, s1, q7.2, s3]) (Xo := fun _ => [s0, s1, q7.2, s3]) (zfWB_ofVessel q22.2 q24.2 s0 s1 q7.2 s3) dX9_digest_148 wcRX9_341 wy_yX9_ofVessel rfl ⟨rel2, rfl, rfl, Nat.le_of_ble_eq_true rfl, Nat.le_of_ble_eq_true rfl, Nat.le_of_ble_eq_true rfl⟩ (⟨zlb rfl, zlb rfl, zlb rfl⟩) rfl rfl rfl (fun _ => rfl) (fun _ => rfl) (fun _ => rfl) (fun _ => (h3 _)) fun q26 => ?_
    dsimp only [Sum.elim_inl]
    refine zz_i2l F dX9_digest_151 ?_
    refine zz_ladd F dX9_digest_152 ?_
    refine zz_lstore_n F (i := 1) (L' := [some (zr 0 0 0), some (zl ((q24.1 * (31 : Int64)) + (q26).toInt64)), none, some (zi q22.2), some (zi q24.2)]) dX9_digest_153 rfl (by decide) rfl rfl ?_
    refine zz_letl (Lf := fun v27 => [some (zr 0 0 0), some (zl v27), none, some (zi q22.2), some (zi q24.2)]) fun v27 => ?_
    refine zz_iinc F (i := 4) (v := q24.2 + 1) (L' := [some (zr 0 0 0), some (zl v27), none, some (zi q22.2), some (zi (q24.2 + 1))]) dX9_digest_154 rfl (by first | rfl | decide) (by decide) rfl rfl ?_
    refine zz_letl (Lf := fun v28 => [some (zr 0 0 0), some (zl v27), none, some (zi q22.2), some (zi v28)]) fun v28 => ?_
    refine zz_goto F (tgt := 133) dX9_digest_157 (by decide) ?_
    exact zz_sub (zs_k (zs_k (zs_k (zs_k (zs_k zs_z))))) (h1 (v27, v28))
set_option maxHeartbeats 4000000 in
set_option maxRecDepth 20000 in
theorem bfWB_digest_l119 {X : zX} (F : zFr X cX9_digest 5 RX9 (some .long)) (s0 : zM) (s1 : zM) (s3 : zM) (q7 : (Int64 × zM))  {ψ : (Int64 × Int32) ⊕ ((Int64) ⊕ ((Int64 × zM) ⊕ (String × zM))) → Option zO} (h1 : ∀ q22 : Int64 × Int32, zZ X [(2, [1, 2, 3]), (0, []), (0, []), (1, [])] 9 160 5 119 [some (zr 0 0 0), some (zl q22.1), none, some (zi q22.2), none] [] [s0, s1, q7.2, s3] (ψ (.inl q22))) (h2 : ∀ q23 : Int64, zZ X [(2, [1, 2, 3]), (0, []), (0, []), (1, [])] 9 160 5 166 [some (zr 0 0 0), some (zl q23), none, none, none] [] [s0, s1, q7.2, s3] (ψ (.inr (.inl q23)))) (h3 : ∀ r, ψ (.inr (.inr r)) = some ((zts (fun q => some (zl q.1)) (fun q => [s0, s1, q.2, s3]) (fun b => b.1) (fun b => [s0, s1, b.2, s3])) r)) (q22 : Int64 × Int32) : zZ X [(2, [1, 2, 3]), (0, []), (0, []), (1, [])] 9 160 5 119 [some (zr 0 0 0), some (zl q22.1), none, some (zi q22.2), none] [] [s0, s1, q7.2, s3] (Option.bind (fWB_digest_l119 s0 s1 s3 q7 q22) ψ) := by
  unfold fWB_digest_l119
  refine zz_iload_n F (i := 3) dX9_digest_119 rfl rfl ?_
  refine zz_aload_n F (i := 0) dX9_digest_120 rfl rfl ?_
  refine zz_getr F dX9_digest_121 wfRX9_10 zCl_8 rfl (⟨zlb rfl, zlb rfl, zlb rfl⟩) rfl (by decide) rfl (r' := 1) (by decide) ?_
  refine zz_getf F dX9_digest_124 wfRX9_71 zCl_3 rfl (⟨zlb rfl, zlb rfl, zlb rfl⟩) rfl (by decide) rfl rfl ?_
  refine zz_icmp_ge F (tgt := 166) dX9_digest_127 (by decide) (fun h => zz_t h ?_) (fun h => zz_f h ?_)
  · exact zz_sub (zs_k (zs_k (zs_k (zs_n (zs_k zs_z))))) (h2 q22.1)
  · refine zz_iconst F (v := (0 : Int32)) dX9_digest_130 (by decide) ?_
    refine zz_istore F (i := 4) (L' := [some (zr 0 0 0), some (zl q22.1), none, some (zi q22.2), some (zi (0 : Int32))]) dX9_digest_131 (by decide) rfl rfl ?_
    refine zz_sub (zs_k (zs_k (zs_k (zs_k (zs_k zs_z))))) ?_
    refine zz_bind ?_
    refine zz_iter (Lf := fun q24 => [some (zr 0 0 0), some (zl q24.1), none, some (zi q22.2), some (zi q24.2)]) (Mf := fun q24 => [s0, s1, q7.2, s3]) (fun q24 _ e30 e31 => bfWB_digest_l133 F s0 s1 s3 q7 q22  e30 (fun q25 => ?_) (fun r => ?_) q24) 1000 (q22.1, (0 : Int32))
    · rw [e31]
      dsimp only [Sum.elim_inl]
      refine zz_iinc F (i := 3) (v := q22.2 + 1) (L' := [some (zr 0 0 0), some (zl q25), none, some (zi (q22.2 + 1)), none]) dX9_digest_160 rfl (by first | rfl | decide) (by decide) rfl rfl ?_
      refine zz_letl (Lf := fun v29 => [some (zr 0 0 0), some (zl q25), none, some (zi v29), none]) fun v29 => ?_
      refine zz_goto F (tgt := 119) dX9_digest_163 (by decide) ?_
      exact zz_sub (zs_k (zs_k (zs_k (zs_k (zs_k zs_z))))) (h1 (q25, v29))
    · exact (e31 _).trans (h3 _)
set_option maxHeartbeats 4000000 in
set_option maxRecDepth 20000 in
theorem bfWB_digest {X : zX} (F : zFr X cX9_digest 5 RX9 (some .long))   (s0 : zM) (s1 : zM) (s2 : zM) (s3 : zM) {κ : (Int64 × zM) ⊕ (String × zM) → Option zO} (hκ : ∀ a, κ a = some ((zts (fun q => some (zl q.1)) (fun q => [s0, s1, q.2, s3]) (fun b => b.1) (fun b => [s0, s1, b.2, s3])) a)) : zZ X [(2, [1, 2, 3]), (0, []), (0, []), (1, [])] 9 160 5 0 [some (zr 0 0 0), none, none, none, none] [] [s0, s1, s2, s3] (Option.bind (fWB_digest s0 s1 s2 s3) κ) := by
  unfold fWB_digest
  refine zz_ldc2 F (v := (58176 : Int64)) dX9_digest_0 wlRX9_324 ?_
  refine zz_lstore_n F (i := 1) (L' := [some (zr 0 0 0), some (zl (58176 : Int64)), none, none, none]) dX9_digest_3 rfl (by decide) rfl rfl ?_
  refine zz_iconst F (v := (0 : Int32)) dX9_digest_4 (by decide) ?_
  refine zz_istore_n F (i := 3) (L' := [some (zr 0 0 0), some (zl (58176 : Int64)), none, some (zi (0 : Int32)), none]) dX9_digest_5 rfl (by decide) rfl rfl ?_
  refine zz_sub (zs_k (zs_k (zs_k (zs_k (zs_k zs_z))))) ?_
  refine zz_bind ?_
  refine zz_iter (Lf := fun q1 => [some (zr 0 0 0), some (zl q1.1), none, some (zi q1.2), none]) (Mf := fun q1 => [s0, s1, s2, s3]) (fun q1 _ e39 e40 => bfWB_digest_l6 F s0 s1 s2 s3  e39 (fun q2 => ?_) (fun r => ?_) q1) 1000 ((58176 : Int64), (0 : Int32))
  · rw [e40]
    dsimp only [Sum.elim_inl]
    refine zz_iconst F (v := (0 : Int32)) dX9_digest_31 (by decide) ?_
    refine zz_istore_n F (i := 3) (L' := [some (zr 0 0 0), some (zl q2), none, some (zi (0 : Int32)), none]) dX9_digest_32 rfl (by decide) rfl rfl ?_
    refine zz_sub (zs_k (zs_k (zs_k (zs_k (zs_k zs_z))))) ?_
    refine zz_bind ?_
    refine zz_iter (Lf := fun q6 => [some (zr 0 0 0), some (zl q6.1), none, some (zi q6.2.1), none]) (Mf := fun q6 => [s0, s1, q6.2.2, s3]) (fun q6 _ e37 e38 => bfWB_digest_l33 F s0 s1 s3  e37 (fun q7 => ?_) (fun r => ?_) q6) 1000 (q2, (0 : Int32), s2)
    · rw [e38]
      dsimp only [Sum.elim_inl]
      refine zz_iconst F (v := (0 : Int32)) dX9_digest_68 (by decide) ?_
      refine zz_istore_n F (i := 3) (L' := [some (zr 0 0 0), some (zl q7.1), none, some (zi (0 : Int32)), none]) dX9_digest_69 rfl (by decide) rfl rfl ?_
      refine zz_sub (zs_k (zs_k (zs_k (zs_k (zs_k zs_z))))) ?_
      refine zz_bind ?_
      refine zz_iter (Lf := fun q12 => [some (zr 0 0 0), some (zl q12.1), none, some (zi q12.2), none]) (Mf := fun q12 => [s0, s1, q7.2, s3]) (fun q12 _ e35 e36 => bfWB_digest_l70 F s0 s1 s3 q7  e35 (fun q13 => ?_) (fun r => ?_) q12) 1000 (q7.1, (0 : Int32))
      · rw [e36]
        dsimp only [Sum.elim_inl]
        refine zz_iconst F (v := (0 : Int32)) dX9_digest_117 (by decide) ?_
        refine zz_istore_n F (i := 3) (L' := [some (zr 0 0 0), some (zl q13), none, some (zi (0 : Int32)), none]) dX9_digest_118 rfl (by decide) rfl rfl ?_
        refine zz_sub (zs_k (zs_k (zs_k (zs_k (zs_k zs_z))))) ?_
        refine zz_bind ?_
        refine zz_iter (Lf := fun q22 => [some (zr 0 0 0), some (zl q22.1), none, some (zi q22.2), none]) (Mf := fun q22 => [s0, s1, q7.2, s3]) (fun q22 _ e33 e34 => bfWB_digest_l119 F s0 s1 s3 q7  e33 (fun q23 => ?_) (fun r => ?_) q22) 1000 (q13, (0 : Int32))
        · rw [e34]
          dsimp only [Sum.elim_inl]
          refine zz_lload_n F (i := 1) dX9_digest_166 rfl rfl ?_
          refine zz_ldc2 F (v := (31 : Int64)) dX9_digest_167 wlRX9_326 ?_
          refine zz_lmul F dX9_digest_170 ?_
          refine zz_aload_n F (i := 0) dX9_digest_171 rfl rfl ?_
          refine zz_iconst F (v := (3 : Int32)) dX9_digest_172 (by decide) ?_
          refine zz_bind ?_
          refine zz_callVx F (ρ := [0, 1, 2, 3]) (so := fun q32 => [zi q32.1, zl (q23 * (31 : Int64))]) (Mo := fun q32 => [s0, s1, q32.2, s3]) (Xo := fun b => [s0, s1, b.2, s3]) (zfWB_wouldDeliver (3 : Int32) s0 s1 q7.2 s3) dX9_digest_173 wcRX9_344 wy_yX9_wouldDeliver rfl ⟨rel2, rfl, rfl, Nat.le_of_ble_eq_true rfl, Nat.le_of_ble_eq_true rfl, Nat.le_of_ble_eq_true rfl⟩ (⟨zlb rfl, zlb rfl, zlb rfl⟩) rfl rfl rfl (fun _ => rfl) (fun _ => rfl) (fun _ => rfl) (fun _ => (hκ _)) fun q32 => ?_
          dsimp only [Sum.elim_inl]
          refine zz_i2l F dX9_digest_176 ?_
          refine zz_ladd F dX9_digest_177 ?_
          exact zz_lreturn F dX9_digest_178 rfl (hκ _)
        · exact (e34 _).trans (hκ _)
      · exact (e36 _).trans (hκ _)
    · exact (e38 _).trans (hκ _)
  · exact (e40 _).trans (hκ _)
theorem zfWB_digest   (s0 : zM) (s1 : zM) (s2 : zM) (s3 : zM) : ∀ a, fWB_digest s0 s1 s2 s3 = some a → zMet yX9_digest cX9_digest 5 (some .long) 9 160 [(2, [1, 2, 3]), (0, []), (0, []), (1, [])] [zr 0 0 0] [s0, s1, s2, s3] ((zts (fun q => some (zl q.1)) (fun q => [s0, s1, q.2, s3]) (fun b => b.1) (fun b => [s0, s1, b.2, s3])) a) := fun a ha => zMet_of (L0 := [some (zr 0 0 0), none, none, none, none]) (φ := Option.bind (fWB_digest s0 s1 s2 s3) (fun a => some ((zts (fun q => some (zl q.1)) (fun q => [s0, s1, q.2, s3]) (fun b => b.1) (fun b => [s0, s1, b.2, s3])) a))) (by decide) (fun _ => Nat.le_of_ble_eq_true rfl) (zl0 4 rfl) (fun X F => bfWB_digest F s0 s1 s2 s3 (fun _ => rfl)) (by rw [ha]; rfl)
