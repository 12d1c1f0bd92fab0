theorem dX9_bestPlace_0 : decode cX9_bestPlace 0 = .ok (.aload_n 0, 1) := by decide +kernel
theorem dX9_bestPlace_1 : decode cX9_bestPlace 1 = .ok (.getfield 10, 3) := by decide +kernel
theorem dX9_bestPlace_4 : decode cX9_bestPlace 4 = .ok (.getfield 56, 3) := by decide +kernel
theorem dX9_bestPlace_7 : decode cX9_bestPlace 7 = .ok (.bipush 8, 2) := by decide +kernel
theorem dX9_bestPlace_9 : decode cX9_bestPlace 9 = .ok (.if_icmp .lt 7, 3) := by decide +kernel
theorem dX9_bestPlace_12 : decode cX9_bestPlace 12 = .ok (.iconst (-1), 1) := by decide +kernel
theorem dX9_bestPlace_13 : decode cX9_bestPlace 13 = .ok (.goto 14, 3) := by decide +kernel
theorem dX9_bestPlace_16 : decode cX9_bestPlace 16 = .ok (.aload_n 0, 1) := by decide +kernel
theorem dX9_bestPlace_17 : decode cX9_bestPlace 17 = .ok (.getfield 22, 3) := by decide +kernel
theorem dX9_bestPlace_20 : decode cX9_bestPlace 20 = .ok (.aload_n 0, 1) := by decide +kernel
theorem dX9_bestPlace_21 : decode cX9_bestPlace 21 = .ok (.getfield 10, 3) := by decide +kernel
theorem dX9_bestPlace_24 : decode cX9_bestPlace 24 = .ok (.invokevirtual 320, 3) := by decide +kernel
theorem dX9_bestPlace_27 : decode cX9_bestPlace 27 = .ok (.ireturn, 1) := by decide +kernel
theorem wfRX9_22 : zFl RX9 22 8 2 := ⟨_, rfl, by decide, zm_f 705 (by decide +kernel) rfl⟩
theorem wcRX9_320 : Cond.methodLink RX9 320 yX4_bestFor ∈ zTg ∧ Cond.instanceMethod yX4_bestFor ∈ zTg ∧ Cond.selects RX4 yX4_bestFor yX4_bestFor ∈ zTg ∧ Cond.initialized RX4 ∈ zTg ∧ Cond.code yX4_bestFor cX4_bestFor 8 (some .int) ∈ zTg := ⟨zm_f 843 (by decide +kernel) rfl, zm_f 844 (by decide +kernel) rfl, zm_f 845 (by decide +kernel) rfl, zm_f 29 (by decide +kernel) rfl, zm_f 846 (by decide +kernel) rfl⟩
theorem wy_yX4_bestFor : yX4_bestFor.cls = RX4 ∧ yX4_bestFor.cls ≠ "java/lang/invoke/MethodHandle" ∧ yX4_bestFor.cls ≠ "java/lang/invoke/VarHandle" ∧ (parseMethodDescriptor yX4_bestFor.desc).map (fun d => d.parameters.length) = some 1 := by decide +kernel
theorem rel13 : zRel [3, 1] [(2, [1, 2, 3]), (0, []), (0, []), (1, [])] [(1, []), (0, [])] := by unfold zRel; decide
def fWB_bestPlace  (s0 : zM) (s1 : zM) (s2 : zM) (s3 : zM) : Option (Int32 × zM) :=
  if (s1 0 0 5) < (8 : Int32) then
  Option.bind (fSi_bestFor s3 s1) fun q1 =>
    some (q1.1, q1.2)
else
  some ((-1 : Int32), s3)
set_option maxHeartbeats 4000000 in
set_option maxRecDepth 20000 in
theorem bfWB_bestPlace {X : zX} (F : zFr X cX9_bestPlace 1 RX9 (some .int))   (s0 : zM) (s1 : zM) (s2 : zM) (s3 : zM) {κ : Int32 × zM → Option zO} (hκ : ∀ a, κ a = some ((fun a => ((.inl ((fun q => some (zi q.1)) a), (fun q => [s0, s1, s2, q.2]) a) : zO)) a)) : zZ X [(2, [1, 2, 3]), (0, []), (0, []), (1, [])] 5 125 1 0 [some (zr 0 0 0)] [] [s0, s1, s2, s3] (Option.bind (fWB_bestPlace s0 s1 s2 s3) κ) := by
  unfold fWB_bestPlace
  refine zz_aload_n F (i := 0) dX9_bestPlace_0 rfl rfl ?_
  refine zz_getr F dX9_bestPlace_1 wfRX9_10 zCl_8 rfl (⟨zlb rfl, zlb rfl, zlb rfl⟩) rfl (by decide) rfl (r' := 1) (by decide) ?_
  refine zz_getf F dX9_bestPlace_4 wfRX9_56 zCl_3 rfl (⟨zlb rfl, zlb rfl, zlb rfl⟩) rfl (by decide) rfl rfl ?_
  refine zz_bipush F (v := (8 : Int32)) dX9_bestPlace_7 (by decide) ?_
  refine zz_icmp_lt F (tgt := 16) dX9_bestPlace_9 (by decide) (fun h => zz_t h ?_) (fun h => zz_f h ?_)
  · refine zz_aload_n F (i := 0) dX9_bestPlace_16 rfl rfl ?_
    refine zz_getr F dX9_bestPlace_17 wfRX9_22 zCl_8 rfl (⟨zlb rfl, zlb rfl, zlb rfl⟩) rfl (by decide) rfl (r' := 3) (by decide) ?_
    refine zz_aload_n F (i := 0) dX9_bestPlace_20 rfl rfl ?_
    refine zz_getr F dX9_bestPlace_21 wfRX9_10 zCl_8 rfl (⟨zlb rfl, zlb rfl, zlb rfl⟩) rfl (by decide) rfl (r' := 1) (by decide) ?_
    refine zz_bind ?_
    refine zz_callVr F (ρ := [3, 1]) (so := fun q1 => [zi q1.1]) (Mo := fun q1 => [s0, s1, s2, q1.2]) (zfSi_bestFor s3 s1) dX9_bestPlace_24 wcRX9_320 wy_yX4_bestFor rfl ⟨rel13, rfl, rfl, Nat.le_of_ble_eq_true rfl, Nat.le_of_ble_eq_true rfl, Nat.le_of_ble_eq_true rfl⟩ (⟨zlb rfl, zlb rfl, zlb rfl⟩) rfl rfl rfl (fun _ => rfl) (fun _ => rfl) fun q1 => ?_
    exact zz_ireturn F dX9_bestPlace_27 rfl (hκ _)
  · refine zz_iconst F (v := (-1 : Int32)) dX9_bestPlace_12 (by decide) ?_
    refine zz_goto F (tgt := 27) dX9_bestPlace_13 (by decide) ?_
    exact zz_ireturn F dX9_bestPlace_27 rfl (hκ _)
theorem zfWB_bestPlace   (s0 : zM) (s1 : zM) (s2 : zM) (s3 : zM) : ∀ a, fWB_bestPlace s0 s1 s2 s3 = some a → zMet yX9_bestPlace cX9_bestPlace 1 (some .int) 5 125 [(2, [1, 2, 3]), (0, []), (0, []), (1, [])] [zr 0 0 0] [s0, s1, s2, s3] ((fun a => ((.inl ((fun q => some (zi q.1)) a), (fun q => [s0, s1, s2, q.2]) a) : zO)) a) := fun a ha => zMet_of (L0 := [some (zr 0 0 0)]) (φ := Option.bind (fWB_bestPlace s0 s1 s2 s3) (fun a => some ((fun a => ((.inl ((fun q => some (zi q.1)) a), (fun q => [s0, s1, s2, q.2]) a) : zO)) a))) (by decide) (fun _ => Nat.le_of_ble_eq_true rfl) (zl0 0 rfl) (fun X F => bfWB_bestPlace F s0 s1 s2 s3 (fun _ => rfl)) (by rw [ha]; rfl)

theorem dX9_digestTurbine_0 : decode cX9_digestTurbine 0 = .ok (.lload_n 1, 1) := by decide +kernel
theorem dX9_digestTurbine_1 : decode cX9_digestTurbine 1 = .ok (.lstore 4, 2) := by decide +kernel
theorem dX9_digestTurbine_3 : decode cX9_digestTurbine 3 = .ok (.iconst 0, 1) := by decide +kernel
theorem dX9_digestTurbine_4 : decode cX9_digestTurbine 4 = .ok (.istore 6, 2) := by decide +kernel
theorem dX9_digestTurbine_6 : decode cX9_digestTurbine 6 = .ok (.iload 6, 2) := by decide +kernel
theorem dX9_digestTurbine_8 : decode cX9_digestTurbine 8 = .ok (.bipush 10, 2) := by decide +kernel
theorem dX9_digestTurbine_10 : decode cX9_digestTurbine 10 = .ok (.if_icmp .ge 26, 3) := by decide +kernel
theorem dX9_digestTurbine_13 : decode cX9_digestTurbine 13 = .ok (.lload 4, 2) := by decide +kernel
theorem dX9_digestTurbine_15 : decode cX9_digestTurbine 15 = .ok (.ldc2_w 326, 3) := by decide +kernel
theorem dX9_digestTurbine_18 : decode cX9_digestTurbine 18 = .ok (.lmul, 1) := by decide +kernel
theorem dX9_digestTurbine_19 : decode cX9_digestTurbine 19 = .ok (.aload_n 0, 1) := by decide +kernel
theorem dX9_digestTurbine_20 : decode cX9_digestTurbine 20 = .ok (.iload_n 3, 1) := by decide +kernel
theorem dX9_digestTurbine_21 : decode cX9_digestTurbine 21 = .ok (.iload 6, 2) := by decide +kernel
theorem dX9_digestTurbine_23 : decode cX9_digestTurbine 23 = .ok (.invokevirtual 347, 3) := by decide +kernel
theorem dX9_digestTurbine_26 : decode cX9_digestTurbine 26 = .ok (.i2l, 1) := by decide +kernel
theorem dX9_digestTurbine_27 : decode cX9_digestTurbine 27 = .ok (.ladd, 1) := by decide +kernel
theorem dX9_digestTurbine_28 : decode cX9_digestTurbine 28 = .ok (.lstore 4, 2) := by decide +kernel
theorem dX9_digestTurbine_30 : decode cX9_digestTurbine 30 = .ok (.iinc 6 1, 3) := by decide +kernel
theorem dX9_digestTurbine_33 : decode cX9_digestTurbine 33 = .ok (.goto (-27), 3) := by decide +kernel
theorem dX9_digestTurbine_36 : decode cX9_digestTurbine 36 = .ok (.iconst 0, 1) := by decide +kernel
theorem dX9_digestTurbine_37 : decode cX9_digestTurbine 37 = .ok (.istore 6, 2) := by decide +kernel
theorem dX9_digestTurbine_39 : decode cX9_digestTurbine 39 = .ok (.iload 6, 2) := by decide +kernel
theorem dX9_digestTurbine_41 : decode cX9_digestTurbine 41 = .ok (.iconst 3, 1) := by decide +kernel
theorem dX9_digestTurbine_42 : decode cX9_digestTurbine 42 = .ok (.if_icmp .ge 26, 3) := by decide +kernel
theorem dX9_digestTurbine_45 : decode cX9_digestTurbine 45 = .ok (.lload 4, 2) := by decide +kernel
theorem dX9_digestTurbine_47 : decode cX9_digestTurbine 47 = .ok (.ldc2_w 326, 3) := by decide +kernel
theorem dX9_digestTurbine_50 : decode cX9_digestTurbine 50 = .ok (.lmul, 1) := by decide +kernel
theorem dX9_digestTurbine_51 : decode cX9_digestTurbine 51 = .ok (.aload_n 0, 1) := by decide +kernel
theorem dX9_digestTurbine_52 : decode cX9_digestTurbine 52 = .ok (.iload_n 3, 1) := by decide +kernel
theorem dX9_digestTurbine_53 : decode cX9_digestTurbine 53 = .ok (.iload 6, 2) := by decide +kernel
theorem dX9_digestTurbine_55 : decode cX9_digestTurbine 55 = .ok (.invokevirtual 350, 3) := by decide +kernel
theorem dX9_digestTurbine_58 : decode cX9_digestTurbine 58 = .ok (.i2l, 1) := by decide +kernel
theorem dX9_digestTurbine_59 : decode cX9_digestTurbine 59 = .ok (.ladd, 1) := by decide +kernel
theorem dX9_digestTurbine_60 : decode cX9_digestTurbine 60 = .ok (.lstore 4, 2) := by decide +kernel
theorem dX9_digestTurbine_62 : decode cX9_digestTurbine 62 = .ok (.iinc 6 1, 3) := by decide +kernel
theorem dX9_digestTurbine_65 : decode cX9_digestTurbine 65 = .ok (.goto (-26), 3) := by decide +kernel
theorem dX9_digestTurbine_68 : decode cX9_digestTurbine 68 = .ok (.iconst 0, 1) := by decide +kernel
theorem dX9_digestTurbine_69 : decode cX9_digestTurbine 69 = .ok (.istore 6, 2) := by decide +kernel
theorem dX9_digestTurbine_71 : decode cX9_digestTurbine 71 = .ok (.iload 6, 2) := by decide +kernel
theorem dX9_digestTurbine_73 : decode cX9_digestTurbine 73 = .ok (.bipush 8, 2) := by decide +kernel
theorem dX9_digestTurbine_75 : decode cX9_digestTurbine 75 = .ok (.if_icmp .ge 26, 3) := by decide +kernel
theorem dX9_digestTurbine_78 : decode cX9_digestTurbine 78 = .ok (.lload 4, 2) := by decide +kernel
theorem dX9_digestTurbine_80 : decode cX9_digestTurbine 80 = .ok (.ldc2_w 326, 3) := by decide +kernel
theorem dX9_digestTurbine_83 : decode cX9_digestTurbine 83 = .ok (.lmul, 1) := by decide +kernel
theorem dX9_digestTurbine_84 : decode cX9_digestTurbine 84 = .ok (.aload_n 0, 1) := by decide +kernel
theorem dX9_digestTurbine_85 : decode cX9_digestTurbine 85 = .ok (.iload_n 3, 1) := by decide +kernel
theorem dX9_digestTurbine_86 : decode cX9_digestTurbine 86 = .ok (.iload 6, 2) := by decide +kernel
theorem dX9_digestTurbine_88 : decode cX9_digestTurbine 88 = .ok (.invokevirtual 353, 3) := by decide +kernel
theorem dX9_digestTurbine_91 : decode cX9_digestTurbine 91 = .ok (.i2l, 1) := by decide +kernel
theorem dX9_digestTurbine_92 : decode cX9_digestTurbine 92 = .ok (.ladd, 1) := by decide +kernel
theorem dX9_digestTurbine_93 : decode cX9_digestTurbine 93 = .ok (.lstore 4, 2) := by decide +kernel
theorem dX9_digestTurbine_95 : decode cX9_digestTurbine 95 = .ok (.iinc 6 1, 3) := by decide +kernel
theorem dX9_digestTurbine_98 : decode cX9_digestTurbine 98 = .ok (.goto (-27), 3) := by decide +kernel
theorem dX9_digestTurbine_101 : decode cX9_digestTurbine 101 = .ok (.iconst 0, 1) := by decide +kernel
theorem dX9_digestTurbine_102 : decode cX9_digestTurbine 102 = .ok (.istore 6, 2) := by decide +kernel
theorem dX9_digestTurbine_104 : decode cX9_digestTurbine 104 = .ok (.iload 6, 2) := by decide +kernel
theorem dX9_digestTurbine_106 : decode cX9_digestTurbine 106 = .ok (.aload_n 0, 1) := by decide +kernel
theorem dX9_digestTurbine_107 : decode cX9_digestTurbine 107 = .ok (.getfield 10, 3) := by decide +kernel
theorem dX9_digestTurbine_110 : decode cX9_digestTurbine 110 = .ok (.getfield 118, 3) := by decide +kernel
theorem dX9_digestTurbine_113 : decode cX9_digestTurbine 113 = .ok (.iload_n 3, 1) := by decide +kernel
theorem dX9_digestTurbine_114 : decode cX9_digestTurbine 114 = .ok (.aaload, 1) := by decide +kernel
theorem dX9_digestTurbine_115 : decode cX9_digestTurbine 115 = .ok (.getfield 214, 3) := by decide +kernel
theorem dX9_digestTurbine_118 : decode cX9_digestTurbine 118 = .ok (.getfield 223, 3) := by decide +kernel
theorem dX9_digestTurbine_121 : decode cX9_digestTurbine 121 = .ok (.if_icmp .ge 26, 3) := by decide +kernel
theorem dX9_digestTurbine_124 : decode cX9_digestTurbine 124 = .ok (.lload 4, 2) := by decide +kernel
theorem dX9_digestTurbine_126 : decode cX9_digestTurbine 126 = .ok (.ldc2_w 326, 3) := by decide +kernel
theorem dX9_digestTurbine_129 : decode cX9_digestTurbine 129 = .ok (.lmul, 1) := by decide +kernel
theorem dX9_digestTurbine_130 : decode cX9_digestTurbine 130 = .ok (.aload_n 0, 1) := by decide +kernel
theorem dX9_digestTurbine_131 : decode cX9_digestTurbine 131 = .ok (.iload_n 3, 1) := by decide +kernel
theorem dX9_digestTurbine_132 : decode cX9_digestTurbine 132 = .ok (.iload 6, 2) := by decide +kernel
theorem dX9_digestTurbine_134 : decode cX9_digestTurbine 134 = .ok (.invokevirtual 356, 3) := by decide +kernel
theorem dX9_digestTurbine_137 : decode cX9_digestTurbine 137 = .ok (.i2l, 1) := by decide +kernel
theorem dX9_digestTurbine_138 : decode cX9_digestTurbine 138 = .ok (.ladd, 1) := by decide +kernel
theorem dX9_digestTurbine_139 : decode cX9_digestTurbine 139 = .ok (.lstore 4, 2) := by decide +kernel
theorem dX9_digestTurbine_141 : decode cX9_digestTurbine 141 = .ok (.iinc 6 1, 3) := by decide +kernel
theorem dX9_digestTurbine_144 : decode cX9_digestTurbine 144 = .ok (.goto (-40), 3) := by decide +kernel
theorem dX9_digestTurbine_147 : decode cX9_digestTurbine 147 = .ok (.iconst 0, 1) := by decide +kernel
theorem dX9_digestTurbine_148 : decode cX9_digestTurbine 148 = .ok (.istore 6, 2) := by decide +kernel
theorem dX9_digestTurbine_150 : decode cX9_digestTurbine 150 = .ok (.iload 6, 2) := by decide +kernel
theorem dX9_digestTurbine_152 : decode cX9_digestTurbine 152 = .ok (.aload_n 0, 1) := by decide +kernel
theorem dX9_digestTurbine_153 : decode cX9_digestTurbine 153 = .ok (.getfield 10, 3) := by decide +kernel
theorem dX9_digestTurbine_156 : decode cX9_digestTurbine 156 = .ok (.getfield 56, 3) := by decide +kernel
theorem dX9_digestTurbine_159 : decode cX9_digestTurbine 159 = .ok (.if_icmp .ge 26, 3) := by decide +kernel
theorem dX9_digestTurbine_162 : decode cX9_digestTurbine 162 = .ok (.lload 4, 2) := by decide +kernel
theorem dX9_digestTurbine_164 : decode cX9_digestTurbine 164 = .ok (.ldc2_w 326, 3) := by decide +kernel
theorem dX9_digestTurbine_167 : decode cX9_digestTurbine 167 = .ok (.lmul, 1) := by decide +kernel
theorem dX9_digestTurbine_168 : decode cX9_digestTurbine 168 = .ok (.aload_n 0, 1) := by decide +kernel
theorem dX9_digestTurbine_169 : decode cX9_digestTurbine 169 = .ok (.iload_n 3, 1) := by decide +kernel
theorem dX9_digestTurbine_170 : decode cX9_digestTurbine 170 = .ok (.iload 6, 2) := by decide +kernel
theorem dX9_digestTurbine_172 : decode cX9_digestTurbine 172 = .ok (.invokevirtual 359, 3) := by decide +kernel
theorem dX9_digestTurbine_175 : decode cX9_digestTurbine 175 = .ok (.i2l, 1) := by decide +kernel
theorem dX9_digestTurbine_176 : decode cX9_digestTurbine 176 = .ok (.ladd, 1) := by decide +kernel
theorem dX9_digestTurbine_177 : decode cX9_digestTurbine 177 = .ok (.lstore 4, 2) := by decide +kernel
theorem dX9_digestTurbine_179 : decode cX9_digestTurbine 179 = .ok (.iinc 6 1, 3) := by decide +kernel
theorem dX9_digestTurbine_182 : decode cX9_digestTurbine 182 = .ok (.goto (-32), 3) := by decide +kernel
theorem dX9_digestTurbine_185 : decode cX9_digestTurbine 185 = .ok (.lload 4, 2) := by decide +kernel
theorem dX9_digestTurbine_187 : decode cX9_digestTurbine 187 = .ok (.lreturn, 1) := by decide +kernel
theorem wlRX9_326 : Cond.constantLong RX9 326 (31 : Int64) ∈ zTg := zm_f 351 (by decide +kernel) rfl
theorem wcRX9_347 : Cond.methodLink RX9 347 yX9_ofTurbine ∈ zTg ∧ Cond.instanceMethod yX9_ofTurbine ∈ zTg ∧ Cond.selects RX9 yX9_ofTurbine yX9_ofTurbine ∈ zTg ∧ Cond.initialized RX9 ∈ zTg ∧ Cond.code yX9_ofTurbine cX9_ofTurbine 4 (some .int) ∈ zTg := ⟨zm_f 373 (by decide +kernel) rfl, zm_f 374 (by decide +kernel) rfl, zm_f 375 (by decide +kernel) rfl, zm_f 21 (by decide +kernel) rfl, zm_f 376 (by decide +kernel) rfl⟩
theorem wy_yX9_ofTurbine : yX9_ofTurbine.cls = RX9 ∧ yX9_ofTurbine.cls ≠ "java/lang/invoke/MethodHandle" ∧ yX9_ofTurbine.cls ≠ "java/lang/invoke/VarHandle" ∧ (parseMethodDescriptor yX9_ofTurbine.desc).map (fun d => d.parameters.length) = some 2 := by decide +kernel
theorem wcRX9_350 : Cond.methodLink RX9 350 yX9_wear ∈ zTg ∧ Cond.instanceMethod yX9_wear ∈ zTg ∧ Cond.selects RX9 yX9_wear yX9_wear ∈ zTg ∧ Cond.initialized RX9 ∈ zTg ∧ Cond.code yX9_wear cX9_wear 3 (some .int) ∈ zTg := ⟨zm_f 379 (by decide +kernel) rfl, zm_f 380 (by decide +kernel) rfl, zm_f 381 (by decide +kernel) rfl, zm_f 21 (by decide +kernel) rfl, zm_f 382 (by decide +kernel) rfl⟩
theorem wy_yX9_wear : yX9_wear.cls = RX9 ∧ yX9_wear.cls ≠ "java/lang/invoke/MethodHandle" ∧ yX9_wear.cls ≠ "java/lang/invoke/VarHandle" ∧ (parseMethodDescriptor yX9_wear.desc).map (fun d => d.parameters.length) = some 2 := by decide +kernel
theorem wcRX9_353 : Cond.methodLink RX9 353 yX9_lost ∈ zTg ∧ Cond.instanceMethod yX9_lost ∈ zTg ∧ Cond.selects RX9 yX9_lost yX9_lost ∈ zTg ∧ Cond.initialized RX9 ∈ zTg ∧ Cond.code yX9_lost cX9_lost 3 (some .int) ∈ zTg := ⟨zm_f 387 (by decide +kernel) rfl, zm_f 388 (by decide +kernel) rfl, zm_f 389 (by decide +kernel) rfl, zm_f 21 (by decide +kernel) rfl, zm_f 390 (by decide +kernel) rfl⟩
theorem wy_yX9_lost : yX9_lost.cls = RX9 ∧ yX9_lost.cls ≠ "java/lang/invoke/MethodHandle" ∧ yX9_lost.cls ≠ "java/lang/invoke/VarHandle" ∧ (parseMethodDescriptor yX9_lost.desc).map (fun d => d.parameters.length) = some 2 := by decide +kernel
theorem wcRX9_356 : Cond.methodLink RX9 356 yX9_extreme ∈ zTg ∧ Cond.instanceMethod yX9_extreme ∈ zTg ∧ Cond.selects RX9 yX9_extreme yX9_extreme ∈ zTg ∧ Cond.initialized RX9 ∈ zTg ∧ Cond.code yX9_extreme cX9_extreme 4 (some .int) ∈ zTg := ⟨zm_f 392 (by decide +kernel) rfl, zm_f 393 (by decide +kernel) rfl, zm_f 394 (by decide +kernel) rfl, zm_f 21 (by decide +kernel) rfl, zm_f 395 (by decide +kernel) rfl⟩
theorem wy_yX9_extreme : yX9_extreme.cls = RX9 ∧ yX9_extreme.cls ≠ "java/lang/invoke/MethodHandle" ∧ yX9_extreme.cls ≠ "java/lang/invoke/VarHandle" ∧ (parseMethodDescriptor yX9_extreme.desc).map (fun d => d.parameters.length) = some 2 := by decide +kernel
theorem wcRX9_359 : Cond.methodLink RX9 359 yX9_wake ∈ zTg ∧ Cond.instanceMethod yX9_wake ∈ zTg ∧ Cond.selects RX9 yX9_wake yX9_wake ∈ zTg ∧ Cond.initialized RX9 ∈ zTg ∧ Cond.code yX9_wake cX9_wake 3 (some .int) ∈ zTg := ⟨zm_f 397 (by decide +kernel) rfl, zm_f 398 (by decide +kernel) rfl, zm_f 399 (by decide +kernel) rfl, zm_f 21 (by decide +kernel) rfl, zm_f 400 (by decide +kernel) rfl⟩
theorem wy_yX9_wake : yX9_wake.cls = RX9 ∧ yX9_wake.cls ≠ "java/lang/invoke/MethodHandle" ∧ yX9_wake.cls ≠ "java/lang/invoke/VarHandle" ∧ (parseMethodDescriptor yX9_wake.desc).map (fun d => d.parameters.length) = some 2 := by decide +kernel
def fWB_digestTurbine_l6 (a3 : Int32) (s0 : zM) (s1 : zM) (s2 : zM) (s3 : zM) (q1 : Int64 × Int32) : Option ((Int64 × Int32) ⊕ ((Int64) ⊕ ((Int64) ⊕ (String)))) :=
  if (10 : Int32) ≤ q1.2 then
  some (.inr (.inl q1.1))
else
  Option.bind (fWB_ofTurbine a3 q1.2 s0 s1 s2 s3) (Sum.elim (fun q3 =>
    zlet (((q1.1 * (31 : Int64)) + (q3).toInt64)) fun v4 =>
    zlet (q1.2 + 1) fun v5 =>
    some (.inl (v4, v5))) (fun b => some (.inr (.inr (.inr b)))))
def fWB_digestTurbine_l39 (a3 : Int32) (s0 : zM) (s1 : zM) (s2 : zM) (s3 : zM) (q6 : Int64 × Int32) : Option ((Int64 × Int32) ⊕ ((Int64) ⊕ ((Int64) ⊕ (String)))) :=
  if (3 : Int32) ≤ q6.2 then
  some (.inr (.inl q6.1))
else
  Option.bind (fWB_wear a3 q6.2 s0 s1 s2 s3) (Sum.elim (fun q8 =>
    zlet (((q6.1 * (31 : Int64)) + (q8).toInt64)) fun v9 =>
    zlet (q6.2 + 1) fun v10 =>
    some (.inl (v9, v10))) (fun b => some (.inr (.inr (.inr b)))))
def fWB_digestTurbine_l71 (a3 : Int32) (s0 : zM) (s1 : zM) (s2 : zM) (s3 : zM) (q11 : Int64 × Int32) : Option ((Int64 × Int32) ⊕ ((Int64) ⊕ ((Int64) ⊕ (String)))) :=
  if (8 : Int32) ≤ q11.2 then
  some (.inr (.inl q11.1))
else
  Option.bind (fWB_lost a3 q11.2 s0 s1 s2 s3) (Sum.elim (fun q13 =>
    zlet (((q11.1 * (31 : Int64)) + (q13).toInt64)) fun v14 =>
    zlet (q11.2 + 1) fun v15 =>
    some (.inl (v14, v15))) (fun b => some (.inr (.inr (.inr b)))))
def fWB_digestTurbine_l104 (a3 : Int32) (s0 : zM) (s1 : zM) (s2 : zM) (s3 : zM) (q16 : Int64 × Int32) : Option ((Int64 × Int32) ⊕ ((Int64) ⊕ ((Int64) ⊕ (String)))) :=
  zix a3 8 fun j18 =>
  if (s1 10 j18 1) ≤ q16.2 then
  some (.inr (.inl q16.1))
else
  Option.bind (fWB_extreme a3 q16.2 s0 s1 s2 s3) (Sum.elim (fun q19 =>
    zlet (((q16.1 * (31 : Int64)) + (q19).toInt64)) fun v20 =>
    zlet (q16.2 + 1) fun v21 =>
    some (.inl (v20, v21))) (fun b => some (.inr (.inr (.inr b)))))
def fWB_digestTurbine_l150 (a3 : Int32) (s0 : zM) (s1 : zM) (s2 : zM) (s3 : zM) (q22 : Int64 × Int32) : Option ((Int64 × Int32) ⊕ ((Int64) ⊕ ((Int64) ⊕ (String)))) :=
  if (s1 0 0 5) ≤ q22.2 then
  some (.inr (.inl q22.1))
else
  Option.bind (fWB_wake a3 q22.2 s0 s1 s2 s3) (Sum.elim (fun q24 =>
    zlet (((q22.1 * (31 : Int64)) + (q24).toInt64)) fun v25 =>
    zlet (q22.2 + 1) fun v26 =>
    some (.inl (v25, v26))) (fun b => some (.inr (.inr (.inr b)))))
def fWB_digestTurbine (a1 : Int64) (a3 : Int32) (s0 : zM) (s1 : zM) (s2 : zM) (s3 : zM) : Option ((Int64) ⊕ (String)) :=
  Option.bind (ziter (fWB_digestTurbine_l6 a3 s0 s1 s2 s3) 1000 (a1, (0 : Int32))) (Sum.elim (fun q2 =>
  Option.bind (ziter (fWB_digestTurbine_l39 a3 s0 s1 s2 s3) 1000 (q2, (0 : Int32))) (Sum.elim (fun q7 =>
  Option.bind (ziter (fWB_digestTurbine_l71 a3 s0 s1 s2 s3) 1000 (q7, (0 : Int32))) (Sum.elim (fun q12 =>
  Option.bind (ziter (fWB_digestTurbine_l104 a3 s0 s1 s2 s3) 1000 (q12, (0 : Int32))) (Sum.elim (fun q17 =>
  Option.bind (ziter (fWB_digestTurbine_l150 a3 s0 s1 s2 s3) 1000 (q17, (0 : Int32))) (Sum.elim (fun q23 =>
  some (.inl q23)) (fun r => some r))) (fun r => some r))) (fun r => some r))) (fun r => some r))) (fun r => some r))
set_option maxHeartbeats 4000000 in
set_option maxRecDepth 20000 in
theorem bfWB_digestTurbine_l6 {X : zX} (F : zFr X cX9_digestTurbine 7 RX9 (some .long)) (a3 : Int32) (s0 : zM) (s1 : zM) (s2 : zM) (s3 : zM)  {ψ : (Int64 × Int32) ⊕ ((Int64) ⊕ ((Int64) ⊕ (String))) → Option zO} (h1 : ∀ q1 : Int64 × Int32, zZ X [(2, [1, 2, 3]), (0, []), (0, []), (1, [])] 8 134 7 6 [some (zr 0 0 0), none, none, some (zi a3), some (zl q1.1), none, some (zi q1.2)] [] [s0, s1, s2, s3] (ψ (.inl q1))) (h2 : ∀ q2 : Int64, zZ X [(2, [1, 2, 3]), (0, []), (0, []), (1, [])] 8 134 7 36 [some (zr 0 0 0), none, none, some (zi a3), some (zl q2), none, none] [] [s0, s1, s2, s3] (ψ (.inr (.inl q2)))) (h3 : ∀ r, ψ (.inr (.inr r)) = some ((zts (fun q => some (zl q)) (fun _ => [s0, s1, s2, s3]) (fun b => b) (fun _ => [s0, s1, s2, s3])) r)) (q1 : Int64 × Int32) : zZ X [(2, [1, 2, 3]), (0, []), (0, []), (1, [])] 8 134 7 6 [some (zr 0 0 0), none, none, some (zi a3), some (zl q1.1), none, some (zi q1.2)] [] [s0, s1, s2, s3] (Option.bind (fWB_digestTurbine_l6 a3 s0 s1 s2 s3 q1) ψ) := by
  unfold fWB_digestTurbine_l6
  refine zz_iload F (i := 6) dX9_digestTurbine_6 rfl ?_
  refine zz_bipush F (v := (10 : Int32)) dX9_digestTurbine_8 (by decide) ?_
  refine zz_icmp_ge F (tgt := 36) dX9_digestTurbine_10 (by decide) (fun h => zz_t h ?_) (fun h => zz_f h ?_)
  · exact zz_sub (zs_k (zs_k (zs_k (zs_k (zs_k (zs_k (zs_n zs_z))))))) (h2 q1.1)
  · refine zz_lload F (i := 4) dX9_digestTurbine_13 rfl ?_
    refine zz_ldc2 F (v := (31 : Int64)) dX9_digestTurbine_15 wlRX9_326 ?_
    refine zz_lmul F dX9_digestTurbine_18 ?_
    refine zz_aload_n F (i := 0) dX9_digestTurbine_19 rfl rfl ?_
    refine zz_iload_n F (i := 3) dX9_digestTurbine_20 rfl rfl ?_
    refine zz_iload F (i := 6) dX9_digestTurbine_21 rfl ?_
    refine zz_bind ?_
    refine zz_callVx F (ρ := [0, 1, 2, 3]) (so := fun q3 => [zi q3, zl (q1.1 * (31 : Int64))]) (Mo := fun q3 => [s0, s1, s2, s3]) (Xo := fun _ => [s0, s1, s2, s3]) (zfWB_ofTurbine a3 q1.2 s0 s1 s2 s3) dX9_digestTurbine_23 wcRX9_347 wy_yX9_ofTurbine rfl ⟨rel2, rfl, rfl, Nat.le_of_ble_eq_true rfl, Nat.le_of_ble_eq_true rfl, Nat.le_of_ble_eq_true rfl⟩ (⟨zlb rfl, zlb rfl, zlb rfl⟩) rfl rfl rfl (fun _ => rfl) (fun _ => rfl) (fun _ => rfl) (fun _ => (h3 _)) fun q3 => ?_
    dsimp only [Sum.elim_inl]
    refine zz_i2l F dX9_digestTurbine_26 ?_
    refine zz_ladd F dX9_digestTurbine_27 ?_
    refine zz_lstore F (i := 4) (L' := [some (zr 0 0 0), none, none, some (zi a3), some (zl ((q1.1 * (31 : Int64)) + (q3).toInt64)), none, some (zi q1.2)]) dX9_digestTurbine_28 (by decide) rfl rfl ?_
    refine zz_letl (Lf := fun v4 => [some (zr 0 0 0), none, none, some (zi a3), some (zl v4), none, some (zi q1.2)]) fun v4 => ?_
    refine zz_iinc F (i := 6) (v := q1.2 + 1) (L' := [some (zr 0 0 0), none, none, some (zi a3), some (zl v4), none, some (zi (q1.2 + 1))]) dX9_digestTurbine_30 rfl (by first | rfl | decide) (by decide) rfl rfl ?_
    refine zz_letl (Lf := fun v5 => [some (zr 0 0 0), none, none, some (zi a3), some (zl v4), none, some (zi v5)]) fun v5 => ?_
    refine zz_goto F (tgt := 6) dX9_digestTurbine_33 (by decide) ?_
    exact zz_sub (zs_k (zs_k (zs_k (zs_k (zs_k (zs_k (zs_k zs_z))))))) (h1 (v4, v5))
set_option maxHeartbeats 4000000 in
set_option maxRecDepth 20000 in
theorem bfWB_digestTurbine_l39 {X : zX} (F : zFr X cX9_digestTurbine 7 RX9 (some .long)) (a3 : Int32) (s0 : zM) (s1 : zM) (s2 : zM) (s3 : zM)  {ψ : (Int64 × Int32) ⊕ ((Int64) ⊕ ((Int64) ⊕ (String))) → Option zO} (h1 : ∀ q6 : Int64 × Int32, zZ X [(2, [1, 2, 3]), (0, []), (0, []), (1, [])] 8 134 7 39 [some (zr 0 0 0), none, none, some (zi a3), some (zl q6.1), none, some (zi q6.2)] [] [s0, s1, s2, s3] (ψ (.inl q6))) (h2 : ∀ q7 : Int64, zZ X [(2, [1, 2, 3]), (0, []), (0, []), (1, [])] 8 134 7 68 [some (zr 0 0 0), none, none, some (zi a3), some (zl q7), none, none] [] [s0, s1, s2, s3] (ψ (.inr (.inl q7)))) (h3 : ∀ r, ψ (.inr (.inr r)) = some ((zts (fun q => some (zl q)) (fun _ => [s0, s1, s2, s3]) (fun b => b) (fun _ => [s0, s1, s2, s3])) r)) (q6 : Int64 × Int32) : zZ X [(2, [1, 2, 3]), (0, []), (0, []), (1, [])] 8 134 7 39 [some (zr 0 0 0), none, none, some (zi a3), some (zl q6.1), none, some (zi q6.2)] [] [s0, s1, s2, s3] (Option.bind (fWB_digestTurbine_l39 a3 s0 s1 s2 s3 q6) ψ) := by
  unfold fWB_digestTurbine_l39
  refine zz_iload F (i := 6) dX9_digestTurbine_39 rfl ?_
  refine zz_iconst F (v := (3 : Int32)) dX9_digestTurbine_41 (by decide) ?_
  refine zz_icmp_ge F (tgt := 68) dX9_digestTurbine_42 (by decide) (fun h => zz_t h ?_) (fun h => zz_f h ?_)
  · exact zz_sub (zs_k (zs_k (zs_k (zs_k (zs_k (zs_k (zs_n zs_z))))))) (h2 q6.1)
  · refine zz_lload F (i := 4) dX9_digestTurbine_45 rfl ?_
    refine zz_ldc2 F (v := (31 : Int64)) dX9_digestTurbine_47 wlRX9_326 ?_
    refine zz_lmul F dX9_digestTurbine_50 ?_
    refine zz_aload_n F (i := 0) dX9_digestTurbine_51 rfl rfl ?_
    refine zz_iload_n F (i := 3) dX9_digestTurbine_52 rfl rfl ?_
    refine zz_iload F (i := 6) dX9_digestTurbine_53 rfl ?_
    refine zz_bind ?_
    refine zz_callVx F (ρ := [0, 1, 2, 3]) (so := fun q8 => [zi q8, zl (q6.1 * (31 : Int64))]) (Mo := fun q8 => [s0, s1, s2, s3]) (Xo := fun _ => [s0, s1, s2, s3]) (zfWB_wear a3 q6.2 s0 s1 s2 s3) dX9_digestTurbine_55 wcRX9_350 wy_yX9_wear rfl ⟨rel2, rfl, rfl, Nat.le_of_ble_eq_true rfl, Nat.le_of_ble_eq_true rfl, Nat.le_of_ble_eq_true rfl⟩ (⟨zlb rfl, zlb rfl, zlb rfl⟩) rfl rfl rfl (fun _ => rfl) (fun _ => rfl) (fun _ => rfl) (fun _ => (h3 _)) fun q8 => ?_
    dsimp only [Sum.elim_inl]
    refine zz_i2l F dX9_digestTurbine_58 ?_
    refine zz_ladd F dX9_digestTurbine_59 ?_
    refine zz_lstore F (i := 4) (L' := [some (zr 0 0 0), none, none, some (zi a3), some (zl ((q6.1 * (31 : Int64)) + (q8).toInt64)), none, some (zi q6.2)]) dX9_digestTurbine_60 (by decide) rfl rfl ?_
    refine zz_letl (Lf := fun v9 => [some (zr 0 0 0), none, none, some (zi a3), some (zl v9), none, some (zi q6.2)]) fun v9 => ?_
    refine zz_iinc F (i := 6) (v := q6.2 + 1) (L' := [some (zr 0 0 0), none, none, some (zi a3), some (zl v9), none, some (zi (q6.2 + 1))]) dX9_digestTurbine_62 rfl (by first | rfl | decide) (by decide) rfl rfl ?_
    refine zz_letl (Lf := fun v10 => [some (zr 0 0 0), none, none, some (zi a3), some (zl v9), none, some (zi v10)]) fun v10 => ?_
    refine zz_goto F (tgt := 39) dX9_digestTurbine_65 (by decide) ?_
    exact zz_sub (zs_k (zs_k (zs_k (zs_k (zs_k (zs_k (zs_k zs_z))))))) (h1 (v9, v10))
set_option maxHeartbeats 4000000 in
set_option maxRecDepth 20000 in
theorem bfWB_digestTurbine_l71 {X : zX} (F : zFr X cX9_digestTurbine 7 RX9 (some .long)) (a3 : Int32) (s0 : zM) (s1 : zM) (s2 : zM) (s3 : zM)  {ψ : (Int64 × Int32) ⊕ ((Int64) ⊕ ((Int64) ⊕ (String))) → Option zO} (h1 : ∀ q11 : Int64 × Int32, zZ X [(2, [1, 2, 3]), (0, []), (0, []), (1, [])] 8 134 7 71 [some (zr 0 0 0), none, none, some (zi a3), some (zl q11.1), none, some (zi q11.2)] [] [s0, s1, s2, s3] (ψ (.inl q11))) (h2 : ∀ q12 : Int64, zZ X [(2, [1, 2, 3]), (0, []), (0, []), (1, [])] 8 134 7 101 [some (zr 0 0 0), none, none, some (zi a3), some (zl q12), none, none] [] [s0, s1, s2, s3] (ψ (.inr (.inl q12)))) (h3 : ∀ r, ψ (.inr (.inr r)) = some ((zts (fun q => some (zl q)) (fun _ => [s0, s1, s2, s3]) (fun b => b) (fun _ => [s0, s1, s2, s3])) r)) (q11 : Int64 × Int32) : zZ X [(2, [1, 2, 3]), (0, []), (0, []), (1, [])] 8 134 7 71 [some (zr 0 0 0), none, none, some (zi a3), some (zl q11.1), none, some (zi q11.2)] [] [s0, s1, s2, s3] (Option.bind (fWB_digestTurbine_l71 a3 s0 s1 s2 s3 q11) ψ) := by
  unfold fWB_digestTurbine_l71
  refine zz_iload F (i := 6) dX9_digestTurbine_71 rfl ?_
  refine zz_bipush F (v := (8 : Int32)) dX9_digestTurbine_73 (by decide) ?_
  refine zz_icmp_ge F (tgt := 101) dX9_digestTurbine_75 (by decide) (fun h => zz_t h ?_) (fun h => zz_f h ?_)
  · exact zz_sub (zs_k (zs_k (zs_k (zs_k (zs_k (zs_k (zs_n zs_z))))))) (h2 q11.1)
  · refine zz_lload F (i := 4) dX9_digestTurbine_78 rfl ?_
    refine zz_ldc2 F (v := (31 : Int64)) dX9_digestTurbine_80 wlRX9_326 ?_
    refine zz_lmul F dX9_digestTurbine_83 ?_
    refine zz_aload_n F (i := 0) dX9_digestTurbine_84 rfl rfl ?_
    refine zz_iload_n F (i := 3) dX9_digestTurbine_85 rfl rfl ?_
    refine zz_iload F (i := 6) dX9_digestTurbine_86 rfl ?_
    refine zz_bind ?_
    refine zz_callVx F (ρ := [0, 1, 2, 3]) (so := fun q13 => [zi q13, zl (q11.1 * (31 : Int64))]) (Mo := fun q13 => [s0, s1, s2, s3]) (Xo := fun _ => [s0, s1, s2, s3]) (zfWB_lost a3 q11.2 s0 s1 s2 s3) dX9_digestTurbine_88 wcRX9_353 wy_yX9_lost rfl ⟨rel2, rfl, rfl, Nat.le_of_ble_eq_true rfl, Nat.le_of_ble_eq_true rfl, Nat.le_of_ble_eq_true rfl⟩ (⟨zlb rfl, zlb rfl, zlb rfl⟩) rfl rfl rfl (fun _ => rfl) (fun _ => rfl) (fun _ => rfl) (fun _ => (h3 _)) fun q13 => ?_
    dsimp only [Sum.elim_inl]
    refine zz_i2l F dX9_digestTurbine_91 ?_
    refine zz_ladd F dX9_digestTurbine_92 ?_
    refine zz_lstore F (i := 4) (L' := [some (zr 0 0 0), none, none, some (zi a3), some (zl ((q11.1 * (31 : Int64)) + (q13).toInt64)), none, some (zi q11.2)]) dX9_digestTurbine_93 (by decide) rfl rfl ?_
    refine zz_letl (Lf := fun v14 => [some (zr 0 0 0), none, none, some (zi a3), some (zl v14), none, some (zi q11.2)]) fun v14 => ?_
    refine zz_iinc F (i := 6) (v := q11.2 + 1) (L' := [some (zr 0 0 0), none, none, some (zi a3), some (zl v14), none, some (zi (q11.2 + 1))]) dX9_digestTurbine_95 rfl (by first | rfl | decide) (by decide) rfl rfl ?_
    refine zz_letl (Lf := fun v15 => [some (zr 0 0 0), none, none, some (zi a3), some (zl v14), none, some (zi v15)]) fun v15 => ?_
    refine zz_goto F (tgt := 71) dX9_digestTurbine_98 (by decide) ?_
    exact zz_sub (zs_k (zs_k (zs_k (zs_k (zs_k (zs_k (zs_k zs_z))))))) (h1 (v14, v15))
set_option maxHeartbeats 4000000 in
set_option maxRecDepth 20000 in
theorem bfWB_digestTurbine_l104 {X : zX} (F : zFr X cX9_digestTurbine 7 RX9 (some .long)) (a3 : Int32) (s0 : zM) (s1 : zM) (s2 : zM) (s3 : zM)  {ψ : (Int64 × Int32) ⊕ ((Int64) ⊕ ((Int64) ⊕ (String))) → Option zO} (h1 : ∀ q16 : Int64 × Int32, zZ X [(2, [1, 2, 3]), (0, []), (0, []), (1, [])] 8 134 7 104 [some (zr 0 0 0), none, none, some (zi a3), some (zl q16.1), none, some (zi q16.2)] [] [s0, s1, s2, s3] (ψ (.inl q16))) (h2 : ∀ q17 : Int64, zZ X [(2, [1, 2, 3]), (0, []), (0, []), (1, [])] 8 134 7 147 [some (zr 0 0 0), none, none, some (zi a3), some (zl q17), none, none] [] [s0, s1, s2, s3] (ψ (.inr (.inl q17)))) (h3 : ∀ r, ψ (.inr (.inr r)) = some ((zts (fun q => some (zl q)) (fun _ => [s0, s1, s2, s3]) (fun b => b) (fun _ => [s0, s1, s2, s3])) r)) (q16 : Int64 × Int32) : zZ X [(2, [1, 2, 3]), (0, []), (0, []), (1, [])] 8 134 7 104 [some (zr 0 0 0), none, none, some (zi a3), some (zl q16.1), none, some (zi q16.2)] [] [s0, s1, s2, s3] (Option.bind (fWB_digestTurbine_l104 a3 s0 s1 s2 s3 q16) ψ) := by
  unfold fWB_digestTurbine_l104
  refine zz_iload F (i := 6) dX9_digestTurbine_104 rfl ?_
  refine zz_aload_n F (i := 0) dX9_digestTurbine_106 rfl rfl ?_
  refine zz_getr F dX9_digestTurbine_107 wfRX9_10 zCl_8 rfl (⟨zlb rfl, zlb rfl, zlb rfl⟩) rfl (by decide) rfl (r' := 1) (by decide) ?_
  refine zz_getr F dX9_digestTurbine_110 wfRX9_118 zCl_3 rfl (⟨zlb rfl, zlb rfl, zlb rfl⟩) rfl (by decide) rfl (r' := 1) (by decide) ?_
  refine zz_iload_n F (i := 3) dX9_digestTurbine_113 rfl rfl ?_
  refine zz_ix fun j18 hj18 hinj18 hej18 => zz_aal F dX9_digestTurbine_114 rfl (⟨zlb rfl, zlb rfl, zlb rfl⟩) rfl (by decide) rfl hinj18 hej18 rfl ?_
  refine zz_getr F dX9_digestTurbine_115 wfRX9_214 zCl_5 rfl (⟨zlb rfl, zlb rfl, hj18⟩) rfl (by decide) rfl (r' := 1) (by decide) ?_
  refine zz_getf F dX9_digestTurbine_118 wfRX9_223 zCl_1 rfl (⟨zlb rfl, zlb rfl, hj18⟩) rfl (by decide) rfl rfl ?_
  refine zz_icmp_ge F (tgt := 147) dX9_digestTurbine_121 (by decide) (fun h => zz_t h ?_) (fun h => zz_f h ?_)
  · exact zz_sub (zs_k (zs_k (zs_k (zs_k (zs_k (zs_k (zs_n zs_z))))))) (h2 q16.1)
  · refine zz_lload F (i := 4) dX9_digestTurbine_124 rfl ?_
    refine zz_ldc2 F (v := (31 : Int64)) dX9_digestTurbine_126 wlRX9_326 ?_
    refine zz_lmul F dX9_digestTurbine_129 ?_
    refine zz_aload_n F (i := 0) dX9_digestTurbine_130 rfl rfl ?_
    refine zz_iload_n F (i := 3) dX9_digestTurbine_131 rfl rfl ?_
    refine zz_iload F (i := 6) dX9_digestTurbine_132 rfl ?_
    refine zz_bind ?_
    refine zz_callVx F (ρ := [0, 1, 2, 3]) (so := fun q19 => [zi q19, zl (q16.1 * (31 : Int64))]) (Mo := fun q19 => [s0, s1, s2, s3]) (Xo := fun _ => [s0, s1, s2, s3]) (zfWB_extreme a3 q16.2 s0 s1 s2 s3) dX9_digestTurbine_134 wcRX9_356 wy_yX9_extreme rfl ⟨rel2, rfl, rfl, Nat.le_of_ble_eq_true rfl, Nat.le_of_ble_eq_true rfl, Nat.le_of_ble_eq_true rfl⟩ (⟨zlb rfl, zlb rfl, zlb rfl⟩) rfl rfl rfl (fun _ => rfl) (fun _ => rfl) (fun _ => rfl) (fun _ => (h3 _)) fun q19 => ?_
    dsimp only [Sum.elim_inl]
    refine zz_i2l F dX9_digestTurbine_137 ?_
    refine zz_ladd F dX9_digestTurbine_138 ?_
    refine zz_lstore F (i := 4) (L' := [some (zr 0 0 0), none, none, some (zi a3), some (zl ((q16.1 * (31 : Int64)) + (q19).toInt64)), none, some (zi q16.2)]) dX9_digestTurbine_139 (by decide) rfl rfl ?_
    refine zz_letl (Lf := fun v20 => [some (zr 0 0 0), none, none, some (zi a3), some (zl v20), none, some (zi q16.2)]) fun v20 => ?_
    refine zz_iinc F (i := 6) (v := q16.2 + 1) (L' := [some (zr 0 0 0), none, none, some (zi a3), some (zl v20), none, some (zi (q16.2 + 1))]) dX9_digestTurbine_141 rfl (by first | rfl | decide) (by decide) rfl rfl ?_
    refine zz_letl (Lf := fun v21 => [some (zr 0 0 0), none, none, some (zi a3), some (zl v20), none, some (zi v21)]) fun v21 => ?_
    refine zz_goto F (tgt := 104) dX9_digestTurbine_144 (by decide) ?_
    exact zz_sub (zs_k (zs_k (zs_k (zs_k (zs_k (zs_k (zs_k zs_z))))))) (h1 (v20, v21))
set_option maxHeartbeats 4000000 in
set_option maxRecDepth 20000 in
theorem bfWB_digestTurbine_l150 {X : zX} (F : zFr X cX9_digestTurbine 7 RX9 (some .long)) (a3 : Int32) (s0 : zM) (s1 : zM) (s2 : zM) (s3 : zM)  {ψ : (Int64 × Int32) ⊕ ((Int64) ⊕ ((Int64) ⊕ (String))) → Option zO} (h1 : ∀ q22 : Int64 × Int32, zZ X [(2, [1, 2, 3]), (0, []), (0, []), (1, [])] 8 134 7 150 [some (zr 0 0 0), none, none, some (zi a3), some (zl q22.1), none, some (zi q22.2)] [] [s0, s1, s2, s3] (ψ (.inl q22))) (h2 : ∀ q23 : Int64, zZ X [(2, [1, 2, 3]), (0, []), (0, []), (1, [])] 8 134 7 185 [none, none, none, none, some (zl q23), none, none] [] [s0, s1, s2, s3] (ψ (.inr (.inl q23)))) (h3 : ∀ r, ψ (.inr (.inr r)) = some ((zts (fun q => some (zl q)) (fun _ => [s0, s1, s2, s3]) (fun b => b) (fun _ => [s0, s1, s2, s3])) r)) (q22 : Int64 × Int32) : zZ X [(2, [1, 2, 3]), (0, []), (0, []), (1, [])] 8 134 7 150 [some (zr 0 0 0), none, none, some (zi a3), some (zl q22.1), none, some (zi q22.2)] [] [s0, s1, s2, s3] (Option.bind (fWB_digestTurbine_l150 a3 s0 s1 s2 s3 q22) ψ) := by
  unfold fWB_digestTurbine_l150
  refine zz_iload F (i := 6) dX9_digestTurbine_150 rfl ?_
  refine zz_aload_n F (i := 0) dX9_digestTurbine_152 rfl rfl ?_
  refine zz_getr F dX9_digestTurbine_153 wfRX9_10 zCl_8 rfl (⟨zlb rfl, zlb rfl, zlb rfl⟩) rfl (by decide) rfl (r' := 1) (by decide) ?_
  refine zz_getf F dX9_digestTurbine_156 wfRX9_56 zCl_3 rfl (⟨zlb rfl, zlb rfl, zlb rfl⟩) rfl (by decide) rfl rfl ?_
  refine zz_icmp_ge F (tgt := 185) dX9_digestTurbine_159 (by decide) (fun h => zz_t h ?_) (fun h => zz_f h ?_)
  · exact zz_sub (zs_n (zs_k (zs_k (zs_n (zs_k (zs_k (zs_n zs_z))))))) (h2 q22.1)
  · refine zz_lload F (i := 4) dX9_digestTurbine_162 rfl ?_
    refine zz_ldc2 F (v := (31 : Int64)) dX9_digestTurbine_164 wlRX9_326 ?_
    refine zz_lmul F dX9_digestTurbine_167 ?_
    refine zz_aload_n F (i := 0) dX9_digestTurbine_168 rfl rfl ?_
    refine zz_iload_n F (i := 3) dX9_digestTurbine_169 rfl rfl ?_
    refine zz_iload F (i := 6) dX9_digestTurbine_170 rfl ?_
    refine zz_bind ?_
    refine zz_callVx F (ρ := [0, 1, 2, 3]) (so := fun q24 => [zi q24, zl (q22.1 * (31 : Int64))]) (Mo := fun q24 => [s0, s1, s2, s3]) (Xo := fun _ => [s0, s1, s2, s3]) (zfWB_wake a3 q22.2 s0 s1 s2 s3) dX9_digestTurbine_172 wcRX9_359 wy_yX9_wake rfl ⟨rel2, rfl, rfl, Nat.le_of_ble_eq_true rfl, Nat.le_of_ble_eq_true rfl, Nat.le_of_ble_eq_true rfl⟩ (⟨zlb rfl, zlb rfl, zlb rfl⟩) rfl rfl rfl (fun _ => rfl) (fun _ => rfl) (fun _ => rfl) (fun _ => (h3 _)) fun q24 => ?_
    dsimp only [Sum.elim_inl]
    refine zz_i2l F dX9_digestTurbine_175 ?_
    refine zz_ladd F dX9_digestTurbine_176 ?_
    refine zz_lstore F (i := 4) (L' := [some (zr 0 0 0), none, none, some (zi a3), some (zl ((q22.1 * (31 : Int64)) + (q24).toInt64)), none, some (zi q22.2)]) dX9_digestTurbine_177 (by decide) rfl rfl ?_
    refine zz_letl (Lf := fun v25 => [some (zr 0 0 0), none, none, some (zi a3), some (zl v25), none, some (zi q22.2)]) fun v25 => ?_
    refine zz_iinc F (i := 6) (v := q22.2 + 1) (L' := [some (zr 0 0 0), none, none, some (zi a3), some (zl v25), none, some (zi (q22.2 + 1))]) dX9_digestTurbine_179 rfl (by first | rfl | decide) (by decide) rfl rfl ?_
    refine zz_letl (Lf := fun v26 => [some (zr 0 0 0), none, none, some (zi a3), some (zl v25), none, some (zi v26)]) fun v26 => ?_
    refine zz_goto F (tgt := 150) dX9_digestTurbine_182 (by decide) ?_
    exact zz_sub (zs_k (zs_k (zs_k (zs_k (zs_k (zs_k (zs_k zs_z))))))) (h1 (v25, v26))
set_option maxHeartbeats 4000000 in
set_option maxRecDepth 20000 in
theorem bfWB_digestTurbine {X : zX} (F : zFr X cX9_digestTurbine 7 RX9 (some .long)) (a1 : Int64) (a3 : Int32)  (s0 : zM) (s1 : zM) (s2 : zM) (s3 : zM) {κ : (Int64) ⊕ (String) → Option zO} (hκ : ∀ a, κ a = some ((zts (fun q => some (zl q)) (fun _ => [s0, s1, s2, s3]) (fun b => b) (fun _ => [s0, s1, s2, s3])) a)) : zZ X [(2, [1, 2, 3]), (0, []), (0, []), (1, [])] 8 134 7 0 [some (zr 0 0 0), some (zl a1), none, some (zi a3), none, none, none] [] [s0, s1, s2, s3] (Option.bind (fWB_digestTurbine a1 a3 s0 s1 s2 s3) κ) := by
  unfold fWB_digestTurbine
  refine zz_lload_n F (i := 1) dX9_digestTurbine_0 rfl rfl ?_
  refine zz_lstore F (i := 4) (L' := [some (zr 0 0 0), some (zl a1), none, some (zi a3), some (zl a1), none, none]) dX9_digestTurbine_1 (by decide) rfl rfl ?_
  refine zz_iconst F (v := (0 : Int32)) dX9_digestTurbine_3 (by decide) ?_
  refine zz_istore F (i := 6) (L' := [some (zr 0 0 0), some (zl a1), none, some (zi a3), some (zl a1), none, some (zi (0 : Int32))]) dX9_digestTurbine_4 (by decide) rfl rfl ?_
  refine zz_sub (zs_k (zs_n (zs_k (zs_k (zs_k (zs_k (zs_k zs_z))))))) ?_
  refine zz_bind ?_
  refine zz_iter (Lf := fun q1 => [some (zr 0 0 0), none, none, some (zi a3), some (zl q1.1), none, some (zi q1.2)]) (Mf := fun q1 => [s0, s1, s2, s3]) (fun q1 _ e35 e36 => bfWB_digestTurbine_l6 F a3 s0 s1 s2 s3  e35 (fun q2 => ?_) (fun r => ?_) q1) 1000 (a1, (0 : Int32))
  · rw [e36]
    dsimp only [Sum.elim_inl]
    refine zz_iconst F (v := (0 : Int32)) dX9_digestTurbine_36 (by decide) ?_
    refine zz_istore F (i := 6) (L' := [some (zr 0 0 0), none, none, some (zi a3), some (zl q2), none, some (zi (0 : Int32))]) dX9_digestTurbine_37 (by decide) rfl rfl ?_
    refine zz_sub (zs_k (zs_k (zs_k (zs_k (zs_k (zs_k (zs_k zs_z))))))) ?_
    refine zz_bind ?_
    refine zz_iter (Lf := fun q6 => [some (zr 0 0 0), none, none, some (zi a3), some (zl q6.1), none, some (zi q6.2)]) (Mf := fun q6 => [s0, s1, s2, s3]) (fun q6 _ e33 e34 => bfWB_digestTurbine_l39 F a3 s0 s1 s2 s3  e33 (fun q7 => ?_) (fun r => ?_) q6) 1000 (q2, (0 : Int32))
    · rw [e34]
      dsimp only [Sum.elim_inl]
      refine zz_iconst F (v := (0 : Int32)) dX9_digestTurbine_68 (by decide) ?_
      refine zz_istore F (i := 6) (L' := [some (zr 0 0 0), none, none, some (zi a3), some (zl q7), none, some (zi (0 : Int32))]) dX9_digestTurbine_69 (by decide) rfl rfl ?_
      refine zz_sub (zs_k (zs_k (zs_k (zs_k (zs_k (zs_k (zs_k zs_z))))))) ?_
      refine zz_bind ?_
      refine zz_iter (Lf := fun q11 => [some (zr 0 0 0), none, none, some (zi a3), some (zl q11.1), none, some (zi q11.2)]) (Mf := fun q11 => [s0, s1, s2, s3]) (fun q11 _ e31 e32 => bfWB_digestTurbine_l71 F a3 s0 s1 s2 s3  e31 (fun q12 => ?_) (fun r => ?_) q11) 1000 (q7, (0 : Int32))
      · rw [e32]
        dsimp only [Sum.elim_inl]
        refine zz_iconst F (v := (0 : Int32)) dX9_digestTurbine_101 (by decide) ?_
        refine zz_istore F (i := 6) (L' := [some (zr 0 0 0), none, none, some (zi a3), some (zl q12), none, some (zi (0 : Int32))]) dX9_digestTurbine_102 (by decide) rfl rfl ?_
        refine zz_sub (zs_k (zs_k (zs_k (zs_k (zs_k (zs_k (zs_k zs_z))))))) ?_
        refine zz_bind ?_
        refine zz_iter (Lf := fun q16 => [some (zr 0 0 0), none, none, some (zi a3), some (zl q16.1), none, some (zi q16.2)]) (Mf := fun q16 => [s0, s1, s2, s3]) (fun q16 _ e29 e30 => bfWB_digestTurbine_l104 F a3 s0 s1 s2 s3  e29 (fun q17 => ?_) (fun r => ?_) q16) 1000 (q12, (0 : Int32))
        · rw [e30]
          dsimp only [Sum.elim_inl]
          refine zz_iconst F (v := (0 : Int32)) dX9_digestTurbine_147 (by decide) ?_
          refine zz_istore F (i := 6) (L' := [some (zr 0 0 0), none, none, some (zi a3), some (zl q17), none, some (zi (0 : Int32))]) dX9_digestTurbine_148 (by decide) rfl rfl ?_
          refine zz_sub (zs_k (zs_k (zs_k (zs_k (zs_k (zs_k (zs_k zs_z))))))) ?_
          refine zz_bind ?_
          refine zz_iter (Lf := fun q22 => [some (zr 0 0 0), none, none, some (zi a3), some (zl q22.1), none, some (zi q22.2)]) (Mf := fun q22 => [s0, s1, s2, s3]) (fun q22 _ e27 e28 => bfWB_digestTurbine_l150 F a3 s0 s1 s2 s3  e27 (fun q23 => ?_) (fun r => ?_) q22) 1000 (q17, (0 : Int32))
          · rw [e28]
            dsimp only [Sum.elim_inl]
            refine zz_lload F (i := 4) dX9_digestTurbine_185 rfl ?_
            exact zz_lreturn F dX9_digestTurbine_187 rfl (hκ _)
          · exact (e28 _).trans (hκ _)
        · exact (e30 _).trans (hκ _)
      · exact (e32 _).trans (hκ _)
    · exact (e34 _).trans (hκ _)
  · exact (e36 _).trans (hκ _)
theorem zfWB_digestTurbine (a1 : Int64) (a3 : Int32)  (s0 : zM) (s1 : zM) (s2 : zM) (s3 : zM) : ∀ a, fWB_digestTurbine a1 a3 s0 s1 s2 s3 = some a → zMet yX9_digestTurbine cX9_digestTurbine 7 (some .long) 8 134 [(2, [1, 2, 3]), (0, []), (0, []), (1, [])] [zr 0 0 0, zl a1, zi a3] [s0, s1, s2, s3] ((zts (fun q => some (zl q)) (fun _ => [s0, s1, s2, s3]) (fun b => b) (fun _ => [s0, s1, s2, s3])) a) := fun a ha => zMet_of (L0 := [some (zr 0 0 0), some (zl a1), none, some (zi a3), none, none, none]) (φ := Option.bind (fWB_digestTurbine a1 a3 s0 s1 s2 s3) (fun a => some ((zts (fun q => some (zl q)) (fun _ => [s0, s1, s2, s3]) (fun b => b) (fun _ => [s0, s1, s2, s3])) a))) (by decide) (fun _ => Nat.le_of_ble_eq_true rfl) (zl0 3 rfl) (fun X F => bfWB_digestTurbine F a1 a3 s0 s1 s2 s3 (fun _ => rfl)) (by rw [ha]; rfl)

theorem dX9_digest_0 : decode cX9_digest 0 = .ok (.ldc2_w 324, 3) := by decide +kernel
theorem dX9_digest_3 : decode cX9_digest 3 = .ok (.lstore_n 1, 1) := by decide +kernel
theorem dX9_digest_4 : decode cX9_digest 4 = .ok (.iconst 0, 1) := by decide +kernel
theorem dX9_digest_5 : decode cX9_digest 5 = .ok (.istore_n 3, 1) := by decide +kernel
theorem dX9_digest_6 : decode cX9_digest 6 = .ok (.iload_n 3, 1) := by decide +kernel
theorem dX9_digest_7 : decode cX9_digest 7 = .ok (.bipush 14, 2) := by decide +kernel
theorem dX9_digest_9 : decode cX9_digest 9 = .ok (.if_icmp .ge 22, 3) := by decide +kernel
theorem dX9_digest_12 : decode cX9_digest 12 = .ok (.lload_n 1, 1) := by decide +kernel
theorem dX9_digest_13 : decode cX9_digest 13 = .ok (.ldc2_w 326, 3) := by decide +kernel
theorem dX9_digest_16 : decode cX9_digest 16 = .ok (.lmul, 1) := by decide +kernel
theorem dX9_digest_17 : decode cX9_digest 17 = .ok (.aload_n 0, 1) := by decide +kernel
theorem dX9_digest_18 : decode cX9_digest 18 = .ok (.iload_n 3, 1) := by decide +kernel
theorem dX9_digest_19 : decode cX9_digest 19 = .ok (.invokevirtual 328, 3) := by decide +kernel
theorem dX9_digest_22 : decode cX9_digest 22 = .ok (.i2l, 1) := by decide +kernel
theorem dX9_digest_23 : decode cX9_digest 23 = .ok (.ladd, 1) := by decide +kernel
theorem dX9_digest_24 : decode cX9_digest 24 = .ok (.lstore_n 1, 1) := by decide +kernel
theorem dX9_digest_25 : decode cX9_digest 25 = .ok (.iinc 3 1, 3) := by decide +kernel
theorem dX9_digest_28 : decode cX9_digest 28 = .ok (.goto (-22), 3) := by decide +kernel
theorem dX9_digest_31 : decode cX9_digest 31 = .ok (.iconst 0, 1) := by decide +kernel
theorem dX9_digest_32 : decode cX9_digest 32 = .ok (.istore_n 3, 1) := by decide +kernel
theorem dX9_digest_33 : decode cX9_digest 33 = .ok (.iload_n 3, 1) := by decide +kernel
theorem dX9_digest_34 : decode cX9_digest 34 = .ok (.aload_n 0, 1) := by decide +kernel
theorem dX9_digest_35 : decode cX9_digest 35 = .ok (.getfield 10, 3) := by decide +kernel
theorem dX9_digest_38 : decode cX9_digest 38 = .ok (.getfield 56, 3) := by decide +kernel
theorem dX9_digest_41 : decode cX9_digest 41 = .ok (.if_icmp .ge 27, 3) := by decide +kernel
theorem dX9_digest_44 : decode cX9_digest 44 = .ok (.aload_n 0, 1) := by decide +kernel
theorem dX9_digest_45 : decode cX9_digest 45 = .ok (.lload_n 1, 1) := by decide +kernel
theorem dX9_digest_46 : decode cX9_digest 46 = .ok (.iload_n 3, 1) := by decide +kernel
theorem dX9_digest_47 : decode cX9_digest 47 = .ok (.invokevirtual 331, 3) := by decide +kernel
theorem dX9_digest_50 : decode cX9_digest 50 = .ok (.ldc2_w 326, 3) := by decide +kernel
theorem dX9_digest_53 : decode cX9_digest 53 = .ok (.lmul, 1) := by decide +kernel
theorem dX9_digest_54 : decode cX9_digest 54 = .ok (.aload_n 0, 1) := by decide +kernel
theorem dX9_digest_55 : decode cX9_digest 55 = .ok (.iload_n 3, 1) := by decide +kernel
theorem dX9_digest_56 : decode cX9_digest 56 = .ok (.invokevirtual 335, 3) := by decide +kernel
theorem dX9_digest_59 : decode cX9_digest 59 = .ok (.i2l, 1) := by decide +kernel
theorem dX9_digest_60 : decode cX9_digest 60 = .ok (.ladd, 1) := by decide +kernel
theorem dX9_digest_61 : decode cX9_digest 61 = .ok (.lstore_n 1, 1) := by decide +kernel
theorem dX9_digest_62 : decode cX9_digest 62 = .ok (.iinc 3 1, 3) := by decide +kernel
theorem dX9_digest_65 : decode cX9_digest 65 = .ok (.goto (-32), 3) := by decide +kernel
theorem dX9_digest_68 : decode cX9_digest 68 = .ok (.iconst 0, 1) := by decide +kernel
theorem dX9_digest_69 : decode cX9_digest 69 = .ok (.istore_n 3, 1) := by decide +kernel
theorem dX9_digest_70 : decode cX9_digest 70 = .ok (.iload_n 3, 1) := by decide +kernel
theorem dX9_digest_71 : decode cX9_digest 71 = .ok (.aload_n 0, 1) := by decide +kernel
theorem dX9_digest_72 : decode cX9_digest 72 = .ok (.getfield 10, 3) := by decide +kernel
theorem dX9_digest_75 : decode cX9_digest 75 = .ok (.getfield 37, 3) := by decide +kernel
theorem dX9_digest_78 : decode cX9_digest 78 = .ok (.if_icmp .ge 39, 3) := by decide +kernel
theorem dX9_digest_81 : decode cX9_digest 81 = .ok (.iconst 0, 1) := by decide +kernel
theorem dX9_digest_82 : decode cX9_digest 82 = .ok (.istore 4, 2) := by decide +kernel
theorem dX9_digest_84 : decode cX9_digest 84 = .ok (.iload 4, 2) := by decide +kernel
theorem dX9_digest_86 : decode cX9_digest 86 = .ok (.iconst 4, 1) := by decide +kernel
theorem dX9_digest_87 : decode cX9_digest 87 = .ok (.if_icmp .ge 24, 3) := by decide +kernel
theorem dX9_digest_90 : decode cX9_digest 90 = .ok (.lload_n 1, 1) := by decide +kernel
theorem dX9_digest_91 : decode cX9_digest 91 = .ok (.ldc2_w 326, 3) := by decide +kernel
theorem dX9_digest_94 : decode cX9_digest 94 = .ok (.lmul, 1) := by decide +kernel
theorem dX9_digest_95 : decode cX9_digest 95 = .ok (.aload_n 0, 1) := by decide +kernel
theorem dX9_digest_96 : decode cX9_digest 96 = .ok (.iload_n 3, 1) := by decide +kernel
theorem dX9_digest_97 : decode cX9_digest 97 = .ok (.iload 4, 2) := by decide +kernel
theorem dX9_digest_99 : decode cX9_digest 99 = .ok (.invokevirtual 338, 3) := by decide +kernel
theorem dX9_digest_102 : decode cX9_digest 102 = .ok (.i2l, 1) := by decide +kernel
theorem dX9_digest_103 : decode cX9_digest 103 = .ok (.ladd, 1) := by decide +kernel
theorem dX9_digest_104 : decode cX9_digest 104 = .ok (.lstore_n 1, 1) := by decide +kernel
theorem dX9_digest_105 : decode cX9_digest 105 = .ok (.iinc 4 1, 3) := by decide +kernel
theorem dX9_digest_108 : decode cX9_digest 108 = .ok (.goto (-24), 3) := by decide +kernel
theorem dX9_digest_111 : decode cX9_digest 111 = .ok (.iinc 3 1, 3) := by decide +kernel
theorem dX9_digest_114 : decode cX9_digest 114 = .ok (.goto (-44), 3) := by decide +kernel
theorem dX9_digest_117 : decode cX9_digest 117 = .ok (.iconst 0, 1) := by decide +kernel
theorem dX9_digest_118 : decode cX9_digest 118 = .ok (.istore_n 3, 1) := by decide +kernel
theorem dX9_digest_119 : decode cX9_digest 119 = .ok (.iload_n 3, 1) := by decide +kernel
theorem dX9_digest_120 : decode cX9_digest 120 = .ok (.aload_n 0, 1) := by decide +kernel
theorem dX9_digest_121 : decode cX9_digest 121 = .ok (.getfield 10, 3) := by decide +kernel
theorem dX9_digest_124 : decode cX9_digest 124 = .ok (.getfield 71, 3) := by decide +kernel
theorem dX9_digest_127 : decode cX9_digest 127 = .ok (.if_icmp .ge 39, 3) := by decide +kernel
theorem dX9_digest_130 : decode cX9_digest 130 = .ok (.iconst 0, 1) := by decide +kernel
theorem dX9_digest_131 : decode cX9_digest 131 = .ok (.istore 4, 2) := by decide +kernel
theorem dX9_digest_133 : decode cX9_digest 133 = .ok (.iload 4, 2) := by decide +kernel
theorem dX9_digest_135 : decode cX9_digest 135 = .ok (.iconst 5, 1) := by decide +kernel
theorem dX9_digest_136 : decode cX9_digest 136 = .ok (.if_icmp .ge 24, 3) := by decide +kernel
theorem dX9_digest_139 : decode cX9_digest 139 = .ok (.lload_n 1, 1) := by decide +kernel
theorem dX9_digest_140 : decode cX9_digest 140 = .ok (.ldc2_w 326, 3) := by decide +kernel
theorem dX9_digest_143 : decode cX9_digest 143 = .ok (.lmul, 1) := by decide +kernel
theorem dX9_digest_144 : decode cX9_digest 144 = .ok (.aload_n 0, 1) := by decide +kernel
theorem dX9_digest_145 : decode cX9_digest 145 = .ok (.iload_n 3, 1) := by decide +kernel
theorem dX9_digest_146 : decode cX9_digest 146 = .ok (.iload 4, 2) := by decide +kernel
theorem dX9_digest_148 : decode cX9_digest 148 = .ok (.invokevirtual 341, 3) := by decide +kernel
theorem dX9_digest_151 : decode cX9_digest 151 = .ok (.i2l, 1) := by decide +kernel
theorem dX9_digest_152 : decode cX9_digest 152 = .ok (.ladd, 1) := by decide +kernel
theorem dX9_digest_153 : decode cX9_digest 153 = .ok (.lstore_n 1, 1) := by decide +kernel
theorem dX9_digest_154 : decode cX9_digest 154 = .ok (.iinc 4 1, 3) := by decide +kernel
theorem dX9_digest_157 : decode cX9_digest 157 = .ok (.goto (-24), 3) := by decide +kernel
theorem dX9_digest_160 : decode cX9_digest 160 = .ok (.iinc 3 1, 3) := by decide +kernel
theorem dX9_digest_163 : decode cX9_digest 163 = .ok (.goto (-44), 3) := by decide +kernel
theorem dX9_digest_166 : decode cX9_digest 166 = .ok (.lload_n 1, 1) := by decide +kernel
theorem dX9_digest_167 : decode cX9_digest 167 = .ok (.ldc2_w 326, 3) := by decide +kernel
theorem dX9_digest_170 : decode cX9_digest 170 = .ok (.lmul, 1) := by decide +kernel
theorem dX9_digest_171 : decode cX9_digest 171 = .ok (.aload_n 0, 1) := by decide +kernel
theorem dX9_digest_172 : decode cX9_digest 172 = .ok (.iconst 3, 1) := by decide +kernel
theorem dX9_digest_173 : decode cX9_digest 173 = .ok (.invokevirtual 344, 3) := by decide +kernel
theorem dX9_digest_176 : decode cX9_digest 176 = .ok (.i2l, 1) := by decide +kernel
theorem dX9_digest_177 : decode cX9_digest 177 = .ok (.ladd, 1) := by decide +kernel
theorem dX9_digest_178 : decode cX9_digest 178 = .ok (.lreturn, 1) := by decide +kernel
theorem wlRX9_324 : Cond.constantLong RX9 324 (58176 : Int64) ∈ zTg := zm_f 350 (by decide +kernel) rfl
theorem wcRX9_328 : Cond.methodLink RX9 328 yX9_many ∈ zTg ∧ Cond.instanceMethod yX9_many ∈ zTg ∧ Cond.selects RX9 yX9_many yX9_many ∈ zTg ∧ Cond.initialized RX9 ∈ zTg ∧ Cond.code yX9_many cX9_many 2 (some .int) ∈ zTg := ⟨zm_f 352 (by decide +kernel) rfl, zm_f 353 (by decide +kernel) rfl, zm_f 354 (by decide +kernel) rfl, zm_f 21 (by decide +kernel) rfl, zm_f 355 (by decide +kernel) rfl⟩
theorem wy_yX9_many : yX9_many.cls = RX9 ∧ yX9_many.cls ≠ "java/lang/invoke/MethodHandle" ∧ yX9_many.cls ≠ "java/lang/invoke/VarHandle" ∧ (parseMethodDescriptor yX9_many.desc).map (fun d => d.parameters.length) = some 1 := by decide +kernel
theorem wcRX9_331 : Cond.methodLink RX9 331 yX9_digestTurbine ∈ zTg ∧ Cond.instanceMethod yX9_digestTurbine ∈ zTg ∧ Cond.selects RX9 yX9_digestTurbine yX9_digestTurbine ∈ zTg ∧ Cond.initialized RX9 ∈ zTg ∧ Cond.code yX9_digestTurbine cX9_digestTurbine 7 (some .long) ∈ zTg := ⟨zm_f 369 (by decide +kernel) rfl, zm_f 371 (by decide +kernel) rfl, zm_f 14 (by decide +kernel) rfl, zm_f 21 (by decide +kernel) rfl, zm_f 372 (by decide +kernel) rfl⟩
theorem wy_yX9_digestTurbine : yX9_digestTurbine.cls = RX9 ∧ yX9_digestTurbine.cls ≠ "java/lang/invoke/MethodHandle" ∧ yX9_digestTurbine.cls ≠ "java/lang/invoke/VarHandle" ∧ (parseMethodDescriptor yX9_digestTurbine.desc).map (fun d => d.parameters.length) = some 2 := by decide +kernel
theorem wcRX9_335 : Cond.methodLink RX9 335 yX9_bestTurn ∈ zTg ∧ Cond.instanceMethod yX9_bestTurn ∈ zTg ∧ Cond.selects RX9 yX9_bestTurn yX9_bestTurn ∈ zTg ∧ Cond.initialized RX9 ∈ zTg ∧ Cond.code yX9_bestTurn cX9_bestTurn 6 (some .int) ∈ zTg := ⟨zm_f 402 (by decide +kernel) rfl, zm_f 340 (by decide +kernel) rfl, zm_f 341 (by decide +kernel) rfl, zm_f 21 (by decide +kernel) rfl, zm_f 342 (by decide +kernel) rfl⟩
theorem wy_yX9_bestTurn : yX9_bestTurn.cls = RX9 ∧ yX9_bestTurn.cls ≠ "java/lang/invoke/MethodHandle" ∧ yX9_bestTurn.cls ≠ "java/lang/invoke/VarHandle" ∧ (parseMethodDescriptor yX9_bestTurn.desc).map (fun d => d.parameters.length) = some 1 := by decide +kernel
theorem wcRX9_338 : Cond.methodLink RX9 338 yX9_ofString ∈ zTg ∧ Cond.instanceMethod yX9_ofString ∈ zTg ∧ Cond.selects RX9 yX9_ofString yX9_ofString ∈ zTg ∧ Cond.initialized RX9 ∈ zTg ∧ Cond.code yX9_ofString cX9_ofString 4 (some .int) ∈ zTg := ⟨zm_f 403 (by decide +kernel) rfl, zm_f 404 (by decide +kernel) rfl, zm_f 405 (by decide +kernel) rfl, zm_f 21 (by decide +kernel) rfl, zm_f 406 (by decide +kernel) rfl⟩
theorem wy_yX9_ofString : yX9_ofString.cls = RX9 ∧ yX9_ofString.cls ≠ "java/lang/invoke/MethodHandle" ∧ yX9_ofString.cls ≠ "java/lang/invoke/VarHandle" ∧ (parseMethodDescriptor yX9_ofString.desc).map (fun d => d.parameters.length) = some 2 := by decide +kernel
theorem wcRX9_341 : Cond.methodLink RX9 341 yX9_ofVessel ∈ zTg ∧ Cond.instanceMethod yX9_ofVessel ∈ zTg ∧ Cond.selects RX9 yX9_ofVessel yX9_ofVessel ∈ zTg ∧ Cond.initialized RX9 ∈ zTg ∧ Cond.code yX9_ofVessel cX9_ofVessel 4 (some .int) ∈ zTg := ⟨zm_f 414 (by decide +kernel) rfl, zm_f 415 (by decide +kernel) rfl, zm_f 416 (by decide +kernel) rfl, zm_f 21 (by decide +kernel) rfl, zm_f 417 (by decide +kernel) rfl⟩
theorem wy_yX9_ofVessel : yX9_ofVessel.cls = RX9 ∧ yX9_ofVessel.cls ≠ "java/lang/invoke/MethodHandle" ∧ yX9_ofVessel.cls ≠ "java/lang/invoke/VarHandle" ∧ (parseMethodDescriptor yX9_ofVessel.desc).map (fun d => d.parameters.length) = some 2 := by decide +kernel
theorem wcRX9_344 : Cond.methodLink RX9 344 yX9_wouldDeliver ∈ zTg ∧ Cond.instanceMethod yX9_wouldDeliver ∈ zTg ∧ Cond.selects RX9 yX9_wouldDeliver yX9_wouldDeliver ∈ zTg ∧ Cond.initialized RX9 ∈ zTg ∧ Cond.code yX9_wouldDeliver cX9_wouldDeliver 2 (some .int) ∈ zTg := ⟨zm_f 424 (by decide +kernel) rfl, zm_f 301 (by decide +kernel) rfl, zm_f 302 (by decide +kernel) rfl, zm_f 21 (by decide +kernel) rfl, zm_f 303 (by decide +kernel) rfl⟩
theorem wy_yX9_wouldDeliver : yX9_wouldDeliver.cls = RX9 ∧ yX9_wouldDeliver.cls ≠ "java/lang/invoke/MethodHandle" ∧ yX9_wouldDeliver.cls ≠ "java/lang/invoke/VarHandle" ∧ (parseMethodDescriptor yX9_wouldDeliver.desc).map (fun d => d.parameters.length) = some 1 := by decide +kernel
def fWB_digest_l6 (s0 : zM) (s1 : zM) (s2 : zM) (s3 : zM) (q1 : Int64 × Int32) : Option ((Int64 × Int32) ⊕ ((Int64) ⊕ ((Int64 × zM) ⊕ (String × zM)))) :=
  if (14 : Int32) ≤ q1.2 then
  some (.inr (.inl q1.1))
else
  Option.bind (fWB_many q1.2 s0 s1 s2 s3) (Sum.elim (fun q3 =>
    zlet (((q1.1 * (31 : Int64)) + (q3).toInt64)) fun v4 =>
    zlet (q1.2 + 1) fun v5 =>
    some (.inl (v4, v5))) (fun b => some (.inr (.inr (.inr (b, s2))))))
def fWB_digest_l33 (s0 : zM) (s1 : zM) (s3 : zM) (q6 : Int64 × Int32 × zM) : Option ((Int64 × Int32 × zM) ⊕ ((Int64 × zM) ⊕ ((Int64 × zM) ⊕ (String × zM)))) :=
  if (s1 0 0 5) ≤ q6.2.1 then
  some (.inr (.inl (q6.1, q6.2.2)))
else
  Option.bind (fWB_digestTurbine q6.1 q6.2.1 s0 s1 q6.2.2 s3) (Sum.elim (fun q8 =>
    Option.bind (fWB_bestTurn q6.2.1 s0 s1 q6.2.2 s3) (Sum.elim (fun q9 =>
    zlet (((q8 * (31 : Int64)) + (q9.1).toInt64)) fun v10 =>
    zlet (q6.2.1 + 1) fun v11 =>
    some (.inl (v10, v11, q9.2))) (fun b => some (.inr (.inr (.inr (b.1, b.2))))))) (fun b => some (.inr (.inr (.inr (b, q6.2.2))))))
def fWB_digest_l84 (s0 : zM) (s1 : zM) (s3 : zM) (q7 : (Int64 × zM)) (q12 : (Int64 × Int32)) (q14 : Int64 × Int32) : Option ((Int64 × Int32) ⊕ ((Int64) ⊕ ((Int64 × zM) ⊕ (String × zM)))) :=
  if (4 : Int32) ≤ q14.2 then
  some (.inr (.inl q14.1))
else
  Option.bind (fWB_ofString q12.2 q14.2 s0 s1 q7.2 s3) (Sum.elim (fun q16 =>
    zlet (((q14.1 * (31 : Int64)) + (q16).toInt64)) fun v17 =>
    zlet (q14.2 + 1) fun v18 =>
    some (.inl (v17, v18))) (fun b => some (.inr (.inr (.inr (b, q7.2))))))
def fWB_digest_l70 (s0 : zM) (s1 : zM) (s3 : zM) (q7 : (Int64 × zM)) (q12 : Int64 × Int32) : Option ((Int64 × Int32) ⊕ ((Int64) ⊕ ((Int64 × zM) ⊕ (String × zM)))) :=
  if (s1 0 0 6) ≤ q12.2 then
  some (.inr (.inl q12.1))
else
  Option.bind (ziter (fWB_digest_l84 s0 s1 s3 q7 q12) 1000 (q12.1, (0 : Int32))) (Sum.elim (fun q15 =>
    zlet (q12.2 + 1) fun v19 =>
    some (.inl (q15, v19))) (fun r => some (.inr (.inr r))))
def fWB_digest_l133 (s0 : zM) (s1 : zM) (s3 : zM) (q7 : (Int64 × zM)) (q22 : (Int64 × Int32)) (q24 : Int64 × Int32) : Option ((Int64 × Int32) ⊕ ((Int64) ⊕ ((Int64 × zM) ⊕ (String × zM)))) :=
  if (5 : Int32) ≤ q24.2 then
  some (.inr (.inl q24.1))
else
  Option.bind (fWB_ofVessel q22.2 q24.2 s0 s1 q7.2 s3) (Sum.elim (fun q26 =>
    zlet (((q24.1 * (31 : Int64)) + (q26).toInt64)) fun v27 =>
    zlet (q24.2 + 1) fun v28 =>
    some (.inl (v27, v28))) (fun b => some (.inr (.inr (.inr (b, q7.2))))))
def fWB_digest_l119 (s0 : zM) (s1 : zM) (s3 : zM) (q7 : (Int64 × zM)) (q22 : Int64 × Int32) : Option ((Int64 × Int32) ⊕ ((Int64) ⊕ ((Int64 × zM) ⊕ (String × zM)))) :=
  if (s1 0 0 7) ≤ q22.2 then
  some (.inr (.inl q22.1))
else
  Option.bind (ziter (fWB_digest_l133 s0 s1 s3 q7 q22) 1000 (q22.1, (0 : Int32))) (Sum.elim (fun q25 =>
    zlet (q22.2 + 1) fun v29 =>
    some (.inl (q25, v29))) (fun r => some (.inr (.inr r))))
def fWB_digest  (s0 : zM) (s1 : zM) (s2 : zM) (s3 : zM) : Option ((Int64 × zM) ⊕ (String × zM)) :=
  Option.bind (ziter (fWB_digest_l6 s0 s1 s2 s3) 1000 ((58176 : Int64), (0 : Int32))) (Sum.elim (fun q2 =>
  Option.bind (ziter (fWB_digest_l33 s0 s1 s3) 1000 (q2, (0 : Int32), s2)) (Sum.elim (fun q7 =>
  Option.bind (ziter (fWB_digest_l70 s0 s1 s3 q7) 1000 (q7.1, (0 : Int32))) (Sum.elim (fun q13 =>
  Option.bind (ziter (fWB_digest_l119 s0 s1 s3 q7) 1000 (q13, (0 : Int32))) (Sum.elim (fun q23 =>
  Option.bind (fWB_wouldDeliver (3 : Int32) s0 s1 q7.2 s3) (Sum.elim (fun q32 =>
  some (.inl (((q23 * (31 : Int64)) + (q32.1).toInt64), q32.2))) (fun b => some (.inr (b.1, b.2))))) (fun r => some r))) (fun r => some r))) (fun r => some r))) (fun r => some r))
set_option maxHeartbeats 4000000 in
set_option maxRecDepth 20000 in
theorem bfWB_digest_l6 {X : zX} (F : zFr X cX9_digest 5 RX9 (some .long)) (s0 : zM) (s1 : zM) (s2 : zM) (s3 : zM)  {ψ : (Int64 × Int32) ⊕ ((Int64) ⊕ ((Int64 × zM) ⊕ (String × zM))) → Option zO} (h1 : ∀ q1 : Int64 × Int32, zZ X [(2, [1, 2, 3]), (0, []), (0, []), (1, [])] 9 160 5 6 [some (zr 0 0 0), some (zl q1.1), none, some (zi q1.2), none] [] [s0, s1, s2, s3] (ψ (.inl q1))) (h2 : ∀ q2 : Int64, zZ X [(2, [1, 2, 3]), (0, []), (0, []), (1, [])] 9 160 5 31 [some (zr 0 0 0), some (zl q2), none, none, none] [] [s0, s1, s2, s3] (ψ (.inr (.inl q2)))) (h3 : ∀ r, ψ (.inr (.inr r)) = some ((zts (fun q => some (zl q.1)) (fun q => [s0, s1, q.2, s3]) (fun b => b.1) (fun b => [s0, s1, b.2, s3])) r)) (q1 : Int64 × Int32) : zZ X [(2, [1, 2, 3]), (0, []), (0, []), (1, [])] 9 160 5 6 [some (zr 0 0 0), some (zl q1.1), none, some (zi q1.2), none] [] [s0, s1, s2, s3] (Option.bind (fWB_digest_l6 s0 s1 s2 s3 q1) ψ) := by
  unfold fWB_digest_l6
  refine zz_iload_n F (i := 3) dX9_digest_6 rfl rfl ?_
  refine zz_bipush F (v := (14 : Int32)) dX9_digest_7 (by decide) ?_
  refine zz_icmp_ge F (tgt := 31) dX9_digest_9 (by decide) (fun h => zz_t h ?_) (fun h => zz_f h ?_)
  · exact zz_sub (zs_k (zs_k (zs_k (zs_n (zs_k zs_z))))) (h2 q1.1)
  · refine zz_lload_n F (i := 1) dX9_digest_12 rfl rfl ?_
    refine zz_ldc2 F (v := (31 : Int64)) dX9_digest_13 wlRX9_326 ?_
    refine zz_lmul F dX9_digest_16 ?_
    refine zz_aload_n F (i := 0) dX9_digest_17 rfl rfl ?_
    refine zz_iload_n F (i := 3) dX9_digest_18 rfl rfl ?_
    refine zz_bind ?_
    refine zz_callVx F (ρ := [0, 1, 2, 3]) (so := fun q3 => [zi q3, zl (q1.1 * (31 : Int64))]) (Mo := fun q3 => [s0, s1, s2, s3]) (Xo := fun _ => [s0, s1, s2, s3]) (zfWB_many q1.2 s0 s1 s2 s3) dX9_digest_19 wcRX9_328 wy_yX9_many rfl ⟨rel2, rfl, rfl, Nat.le_of_ble_eq_true rfl, Nat.le_of_ble_eq_true rfl, Nat.le_of_ble_eq_true rfl⟩ (⟨zlb rfl, zlb rfl, zlb rfl⟩) rfl rfl rfl (fun _ => rfl) (fun _ => rfl) (fun _ => rfl) (fun _ => (h3 _)) fun q3 => ?_
    dsimp only [Sum.elim_inl]
    refine zz_i2l F dX9_digest_22 ?_
    refine zz_ladd F dX9_digest_23 ?_
    refine zz_lstore_n F (i := 1) (L' := [some (zr 0 0 0), some (zl ((q1.1 * (31 : Int64)) + (q3).toInt64)), none, some (zi q1.2), none]) dX9_digest_24 rfl (by decide) rfl rfl ?_
    refine zz_letl (Lf := fun v4 => [some (zr 0 0 0), some (zl v4), none, some (zi q1.2), none]) fun v4 => ?_
    refine zz_iinc F (i := 3) (v := q1.2 + 1) (L' := [some (zr 0 0 0), some (zl v4), none, some (zi (q1.2 + 1)), none]) dX9_digest_25 rfl (by first | rfl | decide) (by decide) rfl rfl ?_
    refine zz_letl (Lf := fun v5 => [some (zr 0 0 0), some (zl v4), none, some (zi v5), none]) fun v5 => ?_
    refine zz_goto F (tgt := 6) dX9_digest_28 (by decide) ?_
    exact zz_sub (zs_k (zs_k (zs_k (zs_k (zs_k zs_z))))) (h1 (v4, v5))
set_option maxHeartbeats 4000000 in
set_option maxRecDepth 20000 in
theorem bfWB_digest_l33 {X : zX} (F : zFr X cX9_digest 5 RX9 (some .long)) (s0 : zM) (s1 : zM) (s3 : zM)  {ψ : (Int64 × Int32 × zM) ⊕ ((Int64 × zM) ⊕ ((Int64 × zM) ⊕ (String × zM))) → Option zO} (h1 : ∀ q6 : Int64 × Int32 × zM, zZ X [(2, [1, 2, 3]), (0, []), (0, []), (1, [])] 9 160 5 33 [some (zr 0 0 0), some (zl q6.1), none, some (zi q6.2.1), none] [] [s0, s1, q6.2.2, s3] (ψ (.inl q6))) (h2 : ∀ q7 : Int64 × zM, zZ X [(2, [1, 2, 3]), (0, []), (0, []), (1, [])] 9 160 5 68 [some (zr 0 0 0), some (zl q7.1), none, none, none] [] [s0, s1, q7.2, s3] (ψ (.inr (.inl q7)))) (h3 : ∀ r, ψ (.inr (.inr r)) = some ((zts (fun q => some (zl q.1)) (fun q => [s0, s1, q.2, s3]) (fun b => b.1) (fun b => [s0, s1, b.2, s3])) r)) (q6 : Int64 × Int32 × zM) : zZ X [(2, [1, 2, 3]), (0, []), (0, []), (1, [])] 9 160 5 33 [some (zr 0 0 0), some (zl q6.1), none, some (zi q6.2.1), none] [] [s0, s1, q6.2.2, s3] (Option.bind (fWB_digest_l33 s0 s1 s3 q6) ψ) := by
  unfold fWB_digest_l33
  refine zz_iload_n F (i := 3) dX9_digest_33 rfl rfl ?_
  refine zz_aload_n F (i := 0) dX9_digest_34 rfl rfl ?_
  refine zz_getr F dX9_digest_35 wfRX9_10 zCl_8 rfl (⟨zlb rfl, zlb rfl, zlb rfl⟩) rfl (by decide) rfl (r' := 1) (by decide) ?_
  refine zz_getf F dX9_digest_38 wfRX9_56 zCl_3 rfl (⟨zlb rfl, zlb rfl, zlb rfl⟩) rfl (by decide) rfl rfl ?_
  refine zz_icmp_ge F (tgt := 68) dX9_digest_41 (by decide) (fun h => zz_t h ?_) (fun h => zz_f h ?_)
  · exact zz_sub (zs_k (zs_k (zs_k (zs_n (zs_k zs_z))))) (h2 (q6.1, q6.2.2))
  · refine zz_aload_n F (i := 0) dX9_digest_44 rfl rfl ?_
    refine zz_lload_n F (i := 1) dX9_digest_45 rfl rfl ?_
    refine zz_iload_n F (i := 3) dX9_digest_46 rfl rfl ?_
    refine zz_bind ?_
    refine zz_callVx F (ρ := [0, 1, 2, 3]) (so := fun q8 => [zl q8]) (Mo := fun q8 => [s0, s1, q6.2.2, s3]) (Xo := fun _ => [s0, s1, q6.2.2, s3]) (zfWB_digestTurbine q6.1 q6.2.1 s0 s1 q6.2.2 s3) dX9_digest_47 wcRX9_331 wy_yX9_digestTurbine rfl ⟨rel2, rfl, rfl, Nat.le_of_ble_eq_true rfl, Nat.le_of_ble_eq_true rfl, Nat.le_of_ble_eq_true rfl⟩ (⟨zlb rfl, zlb rfl, zlb rfl⟩) rfl rfl rfl (fun _ => rfl) (fun _ => rfl) (fun _ => rfl) (fun _ => (h3 _)) fun q8 => ?_
    dsimp only [Sum.elim_inl]
    refine zz_ldc2 F (v := (31 : Int64)) dX9_digest_50 wlRX9_326 ?_
    refine zz_lmul F dX9_digest_53 ?_
    refine zz_aload_n F (i := 0) dX9_digest_54 rfl rfl ?_
    refine zz_iload_n F (i := 3) dX9_digest_55 rfl rfl ?_
    refine zz_bind ?_
    refine zz_callVx F (ρ := [0, 1, 2, 3]) (so := fun q9 => [zi q9.1, zl (q8 * (31 : Int64))]) (Mo := fun q9 => [s0, s1, q9.2, s3]) (Xo := fun b => [s0, s1, b.2, s3]) (zfWB_bestTurn q6.2.1 s0 s1 q6.2.2 s3) dX9_digest_56 wcRX9_335 wy_yX9_bestTurn rfl ⟨rel2, rfl, rfl, Nat.le_of_ble_eq_true rfl, Nat.le_of_ble_eq_true rfl, Nat.le_of_ble_eq_true rfl⟩ (⟨zlb rfl, zlb rfl, zlb rfl⟩) rfl rfl rfl (fun _ => rfl) (fun _ => rfl) (fun _ => rfl) (fun _ => (h3 _)) fun q9 => ?_
    dsimp only [Sum.elim_inl]
    refine zz_i2l F dX9_digest_59 ?_
    refine zz_ladd F dX9_digest_60 ?_
    refine zz_lstore_n F (i := 1) (L' := [some (zr 0 0 0), some (zl ((q8 * (31 : Int64)) + (q9.1).toInt64)), none, some (zi q6.2.1), none]) dX9_digest_61 rfl (by decide) rfl rfl ?_
    refine zz_letl (Lf := fun v10 => [some (zr 0 0 0), some (zl v10), none, some (zi q6.2.1), none]) fun v10 => ?_
    refine zz_iinc F (i := 3) (v := q6.2.1 + 1) (L' := [some (zr 0 0 0), some (zl v10), none, some (zi (q6.2.1 + 1)), none]) dX9_digest_62 rfl (by first | rfl | decide) (by decide) rfl rfl ?_
    refine zz_letl (Lf := fun v11 => [some (zr 0 0 0), some (zl v10), none, some (zi v11), none]) fun v11 => ?_
    refine zz_goto F (tgt := 33) dX9_digest_65 (by decide) ?_
    exact zz_sub (zs_k (zs_k (zs_k (zs_k (zs_k zs_z))))) (h1 (v10, v11, q9.2))
set_option maxHeartbeats 4000000 in
set_option maxRecDepth 20000 in
theorem bfWB_digest_l84 {X : zX} (F : zFr X cX9_digest 5 RX9 (some .long)) (s0 : zM) (s1 : zM) (s3 : zM) (q7 : (Int64 × zM)) (q12 : (Int64 × Int32))  {ψ : (Int64 × Int32) ⊕ ((Int64) ⊕ ((Int64 × zM) ⊕ (String × zM))) → Option zO} (h1 : ∀ q14 : Int64 × Int32, zZ X [(2, [1, 2, 3]), (0, []), (0, []), (1, [])] 9 160 5 84 [some (zr 0 0 0), some (zl q14.1), none, some (zi q12.2), some (zi q14.2)] [] [s0, s1, q7.2, s3] (ψ (.inl q14))) (h2 : ∀ q15 : Int64, zZ X [(2, [1, 2, 3]), (0, []), (0, []), (1, [])] 9 160 5 111 [some (zr 0 0 0), some (zl q15), none, some (zi q12.2), none] [] [s0, s1, q7.2, s3] (ψ (.inr (.inl q15)))) (h3 : ∀ r, ψ (.inr (.inr r)) = some ((zts (fun q => some (zl q.1)) (fun q => [s0, s1, q.2, s3]) (fun b => b.1) (fun b => [s0, s1, b.2, s3])) r)) (q14 : Int64 × Int32) : zZ X [(2, [1, 2, 3]), (0, []), (0, []), (1, [])] 9 160 5 84 [some (zr 0 0 0), some (zl q14.1), none, some (zi q12.2), some (zi q14.2)] [] [s0, s1, q7.2, s3] (Option.bind (fWB_digest_l84 s0 s1 s3 q7 q12 q14) ψ) := by
  unfold fWB_digest_l84
  refine zz_iload F (i := 4) dX9_digest_84 rfl ?_
  refine zz_iconst F (v := (4 : Int32)) dX9_digest_86 (by decide) ?_
  refine zz_icmp_ge F (tgt := 111) dX9_digest_87 (by decide) (fun h => zz_t h ?_) (fun h => zz_f h ?_)
  · exact zz_sub (zs_k (zs_k (zs_k (zs_k (zs_n zs_z))))) (h2 q14.1)
  · refine zz_lload_n F (i := 1) dX9_digest_90 rfl rfl ?_
    refine zz_ldc2 F (v := (31 : Int64)) dX9_digest_91 wlRX9_326 ?_
    refine zz_lmul F dX9_digest_94 ?_
    refine zz_aload_n F (i := 0) dX9_digest_95 rfl rfl ?_
    refine zz_iload_n F (i := 3) dX9_digest_96 rfl rfl ?_
    refine zz_iload F (i := 4) dX9_digest_97 rfl ?_
    refine zz_bind ?_
    refine zz_callVx F (ρ := [0, 1, 2, 3]) (so := fun q16 => [zi q16, zl (q14.1 * (31 : Int64))]) (Mo := fun q16 => [s0, s1, q7.2, s3]) (Xo := fun _ => [s0, s1, q7.2, s3]) (zfWB_ofString q12.2 q14.2 s0 s1 q7.2 s3) dX9_digest_99 wcRX9_338 wy_yX9_ofString rfl ⟨rel2, rfl, rfl, Nat.le_of_ble_eq_true rfl, Nat.le_of_ble_eq_true rfl, Nat.le_of_ble_eq_true rfl⟩ (⟨zlb rfl, zlb rfl, zlb rfl⟩) rfl rfl rfl (fun _ => rfl) (fun _ => rfl) (fun _ => rfl) (fun _ => (h3 _)) fun q16 => ?_
    dsimp only [Sum.elim_inl]
    refine zz_i2l F dX9_digest_102 ?_
    refine zz_ladd F dX9_digest_103 ?_
    refine zz_lstore_n F (i := 1) (L' := [some (zr 0 0 0), some (zl ((q14.1 * (31 : Int64)) + (q16).toInt64)), none, some (zi q12.2), some (zi q14.2)]) dX9_digest_104 rfl (by decide) rfl rfl ?_
    refine zz_letl (Lf := fun v17 => [some (zr 0 0 0), some (zl v17), none, some (zi q12.2), some (zi q14.2)]) fun v17 => ?_
    refine zz_iinc F (i := 4) (v := q14.2 + 1) (L' := [some (zr 0 0 0), some (zl v17), none, some (zi q12.2), some (zi (q14.2 + 1))]) dX9_digest_105 rfl (by first | rfl | decide) (by decide) rfl rfl ?_
    refine zz_letl (Lf := fun v18 => [some (zr 0 0 0), some (zl v17), none, some (zi q12.2), some (zi v18)]) fun v18 => ?_
    refine zz_goto F (tgt := 84) dX9_digest_108 (by decide) ?_
    exact zz_sub (zs_k (zs_k (zs_k (zs_k (zs_k zs_z))))) (h1 (v17, v18))
set_option maxHeartbeats 4000000 in
set_option maxRecDepth 20000 in
theorem bfWB_digest_l70 {X : zX} (F : zFr X cX9_digest 5 RX9 (some .long)) (s0 : zM) (s1 : zM) (s3 : zM) (q7 : (Int64 × zM))  {ψ : (Int64 × Int32) ⊕ ((Int64) ⊕ ((Int64 × zM) ⊕ (String × zM))) → Option zO} (h1 : ∀ q12 : Int64 × Int32, zZ X [(2, [1, 2, 3]), (0, []), (0, []), (1, [])] 9 160 5 70 [some (zr 0 0 0), some (zl q12.1), none, some (zi q12.2), none] [] [s0, s1, q7.2, s3] (ψ (.inl q12))) (h2 : ∀ q13 : Int64, zZ X [(2, [1, 2, 3]), (0, []), (0, []), (1, [])] 9 160 5 117 [some (zr 0 0 0), some (zl q13), none, none, none] [] [s0, s1, q7.2, s3] (ψ (.inr (.inl q13)))) (h3 : ∀ r, ψ (.inr (.inr r)) = some ((zts (fun q => some (zl q.1)) (fun q => [s0, s1, q.2, s3]) (fun b => b.1) (fun b => [s0, s1, b.2, s3])) r)) (q12 : Int64 × Int32) : zZ X [(2, [1, 2, 3]), (0, []), (0, []), (1, [])] 9 160 5 70 [some (zr 0 0 0), some (zl q12.1), none, some (zi q12.2), none] [] [s0, s1, q7.2, s3] (Option.bind (fWB_digest_l70 s0 s1 s3 q7 q12) ψ) := by
  unfold fWB_digest_l70
  refine zz_iload_n F (i := 3) dX9_digest_70 rfl rfl ?_
  refine zz_aload_n F (i := 0) dX9_digest_71 rfl rfl ?_
  refine zz_getr F dX9_digest_72 wfRX9_10 zCl_8 rfl (⟨zlb rfl, zlb rfl, zlb rfl⟩) rfl (by decide) rfl (r' := 1) (by decide) ?_
  refine zz_getf F dX9_digest_75 wfRX9_37 zCl_3 rfl (⟨zlb rfl, zlb rfl, zlb rfl⟩) rfl (by decide) rfl rfl ?_
  refine zz_icmp_ge F (tgt := 117) dX9_digest_78 (by decide) (fun h => zz_t h ?_) (fun h => zz_f h ?_)
  · exact zz_sub (zs_k (zs_k (zs_k (zs_n (zs_k zs_z))))) (h2 q12.1)
  · refine zz_iconst F (v := (0 : Int32)) dX9_digest_81 (by decide) ?_
    refine zz_istore F (i := 4) (L' := [some (zr 0 0 0), some (zl q12.1), none, some (zi q12.2), some (zi (0 : Int32))]) dX9_digest_82 (by decide) rfl rfl ?_
    refine zz_sub (zs_k (zs_k (zs_k (zs_k (zs_k zs_z))))) ?_
    refine zz_bind ?_
    refine zz_iter (Lf := fun q14 => [some (zr 0 0 0), some (zl q14.1), none, some (zi q12.2), some (zi q14.2)]) (Mf := fun q14 => [s0, s1, q7.2, s3]) (fun q14 _ e20 e21 => bfWB_digest_l84 F s0 s1 s3 q7 q12  e20 (fun q15 => ?_) (fun r => ?_) q14) 1000 (q12.1, (0 : Int32))
    · rw [e21]
      dsimp only [Sum.elim_inl]
      refine zz_iinc F (i := 3) (v := q12.2 + 1) (L' := [some (zr 0 0 0), some (zl q15), none, some (zi (q12.2 + 1)), none]) dX9_digest_111 rfl (by first | rfl | decide) (by decide) rfl rfl ?_
      refine zz_letl (Lf := fun v19 => [some (zr 0 0 0), some (zl q15), none, some (zi v19), none]) fun v19 => ?_
      refine zz_goto F (tgt := 70) dX9_digest_114 (by decide) ?_
      exact zz_sub (zs_k (zs_k (zs_k (zs_k (zs_k zs_z))))) (h1 (q15, v19))
    · exact (e21 _).trans (h3 _)
set_option maxHeartbeats 4000000 in
set_option maxRecDepth 20000 in
theorem bfWB_digest_l133 {X : zX} (F : zFr X cX9_digest 5 RX9 (some .long)) (s0 : zM) (s1 : zM) (s3 : zM) (q7 : (Int64 × zM)) (q22 : (Int64 × Int32))  {ψ : (Int64 × Int32) ⊕ ((Int64) ⊕ ((Int64 × zM) ⊕ (String × zM))) → Option zO} (h1 : ∀ q24 : Int64 × Int32, zZ X [(2, [1, 2, 3]), (0, []), (0, []), (1, [])] 9 160 5 133 [some (zr 0 0 0), some (zl q24.1), none, some (zi q22.2), some (zi q24.2)] [] [s0, s1, q7.2, s3] (ψ (.inl q24))) (h2 : ∀ q25 : Int64, zZ X [(2, [1, 2, 3]), (0, []), (0, []), (1, [])] 9 160 5 160 [some (zr 0 0 0), some (zl q25), none, some (zi q22.2), none] [] [s0, s1, q7.2, s3] (ψ (.inr (.inl q25)))) (h3 : ∀ r, ψ (.inr (.inr r)) = some ((zts (fun q => some (zl q.1)) (fun q => [s0, s1, q.2, s3]) (fun b => b.1) (fun b => [s0, s1, b.2, s3])) r)) (q24 : Int64 × Int32) : zZ X [(2, [1, 2, 3]), (0, []), (0, []), (1, [])] 9 160 5 133 [some (zr 0 0 0), some (zl q24.1), none, some (zi q22.2), some (zi q24.2)] [] [s0, s1, q7.2, s3] (Option.bind (fWB_digest_l133 s0 s1 s3 q7 q22 q24) ψ) := by
  unfold fWB_digest_l133
  refine zz_iload F (i := 4) dX9_digest_133 rfl ?_
  refine zz_iconst F (v := (5 : Int32)) dX9_digest_135 (by decide) ?_
  refine zz_icmp_ge F (tgt := 160) dX9_digest_136 (by decide) (fun h => zz_t h ?_) (fun h => zz_f h ?_)
  · exact zz_sub (zs_k (zs_k (zs_k (zs_k (zs_n zs_z))))) (h2 q24.1)
  · refine zz_lload_n F (i := 1) dX9_digest_139 rfl rfl ?_
    refine zz_ldc2 F (v := (31 : Int64)) dX9_digest_140 wlRX9_326 ?_
    refine zz_lmul F dX9_digest_143 ?_
    refine zz_aload_n F (i := 0) dX9_digest_144 rfl rfl ?_
    refine zz_iload_n F (i := 3) dX9_digest_145 rfl rfl ?_
    refine zz_iload F (i := 4) dX9_digest_146 rfl ?_
    refine zz_bind ?_
    refine zz_callVx F (ρ := [0, 1, 2, 3]) (so := fun q26 => [zi q26, zl (q24.1 * (31 : Int64))]) (Mo := fun q26 => [s0, s1, q7.2, s3]) (Xo := fun _ => [s0, s1, q7.2, s3]) (zfWB_ofVessel q22.2 q24.2 s0 s1 q7.2 s3) dX9_digest_148 wcRX9_341 wy_yX9_ofVessel rfl ⟨rel2, rfl, rfl, Nat.le_of_ble_eq_true rfl, Nat.le_of_ble_eq_true rfl, Nat.le_of_ble_eq_true rfl⟩ (⟨zlb rfl, zlb rfl, zlb rfl⟩) rfl rfl rfl (fun _ => rfl) (fun _ => rfl) (fun _ => rfl) (fun _ => (h3 _)) fun q26 => ?_
    dsimp only [Sum.elim_inl]
    refine zz_i2l F dX9_digest_151 ?_
    refine zz_ladd F dX9_digest_152 ?_
    refine zz_lstore_n F (i := 1) (L' := [some (zr 0 0 0), some (zl ((q24.1 * (31 : Int64)) + (q26).toInt64)), none, some (zi q22.2), some (zi q24.2)]) dX9_digest_153 rfl (by decide) rfl rfl ?_
    refine zz_letl (Lf := fun v27 => [some (zr 0 0 0), some (zl v27), none, some (zi q22.2), some (zi q24.2)]) fun v27 => ?_
    refine zz_iinc F (i := 4) (v := q24.2 + 1) (L' := [some (zr 0 0 0), some (zl v27), none, some (zi q22.2), some (zi (q24.2 + 1))]) dX9_digest_154 rfl (by first | rfl | decide) (by decide) rfl rfl ?_
    refine zz_letl (Lf := fun v28 => [some (zr 0 0 0), some (zl v27), none, some (zi q22.2), some (zi v28)]) fun v28 => ?_
    refine zz_goto F (tgt := 133) dX9_digest_157 (by decide) ?_
    exact zz_sub (zs_k (zs_k (zs_k (zs_k (zs_k zs_z))))) (h1 (v27, v28))
set_option maxHeartbeats 4000000 in
set_option maxRecDepth 20000 in
theorem bfWB_digest_l119 {X : zX} (F : zFr X cX9_digest 5 RX9 (some .long)) (s0 : zM) (s1 : zM) (s3 : zM) (q7 : (Int64 × zM))  {ψ : (Int64 × Int32) ⊕ ((Int64) ⊕ ((Int64 × zM) ⊕ (String × zM))) → Option zO} (h1 : ∀ q22 : Int64 × Int32, zZ X [(2, [1, 2, 3]), (0, []), (0, []), (1, [])] 9 160 5 119 [some (zr 0 0 0), some (zl q22.1), none, some (zi q22.2), none] [] [s0, s1, q7.2, s3] (ψ (.inl q22))) (h2 : ∀ q23 : Int64, zZ X [(2, [1, 2, 3]), (0, []), (0, []), (1, [])] 9 160 5 166 [some (zr 0 0 0), some (zl q23), none, none, none] [] [s0, s1, q7.2, s3] (ψ (.inr (.inl q23)))) (h3 : ∀ r, ψ (.inr (.inr r)) = some ((zts (fun q => some (zl q.1)) (fun q => [s0, s1, q.2, s3]) (fun b => b.1) (fun b => [s0, s1, b.2, s3])) r)) (q22 : Int64 × Int32) : zZ X [(2, [1, 2, 3]), (0, []), (0, []), (1, [])] 9 160 5 119 [some (zr 0 0 0), some (zl q22.1), none, some (zi q22.2), none] [] [s0, s1, q7.2, s3] (Option.bind (fWB_digest_l119 s0 s1 s3 q7 q22) ψ) := by
  unfold fWB_digest_l119
  refine zz_iload_n F (i := 3) dX9_digest_119 rfl rfl ?_
  refine zz_aload_n F (i := 0) dX9_digest_120 rfl rfl ?_
  refine zz_getr F dX9_digest_121 wfRX9_10 zCl_8 rfl (⟨zlb rfl, zlb rfl, zlb rfl⟩) rfl (by decide) rfl (r' := 1) (by decide) ?_
  refine zz_getf F dX9_digest_124 wfRX9_71 zCl_3 rfl (⟨zlb rfl, zlb rfl, zlb rfl⟩) rfl (by decide) rfl rfl ?_
  refine zz_icmp_ge F (tgt := 166) dX9_digest_127 (by decide) (fun h => zz_t h ?_) (fun h => zz_f h ?_)
  · exact zz_sub (zs_k (zs_k (zs_k (zs_n (zs_k zs_z))))) (h2 q22.1)
  · refine zz_iconst F (v := (0 : Int32)) dX9_digest_130 (by decide) ?_
    refine zz_istore F (i := 4) (L' := [some (zr 0 0 0), some (zl q22.1), none, some (zi q22.2), some (zi (0 : Int32))]) dX9_digest_131 (by decide) rfl rfl ?_
    refine zz_sub (zs_k (zs_k (zs_k (zs_k (zs_k zs_z))))) ?_
    refine zz_bind ?_
    refine zz_iter (Lf := fun q24 => [some (zr 0 0 0), some (zl q24.1), none, some (zi q22.2), some (zi q24.2)]) (Mf := fun q24 => [s0, s1, q7.2, s3]) (fun q24 _ e30 e31 => bfWB_digest_l133 F s0 s1 s3 q7 q22  e30 (fun q25 => ?_) (fun r => ?_) q24) 1000 (q22.1, (0 : Int32))
    · rw [e31]
      dsimp only [Sum.elim_inl]
      refine zz_iinc F (i := 3) (v := q22.2 + 1) (L' := [some (zr 0 0 0), some (zl q25), none, some (zi (q22.2 + 1)), none]) dX9_digest_160 rfl (by first | rfl | decide) (by decide) rfl rfl ?_
      refine zz_letl (Lf := fun v29 => [some (zr 0 0 0), some (zl q25), none, some (zi v29), none]) fun v29 => ?_
      refine zz_goto F (tgt := 119) dX9_digest_163 (by decide) ?_
      exact zz_sub (zs_k (zs_k (zs_k (zs_k (zs_k zs_z))))) (h1 (q25, v29))
    · exact (e31 _).trans (h3 _)
set_option maxHeartbeats 4000000 in
set_option maxRecDepth 20000 in
theorem bfWB_digest {X : zX} (F : zFr X cX9_digest 5 RX9 (some .long))   (s0 : zM) (s1 : zM) (s2 : zM) (s3 : zM) {κ : (Int64 × zM) ⊕ (String × zM) → Option zO} (hκ : ∀ a, κ a = some ((zts (fun q => some (zl q.1)) (fun q => [s0, s1, q.2, s3]) (fun b => b.1) (fun b => [s0, s1, b.2, s3])) a)) : zZ X [(2, [1, 2, 3]), (0, []), (0, []), (1, [])] 9 160 5 0 [some (zr 0 0 0), none, none, none, none] [] [s0, s1, s2, s3] (Option.bind (fWB_digest s0 s1 s2 s3) κ) := by
  unfold fWB_digest
  refine zz_ldc2 F (v := (58176 : Int64)) dX9_digest_0 wlRX9_324 ?_
  refine zz_lstore_n F (i := 1) (L' := [some (zr 0 0 0), some (zl (58176 : Int64)), none, none, none]) dX9_digest_3 rfl (by decide) rfl rfl ?_
  refine zz_iconst F (v := (0 : Int32)) dX9_digest_4 (by decide) ?_
  refine zz_istore_n F (i := 3) (L' := [some (zr 0 0 0), some (zl (58176 : Int64)), none, some (zi (0 : Int32)), none]) dX9_digest_5 rfl (by decide) rfl rfl ?_
  refine zz_sub (zs_k (zs_k (zs_k (zs_k (zs_k zs_z))))) ?_
  refine zz_bind ?_
  refine zz_iter (Lf := fun q1 => [some (zr 0 0 0), some (zl q1.1), none, some (zi q1.2), none]) (Mf := fun q1 => [s0, s1, s2, s3]) (fun q1 _ e39 e40 => bfWB_digest_l6 F s0 s1 s2 s3  e39 (fun q2 => ?_) (fun r => ?_) q1) 1000 ((58176 : Int64), (0 : Int32))
  · rw [e40]
    dsimp only [Sum.elim_inl]
    refine zz_iconst F (v := (0 : Int32)) dX9_digest_31 (by decide) ?_
    refine zz_istore_n F (i := 3) (L' := [some (zr 0 0 0), some (zl q2), none, some (zi (0 : Int32)), none]) dX9_digest_32 rfl (by decide) rfl rfl ?_
    refine zz_sub (zs_k (zs_k (zs_k (zs_k (zs_k zs_z))))) ?_
    refine zz_bind ?_
    refine zz_iter (Lf := fun q6 => [some (zr 0 0 0), some (zl q6.1), none, some (zi q6.2.1), none]) (Mf := fun q6 => [s0, s1, q6.2.2, s3]) (fun q6 _ e37 e38 => bfWB_digest_l33 F s0 s1 s3  e37 (fun q7 => ?_) (fun r => ?_) q6) 1000 (q2, (0 : Int32), s2)
    · rw [e38]
      dsimp only [Sum.elim_inl]
      refine zz_iconst F (v := (0 : Int32)) dX9_digest_68 (by decide) ?_
      refine zz_istore_n F (i := 3) (L' := [some (zr 0 0 0), some (zl q7.1), none, some (zi (0 : Int32)), none]) dX9_digest_69 rfl (by decide) rfl rfl ?_
      refine zz_sub (zs_k (zs_k (zs_k (zs_k (zs_k zs_z))))) ?_
      refine zz_bind ?_
      refine zz_iter (Lf := fun q12 => [some (zr 0 0 0), some (zl q12.1), none, some (zi q12.2), none]) (Mf := fun q12 => [s0, s1, q7.2, s3]) (fun q12 _ e35 e36 => bfWB_digest_l70 F s0 s1 s3 q7  e35 (fun q13 => ?_) (fun r => ?_) q12) 1000 (q7.1, (0 : Int32))
      · rw [e36]
        dsimp only [Sum.elim_inl]
        refine zz_iconst F (v := (0 : Int32)) dX9_digest_117 (by decide) ?_
        refine zz_istore_n F (i := 3) (L' := [some (zr 0 0 0), some (zl q13), none, some (zi (0 : Int32)), none]) dX9_digest_118 rfl (by decide) rfl rfl ?_
        refine zz_sub (zs_k (zs_k (zs_k (zs_k (zs_k zs_z))))) ?_
        refine zz_bind ?_
        refine zz_iter (Lf := fun q22 => [some (zr 0 0 0), some (zl q22.1), none, some (zi q22.2), none]) (Mf := fun q22 => [s0, s1, q7.2, s3]) (fun q22 _ e33 e34 => bfWB_digest_l119 F s0 s1 s3 q7  e33 (fun q23 => ?_) (fun r => ?_) q22) 1000 (q13, (0 : Int32))
        · rw [e34]
          dsimp only [Sum.elim_inl]
          refine zz_lload_n F (i := 1) dX9_digest_166 rfl rfl ?_
          refine zz_ldc2 F (v := (31 : Int64)) dX9_digest_167 wlRX9_326 ?_
          refine zz_lmul F dX9_digest_170 ?_
          refine zz_aload_n F (i := 0) dX9_digest_171 rfl rfl ?_
          refine zz_iconst F (v := (3 : Int32)) dX9_digest_172 (by decide) ?_
          refine zz_bind ?_
          refine zz_callVx F (ρ := [0, 1, 2, 3]) (so := fun q32 => [zi q32.1, zl (q23 * (31 : Int64))]) (Mo := fun q32 => [s0, s1, q32.2, s3]) (Xo := fun b => [s0, s1, b.2, s3]) (zfWB_wouldDeliver (3 : Int32) s0 s1 q7.2 s3) dX9_digest_173 wcRX9_344 wy_yX9_wouldDeliver rfl ⟨rel2, rfl, rfl, Nat.le_of_ble_eq_true rfl, Nat.le_of_ble_eq_true rfl, Nat.le_of_ble_eq_true rfl⟩ (⟨zlb rfl, zlb rfl, zlb rfl⟩) rfl rfl rfl (fun _ => rfl) (fun _ => rfl) (fun _ => rfl) (fun _ => (hκ _)) fun q32 => ?_
          dsimp only [Sum.elim_inl]
          refine zz_i2l F dX9_digest_176 ?_
          refine zz_ladd F dX9_digest_177 ?_
          exact zz_lreturn F dX9_digest_178 rfl (hκ _)
        · exact (e34 _).trans (hκ _)
      · exact (e36 _).trans (hκ _)
    · exact (e38 _).trans (hκ _)
  · exact (e40 _).trans (hκ _)
theorem zfWB_digest   (s0 : zM) (s1 : zM) (s2 : zM) (s3 : zM) : ∀ a, fWB_digest s0 s1 s2 s3 = some a → zMet yX9_digest cX9_digest 5 (some .long) 9 160 [(2, [1, 2, 3]), (0, []), (0, []), (1, [])] [zr 0 0 0] [s0, s1, s2, s3] ((zts (fun q => some (zl q.1)) (fun q => [s0, s1, q.2, s3]) (fun b => b.1) (fun b => [s0, s1, b.2, s3])) a) := fun a ha => zMet_of (L0 := [some (zr 0 0 0), none, none, none, none]) (φ := Option.bind (fWB_digest s0 s1 s2 s3) (fun a => some ((zts (fun q => some (zl q.1)) (fun q => [s0, s1, q.2, s3]) (fun b => b.1) (fun b => [s0, s1, b.2, s3])) a))) (by decide) (fun _ => Nat.le_of_ble_eq_true rfl) (zl0 4 rfl) (fun X F => bfWB_digest F s0 s1 s2 s3 (fun _ => rfl)) (by rw [ha]; rfl)
