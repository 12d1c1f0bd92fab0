theorem dL_string_0 : decode cL_string 0 = .ok (.aload_n 2, 1) := by decide +kernel
theorem dL_string_1 : decode cL_string 1 = .ok (.iconst 0, 1) := by decide +kernel
theorem dL_string_2 : decode cL_string 2 = .ok (.aload_n 0, 1) := by decide +kernel
theorem dL_string_3 : decode cL_string 3 = .ok (.iload_n 1, 1) := by decide +kernel
theorem dL_string_4 : decode cL_string 4 = .ok (.invokevirtual 7, 3) := by decide +kernel
theorem dL_string_7 : decode cL_string 7 = .ok (.i2l, 1) := by decide +kernel
theorem dL_string_8 : decode cL_string 8 = .ok (.lastore, 1) := by decide +kernel
theorem dL_string_9 : decode cL_string 9 = .ok (.goto 9, 3) := by decide +kernel
theorem dL_string_12 : decode cL_string 12 = .ok (.astore_n 3, 1) := by decide +kernel
theorem dL_string_13 : decode cL_string 13 = .ok (.iconst 1, 1) := by decide +kernel
theorem dL_string_14 : decode cL_string 14 = .ok (.ireturn, 1) := by decide +kernel
theorem dL_string_15 : decode cL_string 15 = .ok (.astore_n 3, 1) := by decide +kernel
theorem dL_string_16 : decode cL_string 16 = .ok (.iconst 2, 1) := by decide +kernel
theorem dL_string_17 : decode cL_string 17 = .ok (.ireturn, 1) := by decide +kernel
theorem dL_string_18 : decode cL_string 18 = .ok (.iconst 0, 1) := by decide +kernel
theorem dL_string_19 : decode cL_string 19 = .ok (.ireturn, 1) := by decide +kernel
theorem wcL_7 : Cond.methodLink RL 7 yX9_string ∈ zTg ∧ Cond.instanceMethod yX9_string ∈ zTg ∧ Cond.selects "WakeBanks" yX9_string yX9_string ∈ zTg ∧ Cond.initialized "WakeBanks" ∈ zTg ∧ Cond.code yX9_string cX9_string 2 (some .int) ∈ zTg := ⟨zm_f 752 (by decide +kernel) rfl, zm_f 753 (by decide +kernel) rfl, zm_f 754 (by decide +kernel) rfl, zm_f 37 (by decide +kernel) rfl, zm_f 755 (by decide +kernel) rfl⟩
theorem wyL_string : yX9_string.cls = "WakeBanks" ∧ yX9_string.cls ≠ "java/lang/invoke/MethodHandle" ∧ yX9_string.cls ≠ "java/lang/invoke/VarHandle" ∧ (parseMethodDescriptor yX9_string.desc).map (fun d => d.parameters.length) = some 1 := by decide +kernel
set_option maxHeartbeats 1000000 in
set_option maxRecDepth 20000 in
theorem zwL_string (a1 : Int32)  (s0 : zM) (s1 : zM) (s2 : zM) (s3 : zM) (q : Nat) (f : Nat → Int64) (ad1 : zR → Nat) : ∀ b, fWB_string a1 s0 s1 s2 s3 = some (.inl b) → zAw yL_string cL_string 4 (some .int) [(0, 9, 12, 13), (0, 9, 15, 15)] 7 111 0 0 [.ref (ad1 (0, 0, 0)), .int a1, .ref q] (fun cA => zwl cA ad1 [(2, [1, 2, 3]), (0, []), (0, []), (1, [])] [s0, s1, s2, s3] ++ [(q, .inl (cA 5, 1, .inr (.inl f)))]) (fun cA v ws => v = some (.int 0) ∧ ws = zwl cA ad1 [(2, [1, 2, 3]), (0, []), (0, []), (1, [])] [s0, b.2, s2, s3] ++ [(q, .inl (cA 5, 1, .inr (.inl (vp_updL f 0 b.1.toInt64))))]) := by
  intro b h
  refine zAw_of (by decide) (Nat.le_of_ble_eq_true rfl) fun X F T HX => ?_
  show zN X 0 0 7 111 _ 4 0 [(0, .ref (ad1 (0, 0, 0))), (1, .int a1), (2, .ref q)] [] (zwl (zcA X) ad1 [(2, [1, 2, 3]), (0, []), (0, []), (1, [])] [s0, s1, s2, s3] ++ [(q, .inl (zcA X 5, 1, .inr (.inl f)))]) 0 0
  refine zn_aload_n F (i := 2) (k := 2) dL_string_0 rfl rfl ?_
  refine zn_iconst F (v := 0) dL_string_1 (by decide) ?_
  refine zn_aload_n F (i := 0) (k := 0) dL_string_2 rfl rfl ?_
  refine zn_iload_n F (i := 1) (k := 1) dL_string_3 rfl rfl ?_
  refine zn_callV F (as := [.int a1]) (st := [.int 0, .ref q]) (j0 := 0) (zAl_z (v := (some (zi b.1))) (as := [zr 0 0 0, zi a1]) (Rg := [(2, [1, 2, 3]), (0, []), (0, []), (1, [])]) (Ms := [s0, s1, s2, s3]) (Ms' := [s0, b.2, s2, s3]) (zfWB_string a1 s0 s1 s2 s3 _ h) rfl ad1) dL_string_4 wcL_7 wyL_string rfl rfl (ci := 8) rfl rfl rfl (Nat.le_of_ble_eq_true rfl) (Nat.le_of_ble_eq_true rfl) (Nat.le_of_ble_eq_true rfl) (Nat.le_refl _) (Nat.le_refl _) fun v w1 hB => ?_
  obtain ⟨rfl, rfl⟩ := hB
  refine zn_i2l F dL_string_7 ?_
  refine zn_lastE F dL_string_8 (by decide) rfl (vp_in_nI (n := 0) (by decide) (by decide)) (jn := 0) (by decide) ?_
  refine zn_goto F (tgt := 18) dL_string_9 (by decide) ?_
  refine zn_iconst F (v := 0) dL_string_18 (by decide) ?_
  exact zn_toX (zn_ireturn F T dL_string_19 ⟨rfl, rfl⟩ (Nat.le_refl _) (Nat.le_refl _))
theorem wkL_13 : Cond.classLink RL 13 "java/lang/IllegalArgumentException" ∈ zTg := zm_f 750 (by decide +kernel) rfl
set_option maxHeartbeats 1000000 in
set_option maxRecDepth 20000 in
theorem zwL_string_1 (a1 : Int32)  (s0 : zM) (s1 : zM) (s2 : zM) (s3 : zM) (q : Nat) (f : Nat → Int64) (ad1 : zR → Nat) : ∀ b, fWB_string a1 s0 s1 s2 s3 = some (.inr ("java/lang/IllegalArgumentException", b)) → zAw yL_string cL_string 4 (some .int) [(0, 9, 12, 13), (0, 9, 15, 15)] 7 111 1 6 [.ref (ad1 (0, 0, 0)), .int a1, .ref q] (fun cA => zwl cA ad1 [(2, [1, 2, 3]), (0, []), (0, []), (1, [])] [s0, s1, s2, s3] ++ [(q, .inl (cA 5, 1, .inr (.inl f)))]) (fun cA v ws => v = some (.int 1) ∧ ws = zwl cA ad1 [(2, [1, 2, 3]), (0, []), (0, []), (1, [])] [s0, b, s2, s3] ++ [(q, .inl (cA 5, 1, .inr (.inl f)))]) := by
  intro b h
  refine zAw_of (by decide) (Nat.le_of_ble_eq_true rfl) fun X F T HX => ?_
  show zN X 1 6 7 111 _ 4 0 [(0, .ref (ad1 (0, 0, 0))), (1, .int a1), (2, .ref q)] [] (zwl (zcA X) ad1 [(2, [1, 2, 3]), (0, []), (0, []), (1, [])] [s0, s1, s2, s3] ++ [(q, .inl (zcA X 5, 1, .inr (.inl f)))]) 0 0
  refine zn_aload_n F (i := 2) (k := 2) dL_string_0 rfl rfl ?_
  refine zn_iconst F (v := 0) dL_string_1 (by decide) ?_
  refine zn_aload_n F (i := 0) (k := 0) dL_string_2 rfl rfl ?_
  refine zn_iload_n F (i := 1) (k := 1) dL_string_3 rfl rfl ?_
  refine zn_callX F (as := [.int a1]) (st := [.int 0, .ref q]) (j0 := 0) (zAx_z (E := "java/lang/IllegalArgumentException") (as := [zr 0 0 0, zi a1]) (Rg := [(2, [1, 2, 3]), (0, []), (0, []), (1, [])]) (Ms := [s0, s1, s2, s3]) (Ms' := [s0, b, s2, s3]) (zfWB_string a1 s0 s1 s2 s3 _ h) rfl ad1) dL_string_4 wcL_7 wyL_string rfl rfl (ci := 8) rfl rfl rfl (Nat.le_of_ble_eq_true rfl) (Nat.le_of_ble_eq_true rfl) (Nat.le_of_ble_eq_true rfl) (Nat.le_refl _) (Nat.le_refl _) ?_
  refine zE_catch F HX (pre := []) (x := (0, 9, 12, 13)) (suf := [(0, 9, 15, 15)]) rfl (fun z hz => nomatch hz) (by decide) wkL_13 (by decide +kernel) fun q9 => ?_
  refine zn_astore_n F (i := 3) (lv' := [(3, .ref q9), (0, .ref (ad1 (0, 0, 0))), (1, .int a1), (2, .ref q)]) dL_string_12 rfl (by decide) rfl ?_
  refine zn_iconst F (v := 1) dL_string_13 (by decide) ?_
  exact zn_toX (zn_ireturn F T dL_string_14 ⟨rfl, rfl⟩ (Nat.le_refl _) (Nat.le_refl _))
theorem wkL_15 : Cond.classLink RL 15 "java/lang/IllegalStateException" ∈ zTg := zm_f 751 (by decide +kernel) rfl
set_option maxHeartbeats 1000000 in
set_option maxRecDepth 20000 in
theorem zwL_string_2 (a1 : Int32)  (s0 : zM) (s1 : zM) (s2 : zM) (s3 : zM) (q : Nat) (f : Nat → Int64) (ad1 : zR → Nat) : ∀ b, fWB_string a1 s0 s1 s2 s3 = some (.inr ("java/lang/IllegalStateException", b)) → zAw yL_string cL_string 4 (some .int) [(0, 9, 12, 13), (0, 9, 15, 15)] 7 111 1 6 [.ref (ad1 (0, 0, 0)), .int a1, .ref q] (fun cA => zwl cA ad1 [(2, [1, 2, 3]), (0, []), (0, []), (1, [])] [s0, s1, s2, s3] ++ [(q, .inl (cA 5, 1, .inr (.inl f)))]) (fun cA v ws => v = some (.int 2) ∧ ws = zwl cA ad1 [(2, [1, 2, 3]), (0, []), (0, []), (1, [])] [s0, b, s2, s3] ++ [(q, .inl (cA 5, 1, .inr (.inl f)))]) := by
  intro b h
  refine zAw_of (by decide) (Nat.le_of_ble_eq_true rfl) fun X F T HX => ?_
  show zN X 1 6 7 111 _ 4 0 [(0, .ref (ad1 (0, 0, 0))), (1, .int a1), (2, .ref q)] [] (zwl (zcA X) ad1 [(2, [1, 2, 3]), (0, []), (0, []), (1, [])] [s0, s1, s2, s3] ++ [(q, .inl (zcA X 5, 1, .inr (.inl f)))]) 0 0
  refine zn_aload_n F (i := 2) (k := 2) dL_string_0 rfl rfl ?_
  refine zn_iconst F (v := 0) dL_string_1 (by decide) ?_
  refine zn_aload_n F (i := 0) (k := 0) dL_string_2 rfl rfl ?_
  refine zn_iload_n F (i := 1) (k := 1) dL_string_3 rfl rfl ?_
  refine zn_callX F (as := [.int a1]) (st := [.int 0, .ref q]) (j0 := 0) (zAx_z (E := "java/lang/IllegalStateException") (as := [zr 0 0 0, zi a1]) (Rg := [(2, [1, 2, 3]), (0, []), (0, []), (1, [])]) (Ms := [s0, s1, s2, s3]) (Ms' := [s0, b, s2, s3]) (zfWB_string a1 s0 s1 s2 s3 _ h) rfl ad1) dL_string_4 wcL_7 wyL_string rfl rfl (ci := 8) rfl rfl rfl (Nat.le_of_ble_eq_true rfl) (Nat.le_of_ble_eq_true rfl) (Nat.le_of_ble_eq_true rfl) (Nat.le_refl _) (Nat.le_refl _) ?_
  refine zE_catch F HX (pre := [(0, 9, 12, 13)]) (x := (0, 9, 15, 15)) (suf := []) rfl (by
    intro z hz
    simp only [List.mem_cons, List.not_mem_nil, or_false] at hz
    subst hz
    exact ⟨by decide, _, wkL_13, by decide +kernel⟩) (by decide) wkL_15 (by decide +kernel) fun q9 => ?_
  refine zn_astore_n F (i := 3) (lv' := [(3, .ref q9), (0, .ref (ad1 (0, 0, 0))), (1, .int a1), (2, .ref q)]) dL_string_15 rfl (by decide) rfl ?_
  refine zn_iconst F (v := 2) dL_string_16 (by decide) ?_
  exact zn_toX (zn_ireturn F T dL_string_17 ⟨rfl, rfl⟩ (Nat.le_refl _) (Nat.le_refl _))
theorem dL_turbine_0 : decode cL_turbine 0 = .ok (.aload 4, 2) := by decide +kernel
theorem dL_turbine_2 : decode cL_turbine 2 = .ok (.iconst 0, 1) := by decide +kernel
theorem dL_turbine_3 : decode cL_turbine 3 = .ok (.aload_n 0, 1) := by decide +kernel
theorem dL_turbine_4 : decode cL_turbine 4 = .ok (.iload_n 1, 1) := by decide +kernel
theorem dL_turbine_5 : decode cL_turbine 5 = .ok (.iload_n 2, 1) := by decide +kernel
theorem dL_turbine_6 : decode cL_turbine 6 = .ok (.iload_n 3, 1) := by decide +kernel
theorem dL_turbine_7 : decode cL_turbine 7 = .ok (.invokevirtual 17, 3) := by decide +kernel
theorem dL_turbine_10 : decode cL_turbine 10 = .ok (.i2l, 1) := by decide +kernel
theorem dL_turbine_11 : decode cL_turbine 11 = .ok (.lastore, 1) := by decide +kernel
theorem dL_turbine_12 : decode cL_turbine 12 = .ok (.goto 15, 3) := by decide +kernel
theorem dL_turbine_15 : decode cL_turbine 15 = .ok (.astore 5, 2) := by decide +kernel
theorem dL_turbine_17 : decode cL_turbine 17 = .ok (.iconst 1, 1) := by decide +kernel
theorem dL_turbine_18 : decode cL_turbine 18 = .ok (.ireturn, 1) := by decide +kernel
theorem dL_turbine_19 : decode cL_turbine 19 = .ok (.astore 5, 2) := by decide +kernel
theorem dL_turbine_21 : decode cL_turbine 21 = .ok (.iconst 2, 1) := by decide +kernel
theorem dL_turbine_22 : decode cL_turbine 22 = .ok (.ireturn, 1) := by decide +kernel
theorem dL_turbine_23 : decode cL_turbine 23 = .ok (.astore 5, 2) := by decide +kernel
theorem dL_turbine_25 : decode cL_turbine 25 = .ok (.iconst 3, 1) := by decide +kernel
theorem dL_turbine_26 : decode cL_turbine 26 = .ok (.ireturn, 1) := by decide +kernel
theorem dL_turbine_27 : decode cL_turbine 27 = .ok (.iconst 0, 1) := by decide +kernel
theorem dL_turbine_28 : decode cL_turbine 28 = .ok (.ireturn, 1) := by decide +kernel
theorem wcL_17 : Cond.methodLink RL 17 yX9_turbine ∈ zTg ∧ Cond.instanceMethod yX9_turbine ∈ zTg ∧ Cond.selects "WakeBanks" yX9_turbine yX9_turbine ∈ zTg ∧ Cond.initialized "WakeBanks" ∈ zTg ∧ Cond.code yX9_turbine cX9_turbine 4 (some .int) ∈ zTg := ⟨zm_f 781 (by decide +kernel) rfl, zm_f 782 (by decide +kernel) rfl, zm_f 783 (by decide +kernel) rfl, zm_f 37 (by decide +kernel) rfl, zm_f 784 (by decide +kernel) rfl⟩
theorem wyL_turbine : yX9_turbine.cls = "WakeBanks" ∧ yX9_turbine.cls ≠ "java/lang/invoke/MethodHandle" ∧ yX9_turbine.cls ≠ "java/lang/invoke/VarHandle" ∧ (parseMethodDescriptor yX9_turbine.desc).map (fun d => d.parameters.length) = some 3 := by decide +kernel
set_option maxHeartbeats 1000000 in
set_option maxRecDepth 20000 in
theorem zwL_turbine (a1 : Int32) (a2 : Int32) (a3 : Int32)  (s0 : zM) (s1 : zM) (s2 : zM) (s3 : zM) (q : Nat) (f : Nat → Int64) (ad1 : zR → Nat) : ∀ b, fWB_turbine a1 a2 a3 s0 s1 s2 s3 = some (.inl b) → zAw yL_turbine cL_turbine 6 (some .int) [(0, 12, 15, 21), (0, 12, 19, 13), (0, 12, 23, 15)] 8 134 0 0 [.ref (ad1 (0, 0, 0)), .int a1, .int a2, .int a3, .ref q] (fun cA => zwl cA ad1 [(2, [1, 2, 3]), (0, []), (0, []), (1, [])] [s0, s1, s2, s3] ++ [(q, .inl (cA 5, 1, .inr (.inl f)))]) (fun cA v ws => v = some (.int 0) ∧ ws = zwl cA ad1 [(2, [1, 2, 3]), (0, []), (0, []), (1, [])] [s0, b.2, s2, s3] ++ [(q, .inl (cA 5, 1, .inr (.inl (vp_updL f 0 b.1.toInt64))))]) := by
  intro b h
  refine zAw_of (by decide) (Nat.le_of_ble_eq_true rfl) fun X F T HX => ?_
  show zN X 0 0 8 134 _ 6 0 [(0, .ref (ad1 (0, 0, 0))), (1, .int a1), (2, .int a2), (3, .int a3), (4, .ref q)] [] (zwl (zcA X) ad1 [(2, [1, 2, 3]), (0, []), (0, []), (1, [])] [s0, s1, s2, s3] ++ [(q, .inl (zcA X 5, 1, .inr (.inl f)))]) 0 0
  refine zn_aload F (i := 4) (k := 4) dL_turbine_0 rfl ?_
  refine zn_iconst F (v := 0) dL_turbine_2 (by decide) ?_
  refine zn_aload_n F (i := 0) (k := 0) dL_turbine_3 rfl rfl ?_
  refine zn_iload_n F (i := 1) (k := 1) dL_turbine_4 rfl rfl ?_
  refine zn_iload_n F (i := 2) (k := 2) dL_turbine_5 rfl rfl ?_
  refine zn_iload_n F (i := 3) (k := 3) dL_turbine_6 rfl rfl ?_
  refine zn_callV F (as := [.int a1, .int a2, .int a3]) (st := [.int 0, .ref q]) (j0 := 0) (zAl_z (v := (some (zi b.1))) (as := [zr 0 0 0, zi a1, zi a2, zi a3]) (Rg := [(2, [1, 2, 3]), (0, []), (0, []), (1, [])]) (Ms := [s0, s1, s2, s3]) (Ms' := [s0, b.2, s2, s3]) (zfWB_turbine a1 a2 a3 s0 s1 s2 s3 _ h) rfl ad1) dL_turbine_7 wcL_17 wyL_turbine rfl rfl (ci := 8) rfl rfl rfl (Nat.le_of_ble_eq_true rfl) (Nat.le_of_ble_eq_true rfl) (Nat.le_of_ble_eq_true rfl) (Nat.le_refl _) (Nat.le_refl _) fun v w1 hB => ?_
  obtain ⟨rfl, rfl⟩ := hB
  refine zn_i2l F dL_turbine_10 ?_
  refine zn_lastE F dL_turbine_11 (by decide) rfl (vp_in_nI (n := 0) (by decide) (by decide)) (jn := 0) (by decide) ?_
  refine zn_goto F (tgt := 27) dL_turbine_12 (by decide) ?_
  refine zn_iconst F (v := 0) dL_turbine_27 (by decide) ?_
  exact zn_toX (zn_ireturn F T dL_turbine_28 ⟨rfl, rfl⟩ (Nat.le_refl _) (Nat.le_refl _))
theorem wkL_21 : Cond.classLink RL 21 "java/lang/IndexOutOfBoundsException" ∈ zTg := zm_f 780 (by decide +kernel) rfl
set_option maxHeartbeats 1000000 in
set_option maxRecDepth 20000 in
theorem zwL_turbine_1 (a1 : Int32) (a2 : Int32) (a3 : Int32)  (s0 : zM) (s1 : zM) (s2 : zM) (s3 : zM) (q : Nat) (f : Nat → Int64) (ad1 : zR → Nat) : ∀ b, fWB_turbine a1 a2 a3 s0 s1 s2 s3 = some (.inr ("java/lang/IndexOutOfBoundsException", b)) → zAw yL_turbine cL_turbine 6 (some .int) [(0, 12, 15, 21), (0, 12, 19, 13), (0, 12, 23, 15)] 8 134 1 6 [.ref (ad1 (0, 0, 0)), .int a1, .int a2, .int a3, .ref q] (fun cA => zwl cA ad1 [(2, [1, 2, 3]), (0, []), (0, []), (1, [])] [s0, s1, s2, s3] ++ [(q, .inl (cA 5, 1, .inr (.inl f)))]) (fun cA v ws => v = some (.int 1) ∧ ws = zwl cA ad1 [(2, [1, 2, 3]), (0, []), (0, []), (1, [])] [s0, b, s2, s3] ++ [(q, .inl (cA 5, 1, .inr (.inl f)))]) := by
  intro b h
  refine zAw_of (by decide) (Nat.le_of_ble_eq_true rfl) fun X F T HX => ?_
  show zN X 1 6 8 134 _ 6 0 [(0, .ref (ad1 (0, 0, 0))), (1, .int a1), (2, .int a2), (3, .int a3), (4, .ref q)] [] (zwl (zcA X) ad1 [(2, [1, 2, 3]), (0, []), (0, []), (1, [])] [s0, s1, s2, s3] ++ [(q, .inl (zcA X 5, 1, .inr (.inl f)))]) 0 0
  refine zn_aload F (i := 4) (k := 4) dL_turbine_0 rfl ?_
  refine zn_iconst F (v := 0) dL_turbine_2 (by decide) ?_
  refine zn_aload_n F (i := 0) (k := 0) dL_turbine_3 rfl rfl ?_
  refine zn_iload_n F (i := 1) (k := 1) dL_turbine_4 rfl rfl ?_
  refine zn_iload_n F (i := 2) (k := 2) dL_turbine_5 rfl rfl ?_
  refine zn_iload_n F (i := 3) (k := 3) dL_turbine_6 rfl rfl ?_
  refine zn_callX F (as := [.int a1, .int a2, .int a3]) (st := [.int 0, .ref q]) (j0 := 0) (zAx_z (E := "java/lang/IndexOutOfBoundsException") (as := [zr 0 0 0, zi a1, zi a2, zi a3]) (Rg := [(2, [1, 2, 3]), (0, []), (0, []), (1, [])]) (Ms := [s0, s1, s2, s3]) (Ms' := [s0, b, s2, s3]) (zfWB_turbine a1 a2 a3 s0 s1 s2 s3 _ h) rfl ad1) dL_turbine_7 wcL_17 wyL_turbine rfl rfl (ci := 8) rfl rfl rfl (Nat.le_of_ble_eq_true rfl) (Nat.le_of_ble_eq_true rfl) (Nat.le_of_ble_eq_true rfl) (Nat.le_refl _) (Nat.le_refl _) ?_
  refine zE_catch F HX (pre := []) (x := (0, 12, 15, 21)) (suf := [(0, 12, 19, 13), (0, 12, 23, 15)]) rfl (fun z hz => nomatch hz) (by decide) wkL_21 (by decide +kernel) fun q9 => ?_
  refine zn_astore F (i := 5) (lv' := [(5, .ref q9), (0, .ref (ad1 (0, 0, 0))), (1, .int a1), (2, .int a2), (3, .int a3), (4, .ref q)]) dL_turbine_15 (by decide) rfl ?_
  refine zn_iconst F (v := 1) dL_turbine_17 (by decide) ?_
  exact zn_toX (zn_ireturn F T dL_turbine_18 ⟨rfl, rfl⟩ (Nat.le_refl _) (Nat.le_refl _))
set_option maxHeartbeats 1000000 in
set_option maxRecDepth 20000 in
theorem zwL_turbine_2 (a1 : Int32) (a2 : Int32) (a3 : Int32)  (s0 : zM) (s1 : zM) (s2 : zM) (s3 : zM) (q : Nat) (f : Nat → Int64) (ad1 : zR → Nat) : ∀ b, fWB_turbine a1 a2 a3 s0 s1 s2 s3 = some (.inr ("java/lang/IllegalArgumentException", b)) → zAw yL_turbine cL_turbine 6 (some .int) [(0, 12, 15, 21), (0, 12, 19, 13), (0, 12, 23, 15)] 8 134 1 6 [.ref (ad1 (0, 0, 0)), .int a1, .int a2, .int a3, .ref q] (fun cA => zwl cA ad1 [(2, [1, 2, 3]), (0, []), (0, []), (1, [])] [s0, s1, s2, s3] ++ [(q, .inl (cA 5, 1, .inr (.inl f)))]) (fun cA v ws => v = some (.int 2) ∧ ws = zwl cA ad1 [(2, [1, 2, 3]), (0, []), (0, []), (1, [])] [s0, b, s2, s3] ++ [(q, .inl (cA 5, 1, .inr (.inl f)))]) := by
  intro b h
  refine zAw_of (by decide) (Nat.le_of_ble_eq_true rfl) fun X F T HX => ?_
  show zN X 1 6 8 134 _ 6 0 [(0, .ref (ad1 (0, 0, 0))), (1, .int a1), (2, .int a2), (3, .int a3), (4, .ref q)] [] (zwl (zcA X) ad1 [(2, [1, 2, 3]), (0, []), (0, []), (1, [])] [s0, s1, s2, s3] ++ [(q, .inl (zcA X 5, 1, .inr (.inl f)))]) 0 0
  refine zn_aload F (i := 4) (k := 4) dL_turbine_0 rfl ?_
  refine zn_iconst F (v := 0) dL_turbine_2 (by decide) ?_
  refine zn_aload_n F (i := 0) (k := 0) dL_turbine_3 rfl rfl ?_
  refine zn_iload_n F (i := 1) (k := 1) dL_turbine_4 rfl rfl ?_
  refine zn_iload_n F (i := 2) (k := 2) dL_turbine_5 rfl rfl ?_
  refine zn_iload_n F (i := 3) (k := 3) dL_turbine_6 rfl rfl ?_
  refine zn_callX F (as := [.int a1, .int a2, .int a3]) (st := [.int 0, .ref q]) (j0 := 0) (zAx_z (E := "java/lang/IllegalArgumentException") (as := [zr 0 0 0, zi a1, zi a2, zi a3]) (Rg := [(2, [1, 2, 3]), (0, []), (0, []), (1, [])]) (Ms := [s0, s1, s2, s3]) (Ms' := [s0, b, s2, s3]) (zfWB_turbine a1 a2 a3 s0 s1 s2 s3 _ h) rfl ad1) dL_turbine_7 wcL_17 wyL_turbine rfl rfl (ci := 8) rfl rfl rfl (Nat.le_of_ble_eq_true rfl) (Nat.le_of_ble_eq_true rfl) (Nat.le_of_ble_eq_true rfl) (Nat.le_refl _) (Nat.le_refl _) ?_
  refine zE_catch F HX (pre := [(0, 12, 15, 21)]) (x := (0, 12, 19, 13)) (suf := [(0, 12, 23, 15)]) rfl (by
    intro z hz
    simp only [List.mem_cons, List.not_mem_nil, or_false] at hz
    subst hz
    exact ⟨by decide, _, wkL_21, by decide +kernel⟩) (by decide) wkL_13 (by decide +kernel) fun q9 => ?_
  refine zn_astore F (i := 5) (lv' := [(5, .ref q9), (0, .ref (ad1 (0, 0, 0))), (1, .int a1), (2, .int a2), (3, .int a3), (4, .ref q)]) dL_turbine_19 (by decide) rfl ?_
  refine zn_iconst F (v := 2) dL_turbine_21 (by decide) ?_
  exact zn_toX (zn_ireturn F T dL_turbine_22 ⟨rfl, rfl⟩ (Nat.le_refl _) (Nat.le_refl _))
set_option maxHeartbeats 1000000 in
set_option maxRecDepth 20000 in
theorem zwL_turbine_3 (a1 : Int32) (a2 : Int32) (a3 : Int32)  (s0 : zM) (s1 : zM) (s2 : zM) (s3 : zM) (q : Nat) (f : Nat → Int64) (ad1 : zR → Nat) : ∀ b, fWB_turbine a1 a2 a3 s0 s1 s2 s3 = some (.inr ("java/lang/IllegalStateException", b)) → zAw yL_turbine cL_turbine 6 (some .int) [(0, 12, 15, 21), (0, 12, 19, 13), (0, 12, 23, 15)] 8 134 1 6 [.ref (ad1 (0, 0, 0)), .int a1, .int a2, .int a3, .ref q] (fun cA => zwl cA ad1 [(2, [1, 2, 3]), (0, []), (0, []), (1, [])] [s0, s1, s2, s3] ++ [(q, .inl (cA 5, 1, .inr (.inl f)))]) (fun cA v ws => v = some (.int 3) ∧ ws = zwl cA ad1 [(2, [1, 2, 3]), (0, []), (0, []), (1, [])] [s0, b, s2, s3] ++ [(q, .inl (cA 5, 1, .inr (.inl f)))]) := by
  intro b h
  refine zAw_of (by decide) (Nat.le_of_ble_eq_true rfl) fun X F T HX => ?_
  show zN X 1 6 8 134 _ 6 0 [(0, .ref (ad1 (0, 0, 0))), (1, .int a1), (2, .int a2), (3, .int a3), (4, .ref q)] [] (zwl (zcA X) ad1 [(2, [1, 2, 3]), (0, []), (0, []), (1, [])] [s0, s1, s2, s3] ++ [(q, .inl (zcA X 5, 1, .inr (.inl f)))]) 0 0
  refine zn_aload F (i := 4) (k := 4) dL_turbine_0 rfl ?_
  refine zn_iconst F (v := 0) dL_turbine_2 (by decide) ?_
  refine zn_aload_n F (i := 0) (k := 0) dL_turbine_3 rfl rfl ?_
  refine zn_iload_n F (i := 1) (k := 1) dL_turbine_4 rfl rfl ?_
  refine zn_iload_n F (i := 2) (k := 2) dL_turbine_5 rfl rfl ?_
  refine zn_iload_n F (i := 3) (k := 3) dL_turbine_6 rfl rfl ?_
  refine zn_callX F (as := [.int a1, .int a2, .int a3]) (st := [.int 0, .ref q]) (j0 := 0) (zAx_z (E := "java/lang/IllegalStateException") (as := [zr 0 0 0, zi a1, zi a2, zi a3]) (Rg := [(2, [1, 2, 3]), (0, []), (0, []), (1, [])]) (Ms := [s0, s1, s2, s3]) (Ms' := [s0, b, s2, s3]) (zfWB_turbine a1 a2 a3 s0 s1 s2 s3 _ h) rfl ad1) dL_turbine_7 wcL_17 wyL_turbine rfl rfl (ci := 8) rfl rfl rfl (Nat.le_of_ble_eq_true rfl) (Nat.le_of_ble_eq_true rfl) (Nat.le_of_ble_eq_true rfl) (Nat.le_refl _) (Nat.le_refl _) ?_
  refine zE_catch F HX (pre := [(0, 12, 15, 21), (0, 12, 19, 13)]) (x := (0, 12, 23, 15)) (suf := []) rfl (by
    intro z hz
    simp only [List.mem_cons, List.not_mem_nil, or_false] at hz
    rcases hz with rfl | rfl
    · exact ⟨by decide, _, wkL_21, by decide +kernel⟩
    · exact ⟨by decide, _, wkL_13, by decide +kernel⟩) (by decide) wkL_15 (by decide +kernel) fun q9 => ?_
  refine zn_astore F (i := 5) (lv' := [(5, .ref q9), (0, .ref (ad1 (0, 0, 0))), (1, .int a1), (2, .int a2), (3, .int a3), (4, .ref q)]) dL_turbine_23 (by decide) rfl ?_
  refine zn_iconst F (v := 3) dL_turbine_25 (by decide) ?_
  exact zn_toX (zn_ireturn F T dL_turbine_26 ⟨rfl, rfl⟩ (Nat.le_refl _) (Nat.le_refl _))
theorem dL_vessel_0 : decode cL_vessel 0 = .ok (.aload_n 2, 1) := by decide +kernel
theorem dL_vessel_1 : decode cL_vessel 1 = .ok (.iconst 0, 1) := by decide +kernel
theorem dL_vessel_2 : decode cL_vessel 2 = .ok (.aload_n 0, 1) := by decide +kernel
theorem dL_vessel_3 : decode cL_vessel 3 = .ok (.iload_n 1, 1) := by decide +kernel
theorem dL_vessel_4 : decode cL_vessel 4 = .ok (.invokevirtual 23, 3) := by decide +kernel
theorem dL_vessel_7 : decode cL_vessel 7 = .ok (.i2l, 1) := by decide +kernel
theorem dL_vessel_8 : decode cL_vessel 8 = .ok (.lastore, 1) := by decide +kernel
theorem dL_vessel_9 : decode cL_vessel 9 = .ok (.goto 9, 3) := by decide +kernel
theorem dL_vessel_12 : decode cL_vessel 12 = .ok (.astore_n 3, 1) := by decide +kernel
theorem dL_vessel_13 : decode cL_vessel 13 = .ok (.iconst 1, 1) := by decide +kernel
theorem dL_vessel_14 : decode cL_vessel 14 = .ok (.ireturn, 1) := by decide +kernel
theorem dL_vessel_15 : decode cL_vessel 15 = .ok (.astore_n 3, 1) := by decide +kernel
theorem dL_vessel_16 : decode cL_vessel 16 = .ok (.iconst 2, 1) := by decide +kernel
theorem dL_vessel_17 : decode cL_vessel 17 = .ok (.ireturn, 1) := by decide +kernel
theorem dL_vessel_18 : decode cL_vessel 18 = .ok (.iconst 0, 1) := by decide +kernel
theorem dL_vessel_19 : decode cL_vessel 19 = .ok (.ireturn, 1) := by decide +kernel
theorem wcL_23 : Cond.methodLink RL 23 yX9_vessel ∈ zTg ∧ Cond.instanceMethod yX9_vessel ∈ zTg ∧ Cond.selects "WakeBanks" yX9_vessel yX9_vessel ∈ zTg ∧ Cond.initialized "WakeBanks" ∈ zTg ∧ Cond.code yX9_vessel cX9_vessel 2 (some .int) ∈ zTg := ⟨zm_f 795 (by decide +kernel) rfl, zm_f 796 (by decide +kernel) rfl, zm_f 797 (by decide +kernel) rfl, zm_f 37 (by decide +kernel) rfl, zm_f 798 (by decide +kernel) rfl⟩
theorem wyL_vessel : yX9_vessel.cls = "WakeBanks" ∧ yX9_vessel.cls ≠ "java/lang/invoke/MethodHandle" ∧ yX9_vessel.cls ≠ "java/lang/invoke/VarHandle" ∧ (parseMethodDescriptor yX9_vessel.desc).map (fun d => d.parameters.length) = some 1 := by decide +kernel
set_option maxHeartbeats 1000000 in
set_option maxRecDepth 20000 in
theorem zwL_vessel (a1 : Int32)  (s0 : zM) (s1 : zM) (s2 : zM) (s3 : zM) (q : Nat) (f : Nat → Int64) (ad1 : zR → Nat) : ∀ b, fWB_vessel a1 s0 s1 s2 s3 = some (.inl b) → zAw yL_vessel cL_vessel 4 (some .int) [(0, 9, 12, 13), (0, 9, 15, 15)] 7 111 0 0 [.ref (ad1 (0, 0, 0)), .int a1, .ref q] (fun cA => zwl cA ad1 [(2, [1, 2, 3]), (0, []), (0, []), (1, [])] [s0, s1, s2, s3] ++ [(q, .inl (cA 5, 1, .inr (.inl f)))]) (fun cA v ws => v = some (.int 0) ∧ ws = zwl cA ad1 [(2, [1, 2, 3]), (0, []), (0, []), (1, [])] [s0, b.2, s2, s3] ++ [(q, .inl (cA 5, 1, .inr (.inl (vp_updL f 0 b.1.toInt64))))]) := by
  intro b h
  refine zAw_of (by decide) (Nat.le_of_ble_eq_true rfl) fun X F T HX => ?_
  show zN X 0 0 7 111 _ 4 0 [(0, .ref (ad1 (0, 0, 0))), (1, .int a1), (2, .ref q)] [] (zwl (zcA X) ad1 [(2, [1, 2, 3]), (0, []), (0, []), (1, [])] [s0, s1, s2, s3] ++ [(q, .inl (zcA X 5, 1, .inr (.inl f)))]) 0 0
  refine zn_aload_n F (i := 2) (k := 2) dL_vessel_0 rfl rfl ?_
  refine zn_iconst F (v := 0) dL_vessel_1 (by decide) ?_
  refine zn_aload_n F (i := 0) (k := 0) dL_vessel_2 rfl rfl ?_
  refine zn_iload_n F (i := 1) (k := 1) dL_vessel_3 rfl rfl ?_
  refine zn_callV F (as := [.int a1]) (st := [.int 0, .ref q]) (j0 := 0) (zAl_z (v := (some (zi b.1))) (as := [zr 0 0 0, zi a1]) (Rg := [(2, [1, 2, 3]), (0, []), (0, []), (1, [])]) (Ms := [s0, s1, s2, s3]) (Ms' := [s0, b.2, s2, s3]) (zfWB_vessel a1 s0 s1 s2 s3 _ h) rfl ad1) dL_vessel_4 wcL_23 wyL_vessel rfl rfl (ci := 8) rfl rfl rfl (Nat.le_of_ble_eq_true rfl) (Nat.le_of_ble_eq_true rfl) (Nat.le_of_ble_eq_true rfl) (Nat.le_refl _) (Nat.le_refl _) fun v w1 hB => ?_
  obtain ⟨rfl, rfl⟩ := hB
  refine zn_i2l F dL_vessel_7 ?_
  refine zn_lastE F dL_vessel_8 (by decide) rfl (vp_in_nI (n := 0) (by decide) (by decide)) (jn := 0) (by decide) ?_
  refine zn_goto F (tgt := 18) dL_vessel_9 (by decide) ?_
  refine zn_iconst F (v := 0) dL_vessel_18 (by decide) ?_
  exact zn_toX (zn_ireturn F T dL_vessel_19 ⟨rfl, rfl⟩ (Nat.le_refl _) (Nat.le_refl _))
set_option maxHeartbeats 1000000 in
set_option maxRecDepth 20000 in
theorem zwL_vessel_1 (a1 : Int32)  (s0 : zM) (s1 : zM) (s2 : zM) (s3 : zM) (q : Nat) (f : Nat → Int64) (ad1 : zR → Nat) : ∀ b, fWB_vessel a1 s0 s1 s2 s3 = some (.inr ("java/lang/IllegalArgumentException", b)) → zAw yL_vessel cL_vessel 4 (some .int) [(0, 9, 12, 13), (0, 9, 15, 15)] 7 111 1 6 [.ref (ad1 (0, 0, 0)), .int a1, .ref q] (fun cA => zwl cA ad1 [(2, [1, 2, 3]), (0, []), (0, []), (1, [])] [s0, s1, s2, s3] ++ [(q, .inl (cA 5, 1, .inr (.inl f)))]) (fun cA v ws => v = some (.int 1) ∧ ws = zwl cA ad1 [(2, [1, 2, 3]), (0, []), (0, []), (1, [])] [s0, b, s2, s3] ++ [(q, .inl (cA 5, 1, .inr (.inl f)))]) := by
  intro b h
  refine zAw_of (by decide) (Nat.le_of_ble_eq_true rfl) fun X F T HX => ?_
  show zN X 1 6 7 111 _ 4 0 [(0, .ref (ad1 (0, 0, 0))), (1, .int a1), (2, .ref q)] [] (zwl (zcA X) ad1 [(2, [1, 2, 3]), (0, []), (0, []), (1, [])] [s0, s1, s2, s3] ++ [(q, .inl (zcA X 5, 1, .inr (.inl f)))]) 0 0
  refine zn_aload_n F (i := 2) (k := 2) dL_vessel_0 rfl rfl ?_
  refine zn_iconst F (v := 0) dL_vessel_1 (by decide) ?_
  refine zn_aload_n F (i := 0) (k := 0) dL_vessel_2 rfl rfl ?_
  refine zn_iload_n F (i := 1) (k := 1) dL_vessel_3 rfl rfl ?_
  refine zn_callX F (as := [.int a1]) (st := [.int 0, .ref q]) (j0 := 0) (zAx_z (E := "java/lang/IllegalArgumentException") (as := [zr 0 0 0, zi a1]) (Rg := [(2, [1, 2, 3]), (0, []), (0, []), (1, [])]) (Ms := [s0, s1, s2, s3]) (Ms' := [s0, b, s2, s3]) (zfWB_vessel a1 s0 s1 s2 s3 _ h) rfl ad1) dL_vessel_4 wcL_23 wyL_vessel rfl rfl (ci := 8) rfl rfl rfl (Nat.le_of_ble_eq_true rfl) (Nat.le_of_ble_eq_true rfl) (Nat.le_of_ble_eq_true rfl) (Nat.le_refl _) (Nat.le_refl _) ?_
  refine zE_catch F HX (pre := []) (x := (0, 9, 12, 13)) (suf := [(0, 9, 15, 15)]) rfl (fun z hz => nomatch hz) (by decide) wkL_13 (by decide +kernel) fun q9 => ?_
  refine zn_astore_n F (i := 3) (lv' := [(3, .ref q9), (0, .ref (ad1 (0, 0, 0))), (1, .int a1), (2, .ref q)]) dL_vessel_12 rfl (by decide) rfl ?_
  refine zn_iconst F (v := 1) dL_vessel_13 (by decide) ?_
  exact zn_toX (zn_ireturn F T dL_vessel_14 ⟨rfl, rfl⟩ (Nat.le_refl _) (Nat.le_refl _))
set_option maxHeartbeats 1000000 in
set_option maxRecDepth 20000 in
theorem zwL_vessel_2 (a1 : Int32)  (s0 : zM) (s1 : zM) (s2 : zM) (s3 : zM) (q : Nat) (f : Nat → Int64) (ad1 : zR → Nat) : ∀ b, fWB_vessel a1 s0 s1 s2 s3 = some (.inr ("java/lang/IllegalStateException", b)) → zAw yL_vessel cL_vessel 4 (some .int) [(0, 9, 12, 13), (0, 9, 15, 15)] 7 111 1 6 [.ref (ad1 (0, 0, 0)), .int a1, .ref q] (fun cA => zwl cA ad1 [(2, [1, 2, 3]), (0, []), (0, []), (1, [])] [s0, s1, s2, s3] ++ [(q, .inl (cA 5, 1, .inr (.inl f)))]) (fun cA v ws => v = some (.int 2) ∧ ws = zwl cA ad1 [(2, [1, 2, 3]), (0, []), (0, []), (1, [])] [s0, b, s2, s3] ++ [(q, .inl (cA 5, 1, .inr (.inl f)))]) := by
  intro b h
  refine zAw_of (by decide) (Nat.le_of_ble_eq_true rfl) fun X F T HX => ?_
  show zN X 1 6 7 111 _ 4 0 [(0, .ref (ad1 (0, 0, 0))), (1, .int a1), (2, .ref q)] [] (zwl (zcA X) ad1 [(2, [1, 2, 3]), (0, []), (0, []), (1, [])] [s0, s1, s2, s3] ++ [(q, .inl (zcA X 5, 1, .inr (.inl f)))]) 0 0
  refine zn_aload_n F (i := 2) (k := 2) dL_vessel_0 rfl rfl ?_
  refine zn_iconst F (v := 0) dL_vessel_1 (by decide) ?_
  refine zn_aload_n F (i := 0) (k := 0) dL_vessel_2 rfl rfl ?_
  refine zn_iload_n F (i := 1) (k := 1) dL_vessel_3 rfl rfl ?_
  refine zn_callX F (as := [.int a1]) (st := [.int 0, .ref q]) (j0 := 0) (zAx_z (E := "java/lang/IllegalStateException") (as := [zr 0 0 0, zi a1]) (Rg := [(2, [1, 2, 3]), (0, []), (0, []), (1, [])]) (Ms := [s0, s1, s2, s3]) (Ms' := [s0, b, s2, s3]) (zfWB_vessel a1 s0 s1 s2 s3 _ h) rfl ad1) dL_vessel_4 wcL_23 wyL_vessel rfl rfl (ci := 8) rfl rfl rfl (Nat.le_of_ble_eq_true rfl) (Nat.le_of_ble_eq_true rfl) (Nat.le_of_ble_eq_true rfl) (Nat.le_refl _) (Nat.le_refl _) ?_
  refine zE_catch F HX (pre := [(0, 9, 12, 13)]) (x := (0, 9, 15, 15)) (suf := []) rfl (by
    intro z hz
    simp only [List.mem_cons, List.not_mem_nil, or_false] at hz
    subst hz
    exact ⟨by decide, _, wkL_13, by decide +kernel⟩) (by decide) wkL_15 (by decide +kernel) fun q9 => ?_
  refine zn_astore_n F (i := 3) (lv' := [(3, .ref q9), (0, .ref (ad1 (0, 0, 0))), (1, .int a1), (2, .ref q)]) dL_vessel_15 rfl (by decide) rfl ?_
  refine zn_iconst F (v := 2) dL_vessel_16 (by decide) ?_
  exact zn_toX (zn_ireturn F T dL_vessel_17 ⟨rfl, rfl⟩ (Nat.le_refl _) (Nat.le_refl _))
theorem dL_nominate_0 : decode cL_nominate 0 = .ok (.aload_n 3, 1) := by decide +kernel
theorem dL_nominate_1 : decode cL_nominate 1 = .ok (.iconst 0, 1) := by decide +kernel
theorem dL_nominate_2 : decode cL_nominate 2 = .ok (.aload_n 0, 1) := by decide +kernel
theorem dL_nominate_3 : decode cL_nominate 3 = .ok (.iload_n 1, 1) := by decide +kernel
theorem dL_nominate_4 : decode cL_nominate 4 = .ok (.iload_n 2, 1) := by decide +kernel
theorem dL_nominate_5 : decode cL_nominate 5 = .ok (.invokevirtual 26, 3) := by decide +kernel
theorem dL_nominate_8 : decode cL_nominate 8 = .ok (.i2l, 1) := by decide +kernel
theorem dL_nominate_9 : decode cL_nominate 9 = .ok (.lastore, 1) := by decide +kernel
theorem dL_nominate_10 : decode cL_nominate 10 = .ok (.goto 7, 3) := by decide +kernel
theorem dL_nominate_13 : decode cL_nominate 13 = .ok (.astore 4, 2) := by decide +kernel
theorem dL_nominate_15 : decode cL_nominate 15 = .ok (.iconst 1, 1) := by decide +kernel
theorem dL_nominate_16 : decode cL_nominate 16 = .ok (.ireturn, 1) := by decide +kernel
theorem dL_nominate_17 : decode cL_nominate 17 = .ok (.iconst 0, 1) := by decide +kernel
theorem dL_nominate_18 : decode cL_nominate 18 = .ok (.ireturn, 1) := by decide +kernel
theorem wcL_26 : Cond.methodLink RL 26 yX9_nominate ∈ zTg ∧ Cond.instanceMethod yX9_nominate ∈ zTg ∧ Cond.selects "WakeBanks" yX9_nominate yX9_nominate ∈ zTg ∧ Cond.initialized "WakeBanks" ∈ zTg ∧ Cond.code yX9_nominate cX9_nominate 3 (some .int) ∈ zTg := ⟨zm_f 808 (by decide +kernel) rfl, zm_f 809 (by decide +kernel) rfl, zm_f 810 (by decide +kernel) rfl, zm_f 37 (by decide +kernel) rfl, zm_f 811 (by decide +kernel) rfl⟩
theorem wyL_nominate : yX9_nominate.cls = "WakeBanks" ∧ yX9_nominate.cls ≠ "java/lang/invoke/MethodHandle" ∧ yX9_nominate.cls ≠ "java/lang/invoke/VarHandle" ∧ (parseMethodDescriptor yX9_nominate.desc).map (fun d => d.parameters.length) = some 2 := by decide +kernel
set_option maxHeartbeats 1000000 in
set_option maxRecDepth 20000 in
theorem zwL_nominate (a1 : Int32) (a2 : Int32)  (s0 : zM) (s1 : zM) (s2 : zM) (s3 : zM) (q : Nat) (f : Nat → Int64) (ad1 : zR → Nat) : ∀ b, fWB_nominate a1 a2 s0 s1 s2 s3 = some (.inl b) → zAw yL_nominate cL_nominate 5 (some .int) [(0, 10, 13, 13)] 7 112 0 0 [.ref (ad1 (0, 0, 0)), .int a1, .int a2, .ref q] (fun cA => zwl cA ad1 [(2, [1, 2, 3]), (0, []), (0, []), (1, [])] [s0, s1, s2, s3] ++ [(q, .inl (cA 5, 1, .inr (.inl f)))]) (fun cA v ws => v = some (.int 0) ∧ ws = zwl cA ad1 [(2, [1, 2, 3]), (0, []), (0, []), (1, [])] [s0, b.2, s2, s3] ++ [(q, .inl (cA 5, 1, .inr (.inl (vp_updL f 0 b.1.toInt64))))]) := by
  intro b h
  refine zAw_of (by decide) (Nat.le_of_ble_eq_true rfl) fun X F T HX => ?_
  show zN X 0 0 7 112 _ 5 0 [(0, .ref (ad1 (0, 0, 0))), (1, .int a1), (2, .int a2), (3, .ref q)] [] (zwl (zcA X) ad1 [(2, [1, 2, 3]), (0, []), (0, []), (1, [])] [s0, s1, s2, s3] ++ [(q, .inl (zcA X 5, 1, .inr (.inl f)))]) 0 0
  refine zn_aload_n F (i := 3) (k := 3) dL_nominate_0 rfl rfl ?_
  refine zn_iconst F (v := 0) dL_nominate_1 (by decide) ?_
  refine zn_aload_n F (i := 0) (k := 0) dL_nominate_2 rfl rfl ?_
  refine zn_iload_n F (i := 1) (k := 1) dL_nominate_3 rfl rfl ?_
  refine zn_iload_n F (i := 2) (k := 2) dL_nominate_4 rfl rfl ?_
  refine zn_callV F (as := [.int a1, .int a2]) (st := [.int 0, .ref q]) (j0 := 0) (zAl_z (v := (some (zi b.1))) (as := [zr 0 0 0, zi a1, zi a2]) (Rg := [(2, [1, 2, 3]), (0, []), (0, []), (1, [])]) (Ms := [s0, s1, s2, s3]) (Ms' := [s0, b.2, s2, s3]) (zfWB_nominate a1 a2 s0 s1 s2 s3 _ h) rfl ad1) dL_nominate_5 wcL_26 wyL_nominate rfl rfl (ci := 8) rfl rfl rfl (Nat.le_of_ble_eq_true rfl) (Nat.le_of_ble_eq_true rfl) (Nat.le_of_ble_eq_true rfl) (Nat.le_refl _) (Nat.le_refl _) fun v w1 hB => ?_
  obtain ⟨rfl, rfl⟩ := hB
  refine zn_i2l F dL_nominate_8 ?_
  refine zn_lastE F dL_nominate_9 (by decide) rfl (vp_in_nI (n := 0) (by decide) (by decide)) (jn := 0) (by decide) ?_
  refine zn_goto F (tgt := 17) dL_nominate_10 (by decide) ?_
  refine zn_iconst F (v := 0) dL_nominate_17 (by decide) ?_
  exact zn_toX (zn_ireturn F T dL_nominate_18 ⟨rfl, rfl⟩ (Nat.le_refl _) (Nat.le_refl _))
set_option maxHeartbeats 1000000 in
set_option maxRecDepth 20000 in
theorem zwL_nominate_1 (a1 : Int32) (a2 : Int32)  (s0 : zM) (s1 : zM) (s2 : zM) (s3 : zM) (q : Nat) (f : Nat → Int64) (ad1 : zR → Nat) : ∀ b, fWB_nominate a1 a2 s0 s1 s2 s3 = some (.inr ("java/lang/IllegalArgumentException", b)) → zAw yL_nominate cL_nominate 5 (some .int) [(0, 10, 13, 13)] 7 112 1 6 [.ref (ad1 (0, 0, 0)), .int a1, .int a2, .ref q] (fun cA => zwl cA ad1 [(2, [1, 2, 3]), (0, []), (0, []), (1, [])] [s0, s1, s2, s3] ++ [(q, .inl (cA 5, 1, .inr (.inl f)))]) (fun cA v ws => v = some (.int 1) ∧ ws = zwl cA ad1 [(2, [1, 2, 3]), (0, []), (0, []), (1, [])] [s0, b, s2, s3] ++ [(q, .inl (cA 5, 1, .inr (.inl f)))]) := by
  intro b h
  refine zAw_of (by decide) (Nat.le_of_ble_eq_true rfl) fun X F T HX => ?_
  show zN X 1 6 7 112 _ 5 0 [(0, .ref (ad1 (0, 0, 0))), (1, .int a1), (2, .int a2), (3, .ref q)] [] (zwl (zcA X) ad1 [(2, [1, 2, 3]), (0, []), (0, []), (1, [])] [s0, s1, s2, s3] ++ [(q, .inl (zcA X 5, 1, .inr (.inl f)))]) 0 0
  refine zn_aload_n F (i := 3) (k := 3) dL_nominate_0 rfl rfl ?_
  refine zn_iconst F (v := 0) dL_nominate_1 (by decide) ?_
  refine zn_aload_n F (i := 0) (k := 0) dL_nominate_2 rfl rfl ?_
  refine zn_iload_n F (i := 1) (k := 1) dL_nominate_3 rfl rfl ?_
  refine zn_iload_n F (i := 2) (k := 2) dL_nominate_4 rfl rfl ?_
  refine zn_callX F (as := [.int a1, .int a2]) (st := [.int 0, .ref q]) (j0 := 0) (zAx_z (E := "java/lang/IllegalArgumentException") (as := [zr 0 0 0, zi a1, zi a2]) (Rg := [(2, [1, 2, 3]), (0, []), (0, []), (1, [])]) (Ms := [s0, s1, s2, s3]) (Ms' := [s0, b, s2, s3]) (zfWB_nominate a1 a2 s0 s1 s2 s3 _ h) rfl ad1) dL_nominate_5 wcL_26 wyL_nominate rfl rfl (ci := 8) rfl rfl rfl (Nat.le_of_ble_eq_true rfl) (Nat.le_of_ble_eq_true rfl) (Nat.le_of_ble_eq_true rfl) (Nat.le_refl _) (Nat.le_refl _) ?_
  refine zE_catch F HX (pre := []) (x := (0, 10, 13, 13)) (suf := []) rfl (fun z hz => nomatch hz) (by decide) wkL_13 (by decide +kernel) fun q9 => ?_
  refine zn_astore F (i := 4) (lv' := [(4, .ref q9), (0, .ref (ad1 (0, 0, 0))), (1, .int a1), (2, .int a2), (3, .ref q)]) dL_nominate_13 (by decide) rfl ?_
  refine zn_iconst F (v := 1) dL_nominate_15 (by decide) ?_
  exact zn_toX (zn_ireturn F T dL_nominate_16 ⟨rfl, rfl⟩ (Nat.le_refl _) (Nat.le_refl _))
theorem dL_blow_0 : decode cL_blow 0 = .ok (.aload 7, 2) := by decide +kernel
theorem dL_blow_2 : decode cL_blow 2 = .ok (.iconst 0, 1) := by decide +kernel
theorem dL_blow_3 : decode cL_blow 3 = .ok (.aload_n 0, 1) := by decide +kernel
theorem dL_blow_4 : decode cL_blow 4 = .ok (.iload_n 1, 1) := by decide +kernel
theorem dL_blow_5 : decode cL_blow 5 = .ok (.iload_n 2, 1) := by decide +kernel
theorem dL_blow_6 : decode cL_blow 6 = .ok (.iload_n 3, 1) := by decide +kernel
theorem dL_blow_7 : decode cL_blow 7 = .ok (.iload 4, 2) := by decide +kernel
theorem dL_blow_9 : decode cL_blow 9 = .ok (.iload 5, 2) := by decide +kernel
theorem dL_blow_11 : decode cL_blow 11 = .ok (.iload 6, 2) := by decide +kernel
theorem dL_blow_13 : decode cL_blow 13 = .ok (.invokevirtual 30, 3) := by decide +kernel
theorem dL_blow_16 : decode cL_blow 16 = .ok (.i2l, 1) := by decide +kernel
theorem dL_blow_17 : decode cL_blow 17 = .ok (.lastore, 1) := by decide +kernel
theorem dL_blow_18 : decode cL_blow 18 = .ok (.goto 7, 3) := by decide +kernel
theorem dL_blow_21 : decode cL_blow 21 = .ok (.astore 8, 2) := by decide +kernel
theorem dL_blow_23 : decode cL_blow 23 = .ok (.iconst 1, 1) := by decide +kernel
theorem dL_blow_24 : decode cL_blow 24 = .ok (.ireturn, 1) := by decide +kernel
theorem dL_blow_25 : decode cL_blow 25 = .ok (.iconst 0, 1) := by decide +kernel
theorem dL_blow_26 : decode cL_blow 26 = .ok (.ireturn, 1) := by decide +kernel
theorem wcL_30 : Cond.methodLink RL 30 yX9_blow ∈ zTg ∧ Cond.instanceMethod yX9_blow ∈ zTg ∧ Cond.selects "WakeBanks" yX9_blow yX9_blow ∈ zTg ∧ Cond.initialized "WakeBanks" ∈ zTg ∧ Cond.code yX9_blow cX9_blow 7 (some .int) ∈ zTg := ⟨zm_f 820 (by decide +kernel) rfl, zm_f 821 (by decide +kernel) rfl, zm_f 822 (by decide +kernel) rfl, zm_f 37 (by decide +kernel) rfl, zm_f 823 (by decide +kernel) rfl⟩
theorem wyL_blow : yX9_blow.cls = "WakeBanks" ∧ yX9_blow.cls ≠ "java/lang/invoke/MethodHandle" ∧ yX9_blow.cls ≠ "java/lang/invoke/VarHandle" ∧ (parseMethodDescriptor yX9_blow.desc).map (fun d => d.parameters.length) = some 6 := by decide +kernel
set_option maxHeartbeats 1000000 in
set_option maxRecDepth 20000 in
theorem zwL_blow (a1 : Int32) (a2 : Int32) (a3 : Int32) (a4 : Int32) (a5 : Int32) (a6 : Int32)  (s0 : zM) (s1 : zM) (s2 : zM) (s3 : zM) (q : Nat) (f : Nat → Int64) (ad1 : zR → Nat) : ∀ b, fWB_blow a1 a2 a3 a4 a5 a6 s0 s1 s2 s3 = some (.inl b) → zAw yL_blow cL_blow 9 (some .int) [(0, 18, 21, 13)] 7 159 0 0 [.ref (ad1 (0, 0, 0)), .int a1, .int a2, .int a3, .int a4, .int a5, .int a6, .ref q] (fun cA => zwl cA ad1 [(2, [1, 2, 3]), (0, []), (0, []), (1, [])] [s0, s1, s2, s3] ++ [(q, .inl (cA 5, 1, .inr (.inl f)))]) (fun cA v ws => v = some (.int 0) ∧ ws = zwl cA ad1 [(2, [1, 2, 3]), (0, []), (0, []), (1, [])] [s0, b.2, s2, s3] ++ [(q, .inl (cA 5, 1, .inr (.inl (vp_updL f 0 b.1.toInt64))))]) := by
  intro b h
  refine zAw_of (by decide) (Nat.le_of_ble_eq_true rfl) fun X F T HX => ?_
  show zN X 0 0 7 159 _ 9 0 [(0, .ref (ad1 (0, 0, 0))), (1, .int a1), (2, .int a2), (3, .int a3), (4, .int a4), (5, .int a5), (6, .int a6), (7, .ref q)] [] (zwl (zcA X) ad1 [(2, [1, 2, 3]), (0, []), (0, []), (1, [])] [s0, s1, s2, s3] ++ [(q, .inl (zcA X 5, 1, .inr (.inl f)))]) 0 0
  refine zn_aload F (i := 7) (k := 7) dL_blow_0 rfl ?_
  refine zn_iconst F (v := 0) dL_blow_2 (by decide) ?_
  refine zn_aload_n F (i := 0) (k := 0) dL_blow_3 rfl rfl ?_
  refine zn_iload_n F (i := 1) (k := 1) dL_blow_4 rfl rfl ?_
  refine zn_iload_n F (i := 2) (k := 2) dL_blow_5 rfl rfl ?_
  refine zn_iload_n F (i := 3) (k := 3) dL_blow_6 rfl rfl ?_
  refine zn_iload F (i := 4) (k := 4) dL_blow_7 rfl ?_
  refine zn_iload F (i := 5) (k := 5) dL_blow_9 rfl ?_
  refine zn_iload F (i := 6) (k := 6) dL_blow_11 rfl ?_
  refine zn_callV F (as := [.int a1, .int a2, .int a3, .int a4, .int a5, .int a6]) (st := [.int 0, .ref q]) (j0 := 0) (zAl_z (v := (some (zi b.1))) (as := [zr 0 0 0, zi a1, zi a2, zi a3, zi a4, zi a5, zi a6]) (Rg := [(2, [1, 2, 3]), (0, []), (0, []), (1, [])]) (Ms := [s0, s1, s2, s3]) (Ms' := [s0, b.2, s2, s3]) (zfWB_blow a1 a2 a3 a4 a5 a6 s0 s1 s2 s3 _ h) rfl ad1) dL_blow_13 wcL_30 wyL_blow rfl rfl (ci := 8) rfl rfl rfl (Nat.le_of_ble_eq_true rfl) (Nat.le_of_ble_eq_true rfl) (Nat.le_of_ble_eq_true rfl) (Nat.le_refl _) (Nat.le_refl _) fun v w1 hB => ?_
  obtain ⟨rfl, rfl⟩ := hB
  refine zn_i2l F dL_blow_16 ?_
  refine zn_lastE F dL_blow_17 (by decide) rfl (vp_in_nI (n := 0) (by decide) (by decide)) (jn := 0) (by decide) ?_
  refine zn_goto F (tgt := 25) dL_blow_18 (by decide) ?_
  refine zn_iconst F (v := 0) dL_blow_25 (by decide) ?_
  exact zn_toX (zn_ireturn F T dL_blow_26 ⟨rfl, rfl⟩ (Nat.le_refl _) (Nat.le_refl _))
set_option maxHeartbeats 1000000 in
set_option maxRecDepth 20000 in
theorem zwL_blow_1 (a1 : Int32) (a2 : Int32) (a3 : Int32) (a4 : Int32) (a5 : Int32) (a6 : Int32)  (s0 : zM) (s1 : zM) (s2 : zM) (s3 : zM) (q : Nat) (f : Nat → Int64) (ad1 : zR → Nat) : ∀ b, fWB_blow a1 a2 a3 a4 a5 a6 s0 s1 s2 s3 = some (.inr ("java/lang/IllegalArgumentException", b)) → zAw yL_blow cL_blow 9 (some .int) [(0, 18, 21, 13)] 7 159 1 6 [.ref (ad1 (0, 0, 0)), .int a1, .int a2, .int a3, .int a4, .int a5, .int a6, .ref q] (fun cA => zwl cA ad1 [(2, [1, 2, 3]), (0, []), (0, []), (1, [])] [s0, s1, s2, s3] ++ [(q, .inl (cA 5, 1, .inr (.inl f)))]) (fun cA v ws => v = some (.int 1) ∧ ws = zwl cA ad1 [(2, [1, 2, 3]), (0, []), (0, []), (1, [])] [s0, b, s2, s3] ++ [(q, .inl (cA 5, 1, .inr (.inl f)))]) := by
  intro b h
  refine zAw_of (by decide) (Nat.le_of_ble_eq_true rfl) fun X F T HX => ?_
  show zN X 1 6 7 159 _ 9 0 [(0, .ref (ad1 (0, 0, 0))), (1, .int a1), (2, .int a2), (3, .int a3), (4, .int a4), (5, .int a5), (6, .int a6), (7, .ref q)] [] (zwl (zcA X) ad1 [(2, [1, 2, 3]), (0, []), (0, []), (1, [])] [s0, s1, s2, s3] ++ [(q, .inl (zcA X 5, 1, .inr (.inl f)))]) 0 0
  refine zn_aload F (i := 7) (k := 7) dL_blow_0 rfl ?_
  refine zn_iconst F (v := 0) dL_blow_2 (by decide) ?_
  refine zn_aload_n F (i := 0) (k := 0) dL_blow_3 rfl rfl ?_
  refine zn_iload_n F (i := 1) (k := 1) dL_blow_4 rfl rfl ?_
  refine zn_iload_n F (i := 2) (k := 2) dL_blow_5 rfl rfl ?_
  refine zn_iload_n F (i := 3) (k := 3) dL_blow_6 rfl rfl ?_
  refine zn_iload F (i := 4) (k := 4) dL_blow_7 rfl ?_
  refine zn_iload F (i := 5) (k := 5) dL_blow_9 rfl ?_
  refine zn_iload F (i := 6) (k := 6) dL_blow_11 rfl ?_
  refine zn_callX F (as := [.int a1, .int a2, .int a3, .int a4, .int a5, .int a6]) (st := [.int 0, .ref q]) (j0 := 0) (zAx_z (E := "java/lang/IllegalArgumentException") (as := [zr 0 0 0, zi a1, zi a2, zi a3, zi a4, zi a5, zi a6]) (Rg := [(2, [1, 2, 3]), (0, []), (0, []), (1, [])]) (Ms := [s0, s1, s2, s3]) (Ms' := [s0, b, s2, s3]) (zfWB_blow a1 a2 a3 a4 a5 a6 s0 s1 s2 s3 _ h) rfl ad1) dL_blow_13 wcL_30 wyL_blow rfl rfl (ci := 8) rfl rfl rfl (Nat.le_of_ble_eq_true rfl) (Nat.le_of_ble_eq_true rfl) (Nat.le_of_ble_eq_true rfl) (Nat.le_refl _) (Nat.le_refl _) ?_
  refine zE_catch F HX (pre := []) (x := (0, 18, 21, 13)) (suf := []) rfl (fun z hz => nomatch hz) (by decide) wkL_13 (by decide +kernel) fun q9 => ?_
  refine zn_astore F (i := 8) (lv' := [(8, .ref q9), (0, .ref (ad1 (0, 0, 0))), (1, .int a1), (2, .int a2), (3, .int a3), (4, .int a4), (5, .int a5), (6, .int a6), (7, .ref q)]) dL_blow_21 (by decide) rfl ?_
  refine zn_iconst F (v := 1) dL_blow_23 (by decide) ?_
  exact zn_toX (zn_ireturn F T dL_blow_24 ⟨rfl, rfl⟩ (Nat.le_refl _) (Nat.le_refl _))
theorem dL_turn_0 : decode cL_turn 0 = .ok (.aload_n 3, 1) := by decide +kernel
theorem dL_turn_1 : decode cL_turn 1 = .ok (.iconst 0, 1) := by decide +kernel
theorem dL_turn_2 : decode cL_turn 2 = .ok (.aload_n 0, 1) := by decide +kernel
theorem dL_turn_3 : decode cL_turn 3 = .ok (.iload_n 1, 1) := by decide +kernel
theorem dL_turn_4 : decode cL_turn 4 = .ok (.iload_n 2, 1) := by decide +kernel
theorem dL_turn_5 : decode cL_turn 5 = .ok (.invokevirtual 34, 3) := by decide +kernel
theorem dL_turn_8 : decode cL_turn 8 = .ok (.i2l, 1) := by decide +kernel
theorem dL_turn_9 : decode cL_turn 9 = .ok (.lastore, 1) := by decide +kernel
theorem dL_turn_10 : decode cL_turn 10 = .ok (.goto 11, 3) := by decide +kernel
theorem dL_turn_13 : decode cL_turn 13 = .ok (.astore 4, 2) := by decide +kernel
theorem dL_turn_15 : decode cL_turn 15 = .ok (.iconst 1, 1) := by decide +kernel
theorem dL_turn_16 : decode cL_turn 16 = .ok (.ireturn, 1) := by decide +kernel
theorem dL_turn_17 : decode cL_turn 17 = .ok (.astore 4, 2) := by decide +kernel
theorem dL_turn_19 : decode cL_turn 19 = .ok (.iconst 2, 1) := by decide +kernel
theorem dL_turn_20 : decode cL_turn 20 = .ok (.ireturn, 1) := by decide +kernel
theorem dL_turn_21 : decode cL_turn 21 = .ok (.iconst 0, 1) := by decide +kernel
theorem dL_turn_22 : decode cL_turn 22 = .ok (.ireturn, 1) := by decide +kernel
theorem wcL_34 : Cond.methodLink RL 34 yX9_turn ∈ zTg ∧ Cond.instanceMethod yX9_turn ∈ zTg ∧ Cond.selects "WakeBanks" yX9_turn yX9_turn ∈ zTg ∧ Cond.initialized "WakeBanks" ∈ zTg ∧ Cond.code yX9_turn cX9_turn 5 (some .int) ∈ zTg := ⟨zm_f 829 (by decide +kernel) rfl, zm_f 830 (by decide +kernel) rfl, zm_f 831 (by decide +kernel) rfl, zm_f 37 (by decide +kernel) rfl, zm_f 832 (by decide +kernel) rfl⟩
theorem wyL_turn : yX9_turn.cls = "WakeBanks" ∧ yX9_turn.cls ≠ "java/lang/invoke/MethodHandle" ∧ yX9_turn.cls ≠ "java/lang/invoke/VarHandle" ∧ (parseMethodDescriptor yX9_turn.desc).map (fun d => d.parameters.length) = some 2 := by decide +kernel
set_option maxHeartbeats 1000000 in
set_option maxRecDepth 20000 in
theorem zwL_turn (a1 : Int32) (a2 : Int32)  (s0 : zM) (s1 : zM) (s2 : zM) (s3 : zM) (q : Nat) (f : Nat → Int64) (ad1 : zR → Nat) : ∀ b, fWB_turn a1 a2 s0 s1 s2 s3 = some (.inl b) → zAw yL_turn cL_turn 5 (some .int) [(0, 10, 13, 21), (0, 10, 17, 13)] 8 135 0 0 [.ref (ad1 (0, 0, 0)), .int a1, .int a2, .ref q] (fun cA => zwl cA ad1 [(2, [1, 2, 3]), (0, []), (0, []), (1, [])] [s0, s1, s2, s3] ++ [(q, .inl (cA 5, 1, .inr (.inl f)))]) (fun cA v ws => v = some (.int 0) ∧ ws = zwl cA ad1 [(2, [1, 2, 3]), (0, []), (0, []), (1, [])] [s0, b.2, s2, s3] ++ [(q, .inl (cA 5, 1, .inr (.inl (vp_updL f 0 b.1.toInt64))))]) := by
  intro b h
  refine zAw_of (by decide) (Nat.le_of_ble_eq_true rfl) fun X F T HX => ?_
  show zN X 0 0 8 135 _ 5 0 [(0, .ref (ad1 (0, 0, 0))), (1, .int a1), (2, .int a2), (3, .ref q)] [] (zwl (zcA X) ad1 [(2, [1, 2, 3]), (0, []), (0, []), (1, [])] [s0, s1, s2, s3] ++ [(q, .inl (zcA X 5, 1, .inr (.inl f)))]) 0 0
  refine zn_aload_n F (i := 3) (k := 3) dL_turn_0 rfl rfl ?_
  refine zn_iconst F (v := 0) dL_turn_1 (by decide) ?_
  refine zn_aload_n F (i := 0) (k := 0) dL_turn_2 rfl rfl ?_
  refine zn_iload_n F (i := 1) (k := 1) dL_turn_3 rfl rfl ?_
  refine zn_iload_n F (i := 2) (k := 2) dL_turn_4 rfl rfl ?_
  refine zn_callV F (as := [.int a1, .int a2]) (st := [.int 0, .ref q]) (j0 := 0) (zAl_z (v := (some (zi b.1))) (as := [zr 0 0 0, zi a1, zi a2]) (Rg := [(2, [1, 2, 3]), (0, []), (0, []), (1, [])]) (Ms := [s0, s1, s2, s3]) (Ms' := [s0, b.2, s2, s3]) (zfWB_turn a1 a2 s0 s1 s2 s3 _ h) rfl ad1) dL_turn_5 wcL_34 wyL_turn rfl rfl (ci := 8) rfl rfl rfl (Nat.le_of_ble_eq_true rfl) (Nat.le_of_ble_eq_true rfl) (Nat.le_of_ble_eq_true rfl) (Nat.le_refl _) (Nat.le_refl _) fun v w1 hB => ?_
  obtain ⟨rfl, rfl⟩ := hB
  refine zn_i2l F dL_turn_8 ?_
  refine zn_lastE F dL_turn_9 (by decide) rfl (vp_in_nI (n := 0) (by decide) (by decide)) (jn := 0) (by decide) ?_
  refine zn_goto F (tgt := 21) dL_turn_10 (by decide) ?_
  refine zn_iconst F (v := 0) dL_turn_21 (by decide) ?_
  exact zn_toX (zn_ireturn F T dL_turn_22 ⟨rfl, rfl⟩ (Nat.le_refl _) (Nat.le_refl _))
set_option maxHeartbeats 1000000 in
set_option maxRecDepth 20000 in
theorem zwL_turn_1 (a1 : Int32) (a2 : Int32)  (s0 : zM) (s1 : zM) (s2 : zM) (s3 : zM) (q : Nat) (f : Nat → Int64) (ad1 : zR → Nat) : ∀ b, fWB_turn a1 a2 s0 s1 s2 s3 = some (.inr ("java/lang/IndexOutOfBoundsException", b)) → zAw yL_turn cL_turn 5 (some .int) [(0, 10, 13, 21), (0, 10, 17, 13)] 8 135 1 6 [.ref (ad1 (0, 0, 0)), .int a1, .int a2, .ref q] (fun cA => zwl cA ad1 [(2, [1, 2, 3]), (0, []), (0, []), (1, [])] [s0, s1, s2, s3] ++ [(q, .inl (cA 5, 1, .inr (.inl f)))]) (fun cA v ws => v = some (.int 1) ∧ ws = zwl cA ad1 [(2, [1, 2, 3]), (0, []), (0, []), (1, [])] [s0, b, s2, s3] ++ [(q, .inl (cA 5, 1, .inr (.inl f)))]) := by
  intro b h
  refine zAw_of (by decide) (Nat.le_of_ble_eq_true rfl) fun X F T HX => ?_
  show zN X 1 6 8 135 _ 5 0 [(0, .ref (ad1 (0, 0, 0))), (1, .int a1), (2, .int a2), (3, .ref q)] [] (zwl (zcA X) ad1 [(2, [1, 2, 3]), (0, []), (0, []), (1, [])] [s0, s1, s2, s3] ++ [(q, .inl (zcA X 5, 1, .inr (.inl f)))]) 0 0
  refine zn_aload_n F (i := 3) (k := 3) dL_turn_0 rfl rfl ?_
  refine zn_iconst F (v := 0) dL_turn_1 (by decide) ?_
  refine zn_aload_n F (i := 0) (k := 0) dL_turn_2 rfl rfl ?_
  refine zn_iload_n F (i := 1) (k := 1) dL_turn_3 rfl rfl ?_
  refine zn_iload_n F (i := 2) (k := 2) dL_turn_4 rfl rfl ?_
  refine zn_callX F (as := [.int a1, .int a2]) (st := [.int 0, .ref q]) (j0 := 0) (zAx_z (E := "java/lang/IndexOutOfBoundsException") (as := [zr 0 0 0, zi a1, zi a2]) (Rg := [(2, [1, 2, 3]), (0, []), (0, []), (1, [])]) (Ms := [s0, s1, s2, s3]) (Ms' := [s0, b, s2, s3]) (zfWB_turn a1 a2 s0 s1 s2 s3 _ h) rfl ad1) dL_turn_5 wcL_34 wyL_turn rfl rfl (ci := 8) rfl rfl rfl (Nat.le_of_ble_eq_true rfl) (Nat.le_of_ble_eq_true rfl) (Nat.le_of_ble_eq_true rfl) (Nat.le_refl _) (Nat.le_refl _) ?_
  refine zE_catch F HX (pre := []) (x := (0, 10, 13, 21)) (suf := [(0, 10, 17, 13)]) rfl (fun z hz => nomatch hz) (by decide) wkL_21 (by decide +kernel) fun q9 => ?_
  refine zn_astore F (i := 4) (lv' := [(4, .ref q9), (0, .ref (ad1 (0, 0, 0))), (1, .int a1), (2, .int a2), (3, .ref q)]) dL_turn_13 (by decide) rfl ?_
  refine zn_iconst F (v := 1) dL_turn_15 (by decide) ?_
  exact zn_toX (zn_ireturn F T dL_turn_16 ⟨rfl, rfl⟩ (Nat.le_refl _) (Nat.le_refl _))
set_option maxHeartbeats 1000000 in
set_option maxRecDepth 20000 in
theorem zwL_turn_2 (a1 : Int32) (a2 : Int32)  (s0 : zM) (s1 : zM) (s2 : zM) (s3 : zM) (q : Nat) (f : Nat → Int64) (ad1 : zR → Nat) : ∀ b, fWB_turn a1 a2 s0 s1 s2 s3 = some (.inr ("java/lang/IllegalArgumentException", b)) → zAw yL_turn cL_turn 5 (some .int) [(0, 10, 13, 21), (0, 10, 17, 13)] 8 135 1 6 [.ref (ad1 (0, 0, 0)), .int a1, .int a2, .ref q] (fun cA => zwl cA ad1 [(2, [1, 2, 3]), (0, []), (0, []), (1, [])] [s0, s1, s2, s3] ++ [(q, .inl (cA 5, 1, .inr (.inl f)))]) (fun cA v ws => v = some (.int 2) ∧ ws = zwl cA ad1 [(2, [1, 2, 3]), (0, []), (0, []), (1, [])] [s0, b, s2, s3] ++ [(q, .inl (cA 5, 1, .inr (.inl f)))]) := by
  intro b h
  refine zAw_of (by decide) (Nat.le_of_ble_eq_true rfl) fun X F T HX => ?_
  show zN X 1 6 8 135 _ 5 0 [(0, .ref (ad1 (0, 0, 0))), (1, .int a1), (2, .int a2), (3, .ref q)] [] (zwl (zcA X) ad1 [(2, [1, 2, 3]), (0, []), (0, []), (1, [])] [s0, s1, s2, s3] ++ [(q, .inl (zcA X 5, 1, .inr (.inl f)))]) 0 0
  refine zn_aload_n F (i := 3) (k := 3) dL_turn_0 rfl rfl ?_
  refine zn_iconst F (v := 0) dL_turn_1 (by decide) ?_
  refine zn_aload_n F (i := 0) (k := 0) dL_turn_2 rfl rfl ?_
  refine zn_iload_n F (i := 1) (k := 1) dL_turn_3 rfl rfl ?_
  refine zn_iload_n F (i := 2) (k := 2) dL_turn_4 rfl rfl ?_
  refine zn_callX F (as := [.int a1, .int a2]) (st := [.int 0, .ref q]) (j0 := 0) (zAx_z (E := "java/lang/IllegalArgumentException") (as := [zr 0 0 0, zi a1, zi a2]) (Rg := [(2, [1, 2, 3]), (0, []), (0, []), (1, [])]) (Ms := [s0, s1, s2, s3]) (Ms' := [s0, b, s2, s3]) (zfWB_turn a1 a2 s0 s1 s2 s3 _ h) rfl ad1) dL_turn_5 wcL_34 wyL_turn rfl rfl (ci := 8) rfl rfl rfl (Nat.le_of_ble_eq_true rfl) (Nat.le_of_ble_eq_true rfl) (Nat.le_of_ble_eq_true rfl) (Nat.le_refl _) (Nat.le_refl _) ?_
  refine zE_catch F HX (pre := [(0, 10, 13, 21)]) (x := (0, 10, 17, 13)) (suf := []) rfl (by
    intro z hz
    simp only [List.mem_cons, List.not_mem_nil, or_false] at hz
    subst hz
    exact ⟨by decide, _, wkL_21, by decide +kernel⟩) (by decide) wkL_13 (by decide +kernel) fun q9 => ?_
  refine zn_astore F (i := 4) (lv' := [(4, .ref q9), (0, .ref (ad1 (0, 0, 0))), (1, .int a1), (2, .int a2), (3, .ref q)]) dL_turn_17 (by decide) rfl ?_
  refine zn_iconst F (v := 2) dL_turn_19 (by decide) ?_
  exact zn_toX (zn_ireturn F T dL_turn_20 ⟨rfl, rfl⟩ (Nat.le_refl _) (Nat.le_refl _))
theorem dL_call_0 : decode cL_call 0 = .ok (.aload_n 3, 1) := by decide +kernel
theorem dL_call_1 : decode cL_call 1 = .ok (.iconst 0, 1) := by decide +kernel
theorem dL_call_2 : decode cL_call 2 = .ok (.aload_n 0, 1) := by decide +kernel
theorem dL_call_3 : decode cL_call 3 = .ok (.iload_n 1, 1) := by decide +kernel
theorem dL_call_4 : decode cL_call 4 = .ok (.iload_n 2, 1) := by decide +kernel
theorem dL_call_5 : decode cL_call 5 = .ok (.invokevirtual 37, 3) := by decide +kernel
theorem dL_call_8 : decode cL_call 8 = .ok (.i2l, 1) := by decide +kernel
theorem dL_call_9 : decode cL_call 9 = .ok (.lastore, 1) := by decide +kernel
theorem dL_call_10 : decode cL_call 10 = .ok (.goto 11, 3) := by decide +kernel
theorem dL_call_13 : decode cL_call 13 = .ok (.astore 4, 2) := by decide +kernel
theorem dL_call_15 : decode cL_call 15 = .ok (.iconst 1, 1) := by decide +kernel
theorem dL_call_16 : decode cL_call 16 = .ok (.ireturn, 1) := by decide +kernel
theorem dL_call_17 : decode cL_call 17 = .ok (.astore 4, 2) := by decide +kernel
theorem dL_call_19 : decode cL_call 19 = .ok (.iconst 2, 1) := by decide +kernel
theorem dL_call_20 : decode cL_call 20 = .ok (.ireturn, 1) := by decide +kernel
theorem dL_call_21 : decode cL_call 21 = .ok (.iconst 0, 1) := by decide +kernel
theorem dL_call_22 : decode cL_call 22 = .ok (.ireturn, 1) := by decide +kernel
theorem wcL_37 : Cond.methodLink RL 37 yX9_call ∈ zTg ∧ Cond.instanceMethod yX9_call ∈ zTg ∧ Cond.selects "WakeBanks" yX9_call yX9_call ∈ zTg ∧ Cond.initialized "WakeBanks" ∈ zTg ∧ Cond.code yX9_call cX9_call 5 (some .int) ∈ zTg := ⟨zm_f 837 (by decide +kernel) rfl, zm_f 838 (by decide +kernel) rfl, zm_f 839 (by decide +kernel) rfl, zm_f 37 (by decide +kernel) rfl, zm_f 840 (by decide +kernel) rfl⟩
theorem wyL_call : yX9_call.cls = "WakeBanks" ∧ yX9_call.cls ≠ "java/lang/invoke/MethodHandle" ∧ yX9_call.cls ≠ "java/lang/invoke/VarHandle" ∧ (parseMethodDescriptor yX9_call.desc).map (fun d => d.parameters.length) = some 2 := by decide +kernel
set_option maxHeartbeats 1000000 in
set_option maxRecDepth 20000 in
theorem zwL_call (a1 : Int32) (a2 : Int32)  (s0 : zM) (s1 : zM) (s2 : zM) (s3 : zM) (q : Nat) (f : Nat → Int64) (ad1 : zR → Nat) : ∀ b, fWB_call a1 a2 s0 s1 s2 s3 = some (.inl b) → zAw yL_call cL_call 5 (some .int) [(0, 10, 13, 21), (0, 10, 17, 15)] 8 135 0 0 [.ref (ad1 (0, 0, 0)), .int a1, .int a2, .ref q] (fun cA => zwl cA ad1 [(2, [1, 2, 3]), (0, []), (0, []), (1, [])] [s0, s1, s2, s3] ++ [(q, .inl (cA 5, 1, .inr (.inl f)))]) (fun cA v ws => v = some (.int 0) ∧ ws = zwl cA ad1 [(2, [1, 2, 3]), (0, []), (0, []), (1, [])] [s0, b.2, s2, s3] ++ [(q, .inl (cA 5, 1, .inr (.inl (vp_updL f 0 b.1.toInt64))))]) := by
  intro b h
  refine zAw_of (by decide) (Nat.le_of_ble_eq_true rfl) fun X F T HX => ?_
  show zN X 0 0 8 135 _ 5 0 [(0, .ref (ad1 (0, 0, 0))), (1, .int a1), (2, .int a2), (3, .ref q)] [] (zwl (zcA X) ad1 [(2, [1, 2, 3]), (0, []), (0, []), (1, [])] [s0, s1, s2, s3] ++ [(q, .inl (zcA X 5, 1, .inr (.inl f)))]) 0 0
  refine zn_aload_n F (i := 3) (k := 3) dL_call_0 rfl rfl ?_
  refine zn_iconst F (v := 0) dL_call_1 (by decide) ?_
  refine zn_aload_n F (i := 0) (k := 0) dL_call_2 rfl rfl ?_
  refine zn_iload_n F (i := 1) (k := 1) dL_call_3 rfl rfl ?_
  refine zn_iload_n F (i := 2) (k := 2) dL_call_4 rfl rfl ?_
  refine zn_callV F (as := [.int a1, .int a2]) (st := [.int 0, .ref q]) (j0 := 0) (zAl_z (v := (some (zi b.1))) (as := [zr 0 0 0, zi a1, zi a2]) (Rg := [(2, [1, 2, 3]), (0, []), (0, []), (1, [])]) (Ms := [s0, s1, s2, s3]) (Ms' := [s0, b.2, s2, s3]) (zfWB_call a1 a2 s0 s1 s2 s3 _ h) rfl ad1) dL_call_5 wcL_37 wyL_call rfl rfl (ci := 8) rfl rfl rfl (Nat.le_of_ble_eq_true rfl) (Nat.le_of_ble_eq_true rfl) (Nat.le_of_ble_eq_true rfl) (Nat.le_refl _) (Nat.le_refl _) fun v w1 hB => ?_
  obtain ⟨rfl, rfl⟩ := hB
  refine zn_i2l F dL_call_8 ?_
  refine zn_lastE F dL_call_9 (by decide) rfl (vp_in_nI (n := 0) (by decide) (by decide)) (jn := 0) (by decide) ?_
  refine zn_goto F (tgt := 21) dL_call_10 (by decide) ?_
  refine zn_iconst F (v := 0) dL_call_21 (by decide) ?_
  exact zn_toX (zn_ireturn F T dL_call_22 ⟨rfl, rfl⟩ (Nat.le_refl _) (Nat.le_refl _))
set_option maxHeartbeats 1000000 in
set_option maxRecDepth 20000 in
theorem zwL_call_1 (a1 : Int32) (a2 : Int32)  (s0 : zM) (s1 : zM) (s2 : zM) (s3 : zM) (q : Nat) (f : Nat → Int64) (ad1 : zR → Nat) : ∀ b, fWB_call a1 a2 s0 s1 s2 s3 = some (.inr ("java/lang/IndexOutOfBoundsException", b)) → zAw yL_call cL_call 5 (some .int) [(0, 10, 13, 21), (0, 10, 17, 15)] 8 135 1 6 [.ref (ad1 (0, 0, 0)), .int a1, .int a2, .ref q] (fun cA => zwl cA ad1 [(2, [1, 2, 3]), (0, []), (0, []), (1, [])] [s0, s1, s2, s3] ++ [(q, .inl (cA 5, 1, .inr (.inl f)))]) (fun cA v ws => v = some (.int 1) ∧ ws = zwl cA ad1 [(2, [1, 2, 3]), (0, []), (0, []), (1, [])] [s0, b, s2, s3] ++ [(q, .inl (cA 5, 1, .inr (.inl f)))]) := by
  intro b h
  refine zAw_of (by decide) (Nat.le_of_ble_eq_true rfl) fun X F T HX => ?_
  show zN X 1 6 8 135 _ 5 0 [(0, .ref (ad1 (0, 0, 0))), (1, .int a1), (2, .int a2), (3, .ref q)] [] (zwl (zcA X) ad1 [(2, [1, 2, 3]), (0, []), (0, []), (1, [])] [s0, s1, s2, s3] ++ [(q, .inl (zcA X 5, 1, .inr (.inl f)))]) 0 0
  refine zn_aload_n F (i := 3) (k := 3) dL_call_0 rfl rfl ?_
  refine zn_iconst F (v := 0) dL_call_1 (by decide) ?_
  refine zn_aload_n F (i := 0) (k := 0) dL_call_2 rfl rfl ?_
  refine zn_iload_n F (i := 1) (k := 1) dL_call_3 rfl rfl ?_
  refine zn_iload_n F (i := 2) (k := 2) dL_call_4 rfl rfl ?_
  refine zn_callX F (as := [.int a1, .int a2]) (st := [.int 0, .ref q]) (j0 := 0) (zAx_z (E := "java/lang/IndexOutOfBoundsException") (as := [zr 0 0 0, zi a1, zi a2]) (Rg := [(2, [1, 2, 3]), (0, []), (0, []), (1, [])]) (Ms := [s0, s1, s2, s3]) (Ms' := [s0, b, s2, s3]) (zfWB_call a1 a2 s0 s1 s2 s3 _ h) rfl ad1) dL_call_5 wcL_37 wyL_call rfl rfl (ci := 8) rfl rfl rfl (Nat.le_of_ble_eq_true rfl) (Nat.le_of_ble_eq_true rfl) (Nat.le_of_ble_eq_true rfl) (Nat.le_refl _) (Nat.le_refl _) ?_
  refine zE_catch F HX (pre := []) (x := (0, 10, 13, 21)) (suf := [(0, 10, 17, 15)]) rfl (fun z hz => nomatch hz) (by decide) wkL_21 (by decide +kernel) fun q9 => ?_
  refine zn_astore F (i := 4) (lv' := [(4, .ref q9), (0, .ref (ad1 (0, 0, 0))), (1, .int a1), (2, .int a2), (3, .ref q)]) dL_call_13 (by decide) rfl ?_
  refine zn_iconst F (v := 1) dL_call_15 (by decide) ?_
  exact zn_toX (zn_ireturn F T dL_call_16 ⟨rfl, rfl⟩ (Nat.le_refl _) (Nat.le_refl _))
set_option maxHeartbeats 1000000 in
set_option maxRecDepth 20000 in
theorem zwL_call_2 (a1 : Int32) (a2 : Int32)  (s0 : zM) (s1 : zM) (s2 : zM) (s3 : zM) (q : Nat) (f : Nat → Int64) (ad1 : zR → Nat) : ∀ b, fWB_call a1 a2 s0 s1 s2 s3 = some (.inr ("java/lang/IllegalStateException", b)) → zAw yL_call cL_call 5 (some .int) [(0, 10, 13, 21), (0, 10, 17, 15)] 8 135 1 6 [.ref (ad1 (0, 0, 0)), .int a1, .int a2, .ref q] (fun cA => zwl cA ad1 [(2, [1, 2, 3]), (0, []), (0, []), (1, [])] [s0, s1, s2, s3] ++ [(q, .inl (cA 5, 1, .inr (.inl f)))]) (fun cA v ws => v = some (.int 2) ∧ ws = zwl cA ad1 [(2, [1, 2, 3]), (0, []), (0, []), (1, [])] [s0, b, s2, s3] ++ [(q, .inl (cA 5, 1, .inr (.inl f)))]) := by
  intro b h
  refine zAw_of (by decide) (Nat.le_of_ble_eq_true rfl) fun X F T HX => ?_
  show zN X 1 6 8 135 _ 5 0 [(0, .ref (ad1 (0, 0, 0))), (1, .int a1), (2, .int a2), (3, .ref q)] [] (zwl (zcA X) ad1 [(2, [1, 2, 3]), (0, []), (0, []), (1, [])] [s0, s1, s2, s3] ++ [(q, .inl (zcA X 5, 1, .inr (.inl f)))]) 0 0
  refine zn_aload_n F (i := 3) (k := 3) dL_call_0 rfl rfl ?_
  refine zn_iconst F (v := 0) dL_call_1 (by decide) ?_
  refine zn_aload_n F (i := 0) (k := 0) dL_call_2 rfl rfl ?_
  refine zn_iload_n F (i := 1) (k := 1) dL_call_3 rfl rfl ?_
  refine zn_iload_n F (i := 2) (k := 2) dL_call_4 rfl rfl ?_
  refine zn_callX F (as := [.int a1, .int a2]) (st := [.int 0, .ref q]) (j0 := 0) (zAx_z (E := "java/lang/IllegalStateException") (as := [zr 0 0 0, zi a1, zi a2]) (Rg := [(2, [1, 2, 3]), (0, []), (0, []), (1, [])]) (Ms := [s0, s1, s2, s3]) (Ms' := [s0, b, s2, s3]) (zfWB_call a1 a2 s0 s1 s2 s3 _ h) rfl ad1) dL_call_5 wcL_37 wyL_call rfl rfl (ci := 8) rfl rfl rfl (Nat.le_of_ble_eq_true rfl) (Nat.le_of_ble_eq_true rfl) (Nat.le_of_ble_eq_true rfl) (Nat.le_refl _) (Nat.le_refl _) ?_
  refine zE_catch F HX (pre := [(0, 10, 13, 21)]) (x := (0, 10, 17, 15)) (suf := []) rfl (by
    intro z hz
    simp only [List.mem_cons, List.not_mem_nil, or_false] at hz
    subst hz
    exact ⟨by decide, _, wkL_21, by decide +kernel⟩) (by decide) wkL_15 (by decide +kernel) fun q9 => ?_
  refine zn_astore F (i := 4) (lv' := [(4, .ref q9), (0, .ref (ad1 (0, 0, 0))), (1, .int a1), (2, .int a2), (3, .ref q)]) dL_call_17 (by decide) rfl ?_
  refine zn_iconst F (v := 2) dL_call_19 (by decide) ?_
  exact zn_toX (zn_ireturn F T dL_call_20 ⟨rfl, rfl⟩ (Nat.le_refl _) (Nat.le_refl _))
theorem dL_floor_0 : decode cL_floor 0 = .ok (.aload_n 2, 1) := by decide +kernel
theorem dL_floor_1 : decode cL_floor 1 = .ok (.iconst 0, 1) := by decide +kernel
theorem dL_floor_2 : decode cL_floor 2 = .ok (.aload_n 0, 1) := by decide +kernel
theorem dL_floor_3 : decode cL_floor 3 = .ok (.iload_n 1, 1) := by decide +kernel
theorem dL_floor_4 : decode cL_floor 4 = .ok (.invokevirtual 41, 3) := by decide +kernel
theorem dL_floor_7 : decode cL_floor 7 = .ok (.i2l, 1) := by decide +kernel
theorem dL_floor_8 : decode cL_floor 8 = .ok (.lastore, 1) := by decide +kernel
theorem dL_floor_9 : decode cL_floor 9 = .ok (.goto 6, 3) := by decide +kernel
theorem dL_floor_12 : decode cL_floor 12 = .ok (.astore_n 3, 1) := by decide +kernel
theorem dL_floor_13 : decode cL_floor 13 = .ok (.iconst 1, 1) := by decide +kernel
theorem dL_floor_14 : decode cL_floor 14 = .ok (.ireturn, 1) := by decide +kernel
theorem dL_floor_15 : decode cL_floor 15 = .ok (.iconst 0, 1) := by decide +kernel
theorem dL_floor_16 : decode cL_floor 16 = .ok (.ireturn, 1) := by decide +kernel
theorem wcL_41 : Cond.methodLink RL 41 yX9_floor ∈ zTg ∧ Cond.instanceMethod yX9_floor ∈ zTg ∧ Cond.selects "WakeBanks" yX9_floor yX9_floor ∈ zTg ∧ Cond.initialized "WakeBanks" ∈ zTg ∧ Cond.code yX9_floor cX9_floor 3 (some .int) ∈ zTg := ⟨zm_f 851 (by decide +kernel) rfl, zm_f 852 (by decide +kernel) rfl, zm_f 853 (by decide +kernel) rfl, zm_f 37 (by decide +kernel) rfl, zm_f 854 (by decide +kernel) rfl⟩
theorem wyL_floor : yX9_floor.cls = "WakeBanks" ∧ yX9_floor.cls ≠ "java/lang/invoke/MethodHandle" ∧ yX9_floor.cls ≠ "java/lang/invoke/VarHandle" ∧ (parseMethodDescriptor yX9_floor.desc).map (fun d => d.parameters.length) = some 1 := by decide +kernel
set_option maxHeartbeats 1000000 in
set_option maxRecDepth 20000 in
theorem zwL_floor (a1 : Int32)  (s0 : zM) (s1 : zM) (s2 : zM) (s3 : zM) (q : Nat) (f : Nat → Int64) (ad1 : zR → Nat) : ∀ b, fWB_floor a1 s0 s1 s2 s3 = some (.inl b) → zAw yL_floor cL_floor 4 (some .int) [(0, 9, 12, 13)] 7 112 0 0 [.ref (ad1 (0, 0, 0)), .int a1, .ref q] (fun cA => zwl cA ad1 [(2, [1, 2, 3]), (0, []), (0, []), (1, [])] [s0, s1, s2, s3] ++ [(q, .inl (cA 5, 1, .inr (.inl f)))]) (fun cA v ws => v = some (.int 0) ∧ ws = zwl cA ad1 [(2, [1, 2, 3]), (0, []), (0, []), (1, [])] [s0, b.2, s2, s3] ++ [(q, .inl (cA 5, 1, .inr (.inl (vp_updL f 0 b.1.toInt64))))]) := by
  intro b h
  refine zAw_of (by decide) (Nat.le_of_ble_eq_true rfl) fun X F T HX => ?_
  show zN X 0 0 7 112 _ 4 0 [(0, .ref (ad1 (0, 0, 0))), (1, .int a1), (2, .ref q)] [] (zwl (zcA X) ad1 [(2, [1, 2, 3]), (0, []), (0, []), (1, [])] [s0, s1, s2, s3] ++ [(q, .inl (zcA X 5, 1, .inr (.inl f)))]) 0 0
  refine zn_aload_n F (i := 2) (k := 2) dL_floor_0 rfl rfl ?_
  refine zn_iconst F (v := 0) dL_floor_1 (by decide) ?_
  refine zn_aload_n F (i := 0) (k := 0) dL_floor_2 rfl rfl ?_
  refine zn_iload_n F (i := 1) (k := 1) dL_floor_3 rfl rfl ?_
  refine zn_callV F (as := [.int a1]) (st := [.int 0, .ref q]) (j0 := 0) (zAl_z (v := (some (zi b.1))) (as := [zr 0 0 0, zi a1]) (Rg := [(2, [1, 2, 3]), (0, []), (0, []), (1, [])]) (Ms := [s0, s1, s2, s3]) (Ms' := [s0, b.2, s2, s3]) (zfWB_floor a1 s0 s1 s2 s3 _ h) rfl ad1) dL_floor_4 wcL_41 wyL_floor rfl rfl (ci := 8) rfl rfl rfl (Nat.le_of_ble_eq_true rfl) (Nat.le_of_ble_eq_true rfl) (Nat.le_of_ble_eq_true rfl) (Nat.le_refl _) (Nat.le_refl _) fun v w1 hB => ?_
  obtain ⟨rfl, rfl⟩ := hB
  refine zn_i2l F dL_floor_7 ?_
  refine zn_lastE F dL_floor_8 (by decide) rfl (vp_in_nI (n := 0) (by decide) (by decide)) (jn := 0) (by decide) ?_
  refine zn_goto F (tgt := 15) dL_floor_9 (by decide) ?_
  refine zn_iconst F (v := 0) dL_floor_15 (by decide) ?_
  exact zn_toX (zn_ireturn F T dL_floor_16 ⟨rfl, rfl⟩ (Nat.le_refl _) (Nat.le_refl _))
set_option maxHeartbeats 1000000 in
set_option maxRecDepth 20000 in
theorem zwL_floor_1 (a1 : Int32)  (s0 : zM) (s1 : zM) (s2 : zM) (s3 : zM) (q : Nat) (f : Nat → Int64) (ad1 : zR → Nat) : ∀ b, fWB_floor a1 s0 s1 s2 s3 = some (.inr ("java/lang/IllegalArgumentException", b)) → zAw yL_floor cL_floor 4 (some .int) [(0, 9, 12, 13)] 7 112 1 6 [.ref (ad1 (0, 0, 0)), .int a1, .ref q] (fun cA => zwl cA ad1 [(2, [1, 2, 3]), (0, []), (0, []), (1, [])] [s0, s1, s2, s3] ++ [(q, .inl (cA 5, 1, .inr (.inl f)))]) (fun cA v ws => v = some (.int 1) ∧ ws = zwl cA ad1 [(2, [1, 2, 3]), (0, []), (0, []), (1, [])] [s0, b, s2, s3] ++ [(q, .inl (cA 5, 1, .inr (.inl f)))]) := by
  intro b h
  refine zAw_of (by decide) (Nat.le_of_ble_eq_true rfl) fun X F T HX => ?_
  show zN X 1 6 7 112 _ 4 0 [(0, .ref (ad1 (0, 0, 0))), (1, .int a1), (2, .ref q)] [] (zwl (zcA X) ad1 [(2, [1, 2, 3]), (0, []), (0, []), (1, [])] [s0, s1, s2, s3] ++ [(q, .inl (zcA X 5, 1, .inr (.inl f)))]) 0 0
  refine zn_aload_n F (i := 2) (k := 2) dL_floor_0 rfl rfl ?_
  refine zn_iconst F (v := 0) dL_floor_1 (by decide) ?_
  refine zn_aload_n F (i := 0) (k := 0) dL_floor_2 rfl rfl ?_
  refine zn_iload_n F (i := 1) (k := 1) dL_floor_3 rfl rfl ?_
  refine zn_callX F (as := [.int a1]) (st := [.int 0, .ref q]) (j0 := 0) (zAx_z (E := "java/lang/IllegalArgumentException") (as := [zr 0 0 0, zi a1]) (Rg := [(2, [1, 2, 3]), (0, []), (0, []), (1, [])]) (Ms := [s0, s1, s2, s3]) (Ms' := [s0, b, s2, s3]) (zfWB_floor a1 s0 s1 s2 s3 _ h) rfl ad1) dL_floor_4 wcL_41 wyL_floor rfl rfl (ci := 8) rfl rfl rfl (Nat.le_of_ble_eq_true rfl) (Nat.le_of_ble_eq_true rfl) (Nat.le_of_ble_eq_true rfl) (Nat.le_refl _) (Nat.le_refl _) ?_
  refine zE_catch F HX (pre := []) (x := (0, 9, 12, 13)) (suf := []) rfl (fun z hz => nomatch hz) (by decide) wkL_13 (by decide +kernel) fun q9 => ?_
  refine zn_astore_n F (i := 3) (lv' := [(3, .ref q9), (0, .ref (ad1 (0, 0, 0))), (1, .int a1), (2, .ref q)]) dL_floor_12 rfl (by decide) rfl ?_
  refine zn_iconst F (v := 1) dL_floor_13 (by decide) ?_
  exact zn_toX (zn_ireturn F T dL_floor_14 ⟨rfl, rfl⟩ (Nat.le_refl _) (Nat.le_refl _))
theorem dL_sail_0 : decode cL_sail 0 = .ok (.aload_n 3, 1) := by decide +kernel
theorem dL_sail_1 : decode cL_sail 1 = .ok (.iconst 0, 1) := by decide +kernel
theorem dL_sail_2 : decode cL_sail 2 = .ok (.aload_n 0, 1) := by decide +kernel
theorem dL_sail_3 : decode cL_sail 3 = .ok (.iload_n 1, 1) := by decide +kernel
theorem dL_sail_4 : decode cL_sail 4 = .ok (.iload_n 2, 1) := by decide +kernel
theorem dL_sail_5 : decode cL_sail 5 = .ok (.invokevirtual 44, 3) := by decide +kernel
theorem dL_sail_8 : decode cL_sail 8 = .ok (.i2l, 1) := by decide +kernel
theorem dL_sail_9 : decode cL_sail 9 = .ok (.lastore, 1) := by decide +kernel
theorem dL_sail_10 : decode cL_sail 10 = .ok (.goto 11, 3) := by decide +kernel
theorem dL_sail_13 : decode cL_sail 13 = .ok (.astore 4, 2) := by decide +kernel
theorem dL_sail_15 : decode cL_sail 15 = .ok (.iconst 1, 1) := by decide +kernel
theorem dL_sail_16 : decode cL_sail 16 = .ok (.ireturn, 1) := by decide +kernel
theorem dL_sail_17 : decode cL_sail 17 = .ok (.astore 4, 2) := by decide +kernel
theorem dL_sail_19 : decode cL_sail 19 = .ok (.iconst 2, 1) := by decide +kernel
theorem dL_sail_20 : decode cL_sail 20 = .ok (.ireturn, 1) := by decide +kernel
theorem dL_sail_21 : decode cL_sail 21 = .ok (.iconst 0, 1) := by decide +kernel
theorem dL_sail_22 : decode cL_sail 22 = .ok (.ireturn, 1) := by decide +kernel
theorem wcL_44 : Cond.methodLink RL 44 yX9_sail ∈ zTg ∧ Cond.instanceMethod yX9_sail ∈ zTg ∧ Cond.selects "WakeBanks" yX9_sail yX9_sail ∈ zTg ∧ Cond.initialized "WakeBanks" ∈ zTg ∧ Cond.code yX9_sail cX9_sail 5 (some .int) ∈ zTg := ⟨zm_f 859 (by decide +kernel) rfl, zm_f 860 (by decide +kernel) rfl, zm_f 861 (by decide +kernel) rfl, zm_f 37 (by decide +kernel) rfl, zm_f 862 (by decide +kernel) rfl⟩
theorem wyL_sail : yX9_sail.cls = "WakeBanks" ∧ yX9_sail.cls ≠ "java/lang/invoke/MethodHandle" ∧ yX9_sail.cls ≠ "java/lang/invoke/VarHandle" ∧ (parseMethodDescriptor yX9_sail.desc).map (fun d => d.parameters.length) = some 2 := by decide +kernel
set_option maxHeartbeats 1000000 in
set_option maxRecDepth 20000 in
theorem zwL_sail (a1 : Int32) (a2 : Int32)  (s0 : zM) (s1 : zM) (s2 : zM) (s3 : zM) (q : Nat) (f : Nat → Int64) (ad1 : zR → Nat) : ∀ b, fWB_sail a1 a2 s0 s1 s2 s3 = some (.inl b) → zAw yL_sail cL_sail 5 (some .int) [(0, 10, 13, 21), (0, 10, 17, 15)] 8 135 0 0 [.ref (ad1 (0, 0, 0)), .int a1, .int a2, .ref q] (fun cA => zwl cA ad1 [(2, [1, 2, 3]), (0, []), (0, []), (1, [])] [s0, s1, s2, s3] ++ [(q, .inl (cA 5, 1, .inr (.inl f)))]) (fun cA v ws => v = some (.int 0) ∧ ws = zwl cA ad1 [(2, [1, 2, 3]), (0, []), (0, []), (1, [])] [s0, b.2, s2, s3] ++ [(q, .inl (cA 5, 1, .inr (.inl (vp_updL f 0 b.1.toInt64))))]) := by
  intro b h
  refine zAw_of (by decide) (Nat.le_of_ble_eq_true rfl) fun X F T HX => ?_
  show zN X 0 0 8 135 _ 5 0 [(0, .ref (ad1 (0, 0, 0))), (1, .int a1), (2, .int a2), (3, .ref q)] [] (zwl (zcA X) ad1 [(2, [1, 2, 3]), (0, []), (0, []), (1, [])] [s0, s1, s2, s3] ++ [(q, .inl (zcA X 5, 1, .inr (.inl f)))]) 0 0
  refine zn_aload_n F (i := 3) (k := 3) dL_sail_0 rfl rfl ?_
  refine zn_iconst F (v := 0) dL_sail_1 (by decide) ?_
  refine zn_aload_n F (i := 0) (k := 0) dL_sail_2 rfl rfl ?_
  refine zn_iload_n F (i := 1) (k := 1) dL_sail_3 rfl rfl ?_
  refine zn_iload_n F (i := 2) (k := 2) dL_sail_4 rfl rfl ?_
  refine zn_callV F (as := [.int a1, .int a2]) (st := [.int 0, .ref q]) (j0 := 0) (zAl_z (v := (some (zi b.1))) (as := [zr 0 0 0, zi a1, zi a2]) (Rg := [(2, [1, 2, 3]), (0, []), (0, []), (1, [])]) (Ms := [s0, s1, s2, s3]) (Ms' := [s0, b.2, s2, s3]) (zfWB_sail a1 a2 s0 s1 s2 s3 _ h) rfl ad1) dL_sail_5 wcL_44 wyL_sail rfl rfl (ci := 8) rfl rfl rfl (Nat.le_of_ble_eq_true rfl) (Nat.le_of_ble_eq_true rfl) (Nat.le_of_ble_eq_true rfl) (Nat.le_refl _) (Nat.le_refl _) fun v w1 hB => ?_
  obtain ⟨rfl, rfl⟩ := hB
  refine zn_i2l F dL_sail_8 ?_
  refine zn_lastE F dL_sail_9 (by decide) rfl (vp_in_nI (n := 0) (by decide) (by decide)) (jn := 0) (by decide) ?_
  refine zn_goto F (tgt := 21) dL_sail_10 (by decide) ?_
  refine zn_iconst F (v := 0) dL_sail_21 (by decide) ?_
  exact zn_toX (zn_ireturn F T dL_sail_22 ⟨rfl, rfl⟩ (Nat.le_refl _) (Nat.le_refl _))
set_option maxHeartbeats 1000000 in
set_option maxRecDepth 20000 in
theorem zwL_sail_1 (a1 : Int32) (a2 : Int32)  (s0 : zM) (s1 : zM) (s2 : zM) (s3 : zM) (q : Nat) (f : Nat → Int64) (ad1 : zR → Nat) : ∀ b, fWB_sail a1 a2 s0 s1 s2 s3 = some (.inr ("java/lang/IndexOutOfBoundsException", b)) → zAw yL_sail cL_sail 5 (some .int) [(0, 10, 13, 21), (0, 10, 17, 15)] 8 135 1 6 [.ref (ad1 (0, 0, 0)), .int a1, .int a2, .ref q] (fun cA => zwl cA ad1 [(2, [1, 2, 3]), (0, []), (0, []), (1, [])] [s0, s1, s2, s3] ++ [(q, .inl (cA 5, 1, .inr (.inl f)))]) (fun cA v ws => v = some (.int 1) ∧ ws = zwl cA ad1 [(2, [1, 2, 3]), (0, []), (0, []), (1, [])] [s0, b, s2, s3] ++ [(q, .inl (cA 5, 1, .inr (.inl f)))]) := by
  intro b h
  refine zAw_of (by decide) (Nat.le_of_ble_eq_true rfl) fun X F T HX => ?_
  show zN X 1 6 8 135 _ 5 0 [(0, .ref (ad1 (0, 0, 0))), (1, .int a1), (2, .int a2), (3, .ref q)] [] (zwl (zcA X) ad1 [(2, [1, 2, 3]), (0, []), (0, []), (1, [])] [s0, s1, s2, s3] ++ [(q, .inl (zcA X 5, 1, .inr (.inl f)))]) 0 0
  refine zn_aload_n F (i := 3) (k := 3) dL_sail_0 rfl rfl ?_
  refine zn_iconst F (v := 0) dL_sail_1 (by decide) ?_
  refine zn_aload_n F (i := 0) (k := 0) dL_sail_2 rfl rfl ?_
  refine zn_iload_n F (i := 1) (k := 1) dL_sail_3 rfl rfl ?_
  refine zn_iload_n F (i := 2) (k := 2) dL_sail_4 rfl rfl ?_
  refine zn_callX F (as := [.int a1, .int a2]) (st := [.int 0, .ref q]) (j0 := 0) (zAx_z (E := "java/lang/IndexOutOfBoundsException") (as := [zr 0 0 0, zi a1, zi a2]) (Rg := [(2, [1, 2, 3]), (0, []), (0, []), (1, [])]) (Ms := [s0, s1, s2, s3]) (Ms' := [s0, b, s2, s3]) (zfWB_sail a1 a2 s0 s1 s2 s3 _ h) rfl ad1) dL_sail_5 wcL_44 wyL_sail rfl rfl (ci := 8) rfl rfl rfl (Nat.le_of_ble_eq_true rfl) (Nat.le_of_ble_eq_true rfl) (Nat.le_of_ble_eq_true rfl) (Nat.le_refl _) (Nat.le_refl _) ?_
  refine zE_catch F HX (pre := []) (x := (0, 10, 13, 21)) (suf := [(0, 10, 17, 15)]) rfl (fun z hz => nomatch hz) (by decide) wkL_21 (by decide +kernel) fun q9 => ?_
  refine zn_astore F (i := 4) (lv' := [(4, .ref q9), (0, .ref (ad1 (0, 0, 0))), (1, .int a1), (2, .int a2), (3, .ref q)]) dL_sail_13 (by decide) rfl ?_
  refine zn_iconst F (v := 1) dL_sail_15 (by decide) ?_
  exact zn_toX (zn_ireturn F T dL_sail_16 ⟨rfl, rfl⟩ (Nat.le_refl _) (Nat.le_refl _))
set_option maxHeartbeats 1000000 in
set_option maxRecDepth 20000 in
theorem zwL_sail_2 (a1 : Int32) (a2 : Int32)  (s0 : zM) (s1 : zM) (s2 : zM) (s3 : zM) (q : Nat) (f : Nat → Int64) (ad1 : zR → Nat) : ∀ b, fWB_sail a1 a2 s0 s1 s2 s3 = some (.inr ("java/lang/IllegalStateException", b)) → zAw yL_sail cL_sail 5 (some .int) [(0, 10, 13, 21), (0, 10, 17, 15)] 8 135 1 6 [.ref (ad1 (0, 0, 0)), .int a1, .int a2, .ref q] (fun cA => zwl cA ad1 [(2, [1, 2, 3]), (0, []), (0, []), (1, [])] [s0, s1, s2, s3] ++ [(q, .inl (cA 5, 1, .inr (.inl f)))]) (fun cA v ws => v = some (.int 2) ∧ ws = zwl cA ad1 [(2, [1, 2, 3]), (0, []), (0, []), (1, [])] [s0, b, s2, s3] ++ [(q, .inl (cA 5, 1, .inr (.inl f)))]) := by
  intro b h
  refine zAw_of (by decide) (Nat.le_of_ble_eq_true rfl) fun X F T HX => ?_
  show zN X 1 6 8 135 _ 5 0 [(0, .ref (ad1 (0, 0, 0))), (1, .int a1), (2, .int a2), (3, .ref q)] [] (zwl (zcA X) ad1 [(2, [1, 2, 3]), (0, []), (0, []), (1, [])] [s0, s1, s2, s3] ++ [(q, .inl (zcA X 5, 1, .inr (.inl f)))]) 0 0
  refine zn_aload_n F (i := 3) (k := 3) dL_sail_0 rfl rfl ?_
  refine zn_iconst F (v := 0) dL_sail_1 (by decide) ?_
  refine zn_aload_n F (i := 0) (k := 0) dL_sail_2 rfl rfl ?_
  refine zn_iload_n F (i := 1) (k := 1) dL_sail_3 rfl rfl ?_
  refine zn_iload_n F (i := 2) (k := 2) dL_sail_4 rfl rfl ?_
  refine zn_callX F (as := [.int a1, .int a2]) (st := [.int 0, .ref q]) (j0 := 0) (zAx_z (E := "java/lang/IllegalStateException") (as := [zr 0 0 0, zi a1, zi a2]) (Rg := [(2, [1, 2, 3]), (0, []), (0, []), (1, [])]) (Ms := [s0, s1, s2, s3]) (Ms' := [s0, b, s2, s3]) (zfWB_sail a1 a2 s0 s1 s2 s3 _ h) rfl ad1) dL_sail_5 wcL_44 wyL_sail rfl rfl (ci := 8) rfl rfl rfl (Nat.le_of_ble_eq_true rfl) (Nat.le_of_ble_eq_true rfl) (Nat.le_of_ble_eq_true rfl) (Nat.le_refl _) (Nat.le_refl _) ?_
  refine zE_catch F HX (pre := [(0, 10, 13, 21)]) (x := (0, 10, 17, 15)) (suf := []) rfl (by
    intro z hz
    simp only [List.mem_cons, List.not_mem_nil, or_false] at hz
    subst hz
    exact ⟨by decide, _, wkL_21, by decide +kernel⟩) (by decide) wkL_15 (by decide +kernel) fun q9 => ?_
  refine zn_astore F (i := 4) (lv' := [(4, .ref q9), (0, .ref (ad1 (0, 0, 0))), (1, .int a1), (2, .int a2), (3, .ref q)]) dL_sail_17 (by decide) rfl ?_
  refine zn_iconst F (v := 2) dL_sail_19 (by decide) ?_
  exact zn_toX (zn_ireturn F T dL_sail_20 ⟨rfl, rfl⟩ (Nat.le_refl _) (Nat.le_refl _))
theorem dL_lock_0 : decode cL_lock 0 = .ok (.aload_n 3, 1) := by decide +kernel
theorem dL_lock_1 : decode cL_lock 1 = .ok (.iconst 0, 1) := by decide +kernel
theorem dL_lock_2 : decode cL_lock 2 = .ok (.aload_n 0, 1) := by decide +kernel
theorem dL_lock_3 : decode cL_lock 3 = .ok (.iload_n 1, 1) := by decide +kernel
theorem dL_lock_4 : decode cL_lock 4 = .ok (.iload_n 2, 1) := by decide +kernel
theorem dL_lock_5 : decode cL_lock 5 = .ok (.invokevirtual 47, 3) := by decide +kernel
theorem dL_lock_8 : decode cL_lock 8 = .ok (.i2l, 1) := by decide +kernel
theorem dL_lock_9 : decode cL_lock 9 = .ok (.lastore, 1) := by decide +kernel
theorem dL_lock_10 : decode cL_lock 10 = .ok (.goto 11, 3) := by decide +kernel
theorem dL_lock_13 : decode cL_lock 13 = .ok (.astore 4, 2) := by decide +kernel
theorem dL_lock_15 : decode cL_lock 15 = .ok (.iconst 1, 1) := by decide +kernel
theorem dL_lock_16 : decode cL_lock 16 = .ok (.ireturn, 1) := by decide +kernel
theorem dL_lock_17 : decode cL_lock 17 = .ok (.astore 4, 2) := by decide +kernel
theorem dL_lock_19 : decode cL_lock 19 = .ok (.iconst 2, 1) := by decide +kernel
theorem dL_lock_20 : decode cL_lock 20 = .ok (.ireturn, 1) := by decide +kernel
theorem dL_lock_21 : decode cL_lock 21 = .ok (.iconst 0, 1) := by decide +kernel
theorem dL_lock_22 : decode cL_lock 22 = .ok (.ireturn, 1) := by decide +kernel
theorem wcL_47 : Cond.methodLink RL 47 yX9_lock ∈ zTg ∧ Cond.instanceMethod yX9_lock ∈ zTg ∧ Cond.selects "WakeBanks" yX9_lock yX9_lock ∈ zTg ∧ Cond.initialized "WakeBanks" ∈ zTg ∧ Cond.code yX9_lock cX9_lock 5 (some .int) ∈ zTg := ⟨zm_f 871 (by decide +kernel) rfl, zm_f 872 (by decide +kernel) rfl, zm_f 873 (by decide +kernel) rfl, zm_f 37 (by decide +kernel) rfl, zm_f 874 (by decide +kernel) rfl⟩
theorem wyL_lock : yX9_lock.cls = "WakeBanks" ∧ yX9_lock.cls ≠ "java/lang/invoke/MethodHandle" ∧ yX9_lock.cls ≠ "java/lang/invoke/VarHandle" ∧ (parseMethodDescriptor yX9_lock.desc).map (fun d => d.parameters.length) = some 2 := by decide +kernel
set_option maxHeartbeats 1000000 in
set_option maxRecDepth 20000 in
theorem zwL_lock (a1 : Int32) (a2 : Int32)  (s0 : zM) (s1 : zM) (s2 : zM) (s3 : zM) (q : Nat) (f : Nat → Int64) (ad1 : zR → Nat) : ∀ b, fWB_lock a1 a2 s0 s1 s2 s3 = some (.inl b) → zAw yL_lock cL_lock 5 (some .int) [(0, 10, 13, 21), (0, 10, 17, 15)] 8 135 0 0 [.ref (ad1 (0, 0, 0)), .int a1, .int a2, .ref q] (fun cA => zwl cA ad1 [(2, [1, 2, 3]), (0, []), (0, []), (1, [])] [s0, s1, s2, s3] ++ [(q, .inl (cA 5, 1, .inr (.inl f)))]) (fun cA v ws => v = some (.int 0) ∧ ws = zwl cA ad1 [(2, [1, 2, 3]), (0, []), (0, []), (1, [])] [s0, b.2, s2, s3] ++ [(q, .inl (cA 5, 1, .inr (.inl (vp_updL f 0 b.1.toInt64))))]) := by
  intro b h
  refine zAw_of (by decide) (Nat.le_of_ble_eq_true rfl) fun X F T HX => ?_
  show zN X 0 0 8 135 _ 5 0 [(0, .ref (ad1 (0, 0, 0))), (1, .int a1), (2, .int a2), (3, .ref q)] [] (zwl (zcA X) ad1 [(2, [1, 2, 3]), (0, []), (0, []), (1, [])] [s0, s1, s2, s3] ++ [(q, .inl (zcA X 5, 1, .inr (.inl f)))]) 0 0
  refine zn_aload_n F (i := 3) (k := 3) dL_lock_0 rfl rfl ?_
  refine zn_iconst F (v := 0) dL_lock_1 (by decide) ?_
  refine zn_aload_n F (i := 0) (k := 0) dL_lock_2 rfl rfl ?_
  refine zn_iload_n F (i := 1) (k := 1) dL_lock_3 rfl rfl ?_
  refine zn_iload_n F (i := 2) (k := 2) dL_lock_4 rfl rfl ?_
  refine zn_callV F (as := [.int a1, .int a2]) (st := [.int 0, .ref q]) (j0 := 0) (zAl_z (v := (some (zi b.1))) (as := [zr 0 0 0, zi a1, zi a2]) (Rg := [(2, [1, 2, 3]), (0, []), (0, []), (1, [])]) (Ms := [s0, s1, s2, s3]) (Ms' := [s0, b.2, s2, s3]) (zfWB_lock a1 a2 s0 s1 s2 s3 _ h) rfl ad1) dL_lock_5 wcL_47 wyL_lock rfl rfl (ci := 8) rfl rfl rfl (Nat.le_of_ble_eq_true rfl) (Nat.le_of_ble_eq_true rfl) (Nat.le_of_ble_eq_true rfl) (Nat.le_refl _) (Nat.le_refl _) fun v w1 hB => ?_
  obtain ⟨rfl, rfl⟩ := hB
  refine zn_i2l F dL_lock_8 ?_
  refine zn_lastE F dL_lock_9 (by decide) rfl (vp_in_nI (n := 0) (by decide) (by decide)) (jn := 0) (by decide) ?_
  refine zn_goto F (tgt := 21) dL_lock_10 (by decide) ?_
  refine zn_iconst F (v := 0) dL_lock_21 (by decide) ?_
  exact zn_toX (zn_ireturn F T dL_lock_22 ⟨rfl, rfl⟩ (Nat.le_refl _) (Nat.le_refl _))
set_option maxHeartbeats 1000000 in
set_option maxRecDepth 20000 in
theorem zwL_lock_1 (a1 : Int32) (a2 : Int32)  (s0 : zM) (s1 : zM) (s2 : zM) (s3 : zM) (q : Nat) (f : Nat → Int64) (ad1 : zR → Nat) : ∀ b, fWB_lock a1 a2 s0 s1 s2 s3 = some (.inr ("java/lang/IndexOutOfBoundsException", b)) → zAw yL_lock cL_lock 5 (some .int) [(0, 10, 13, 21), (0, 10, 17, 15)] 8 135 1 6 [.ref (ad1 (0, 0, 0)), .int a1, .int a2, .ref q] (fun cA => zwl cA ad1 [(2, [1, 2, 3]), (0, []), (0, []), (1, [])] [s0, s1, s2, s3] ++ [(q, .inl (cA 5, 1, .inr (.inl f)))]) (fun cA v ws => v = some (.int 1) ∧ ws = zwl cA ad1 [(2, [1, 2, 3]), (0, []), (0, []), (1, [])] [s0, b, s2, s3] ++ [(q, .inl (cA 5, 1, .inr (.inl f)))]) := by
  intro b h
  refine zAw_of (by decide) (Nat.le_of_ble_eq_true rfl) fun X F T HX => ?_
  show zN X 1 6 8 135 _ 5 0 [(0, .ref (ad1 (0, 0, 0))), (1, .int a1), (2, .int a2), (3, .ref q)] [] (zwl (zcA X) ad1 [(2, [1, 2, 3]), (0, []), (0, []), (1, [])] [s0, s1, s2, s3] ++ [(q, .inl (zcA X 5, 1, .inr (.inl f)))]) 0 0
  refine zn_aload_n F (i := 3) (k := 3) dL_lock_0 rfl rfl ?_
  refine zn_iconst F (v := 0) dL_lock_1 (by decide) ?_
  refine zn_aload_n F (i := 0) (k := 0) dL_lock_2 rfl rfl ?_
  refine zn_iload_n F (i := 1) (k := 1) dL_lock_3 rfl rfl ?_
  refine zn_iload_n F (i := 2) (k := 2) dL_lock_4 rfl rfl ?_
  refine zn_callX F (as := [.int a1, .int a2]) (st := [.int 0, .ref q]) (j0 := 0) (zAx_z (E := "java/lang/IndexOutOfBoundsException") (as := [zr 0 0 0, zi a1, zi a2]) (Rg := [(2, [1, 2, 3]), (0, []), (0, []), (1, [])]) (Ms := [s0, s1, s2, s3]) (Ms' := [s0, b, s2, s3]) (zfWB_lock a1 a2 s0 s1 s2 s3 _ h) rfl ad1) dL_lock_5 wcL_47 wyL_lock rfl rfl (ci := 8) rfl rfl rfl (Nat.le_of_ble_eq_true rfl) (Nat.le_of_ble_eq_true rfl) (Nat.le_of_ble_eq_true rfl) (Nat.le_refl _) (Nat.le_refl _) ?_
  refine zE_catch F HX (pre := []) (x := (0, 10, 13, 21)) (suf := [(0, 10, 17, 15)]) rfl (fun z hz => nomatch hz) (by decide) wkL_21 (by decide +kernel) fun q9 => ?_
  refine zn_astore F (i := 4) (lv' := [(4, .ref q9), (0, .ref (ad1 (0, 0, 0))), (1, .int a1), (2, .int a2), (3, .ref q)]) dL_lock_13 (by decide) rfl ?_
  refine zn_iconst F (v := 1) dL_lock_15 (by decide) ?_
  exact zn_toX (zn_ireturn F T dL_lock_16 ⟨rfl, rfl⟩ (Nat.le_refl _) (Nat.le_refl _))
set_option maxHeartbeats 1000000 in
set_option maxRecDepth 20000 in
theorem zwL_lock_2 (a1 : Int32) (a2 : Int32)  (s0 : zM) (s1 : zM) (s2 : zM) (s3 : zM) (q : Nat) (f : Nat → Int64) (ad1 : zR → Nat) : ∀ b, fWB_lock a1 a2 s0 s1 s2 s3 = some (.inr ("java/lang/IllegalStateException", b)) → zAw yL_lock cL_lock 5 (some .int) [(0, 10, 13, 21), (0, 10, 17, 15)] 8 135 1 6 [.ref (ad1 (0, 0, 0)), .int a1, .int a2, .ref q] (fun cA => zwl cA ad1 [(2, [1, 2, 3]), (0, []), (0, []), (1, [])] [s0, s1, s2, s3] ++ [(q, .inl (cA 5, 1, .inr (.inl f)))]) (fun cA v ws => v = some (.int 2) ∧ ws = zwl cA ad1 [(2, [1, 2, 3]), (0, []), (0, []), (1, [])] [s0, b, s2, s3] ++ [(q, .inl (cA 5, 1, .inr (.inl f)))]) := by
  intro b h
  refine zAw_of (by decide) (Nat.le_of_ble_eq_true rfl) fun X F T HX => ?_
  show zN X 1 6 8 135 _ 5 0 [(0, .ref (ad1 (0, 0, 0))), (1, .int a1), (2, .int a2), (3, .ref q)] [] (zwl (zcA X) ad1 [(2, [1, 2, 3]), (0, []), (0, []), (1, [])] [s0, s1, s2, s3] ++ [(q, .inl (zcA X 5, 1, .inr (.inl f)))]) 0 0
  refine zn_aload_n F (i := 3) (k := 3) dL_lock_0 rfl rfl ?_
  refine zn_iconst F (v := 0) dL_lock_1 (by decide) ?_
  refine zn_aload_n F (i := 0) (k := 0) dL_lock_2 rfl rfl ?_
  refine zn_iload_n F (i := 1) (k := 1) dL_lock_3 rfl rfl ?_
  refine zn_iload_n F (i := 2) (k := 2) dL_lock_4 rfl rfl ?_
  refine zn_callX F (as := [.int a1, .int a2]) (st := [.int 0, .ref q]) (j0 := 0) (zAx_z (E := "java/lang/IllegalStateException") (as := [zr 0 0 0, zi a1, zi a2]) (Rg := [(2, [1, 2, 3]), (0, []), (0, []), (1, [])]) (Ms := [s0, s1, s2, s3]) (Ms' := [s0, b, s2, s3]) (zfWB_lock a1 a2 s0 s1 s2 s3 _ h) rfl ad1) dL_lock_5 wcL_47 wyL_lock rfl rfl (ci := 8) rfl rfl rfl (Nat.le_of_ble_eq_true rfl) (Nat.le_of_ble_eq_true rfl) (Nat.le_of_ble_eq_true rfl) (Nat.le_refl _) (Nat.le_refl _) ?_
  refine zE_catch F HX (pre := [(0, 10, 13, 21)]) (x := (0, 10, 17, 15)) (suf := []) rfl (by
    intro z hz
    simp only [List.mem_cons, List.not_mem_nil, or_false] at hz
    subst hz
    exact ⟨by decide, _, wkL_21, by decide +kernel⟩) (by decide) wkL_15 (by decide +kernel) fun q9 => ?_
  refine zn_astore F (i := 4) (lv' := [(4, .ref q9), (0, .ref (ad1 (0, 0, 0))), (1, .int a1), (2, .int a2), (3, .ref q)]) dL_lock_17 (by decide) rfl ?_
  refine zn_iconst F (v := 2) dL_lock_19 (by decide) ?_
  exact zn_toX (zn_ireturn F T dL_lock_20 ⟨rfl, rfl⟩ (Nat.le_refl _) (Nat.le_refl _))
theorem dL_climb_0 : decode cL_climb 0 = .ok (.aload_n 3, 1) := by decide +kernel
theorem dL_climb_1 : decode cL_climb 1 = .ok (.iconst 0, 1) := by decide +kernel
theorem dL_climb_2 : decode cL_climb 2 = .ok (.aload_n 0, 1) := by decide +kernel
theorem dL_climb_3 : decode cL_climb 3 = .ok (.iload_n 1, 1) := by decide +kernel
theorem dL_climb_4 : decode cL_climb 4 = .ok (.iload_n 2, 1) := by decide +kernel
theorem dL_climb_5 : decode cL_climb 5 = .ok (.invokevirtual 50, 3) := by decide +kernel
theorem dL_climb_8 : decode cL_climb 8 = .ok (.i2l, 1) := by decide +kernel
theorem dL_climb_9 : decode cL_climb 9 = .ok (.lastore, 1) := by decide +kernel
theorem dL_climb_10 : decode cL_climb 10 = .ok (.goto 7, 3) := by decide +kernel
theorem dL_climb_13 : decode cL_climb 13 = .ok (.astore 4, 2) := by decide +kernel
theorem dL_climb_15 : decode cL_climb 15 = .ok (.iconst 1, 1) := by decide +kernel
theorem dL_climb_16 : decode cL_climb 16 = .ok (.ireturn, 1) := by decide +kernel
theorem dL_climb_17 : decode cL_climb 17 = .ok (.iconst 0, 1) := by decide +kernel
theorem dL_climb_18 : decode cL_climb 18 = .ok (.ireturn, 1) := by decide +kernel
theorem wcL_50 : Cond.methodLink RL 50 yX9_climb ∈ zTg ∧ Cond.instanceMethod yX9_climb ∈ zTg ∧ Cond.selects "WakeBanks" yX9_climb yX9_climb ∈ zTg ∧ Cond.initialized "WakeBanks" ∈ zTg ∧ Cond.code yX9_climb cX9_climb 4 (some .int) ∈ zTg := ⟨zm_f 888 (by decide +kernel) rfl, zm_f 889 (by decide +kernel) rfl, zm_f 890 (by decide +kernel) rfl, zm_f 37 (by decide +kernel) rfl, zm_f 891 (by decide +kernel) rfl⟩
theorem wyL_climb : yX9_climb.cls = "WakeBanks" ∧ yX9_climb.cls ≠ "java/lang/invoke/MethodHandle" ∧ yX9_climb.cls ≠ "java/lang/invoke/VarHandle" ∧ (parseMethodDescriptor yX9_climb.desc).map (fun d => d.parameters.length) = some 2 := by decide +kernel
set_option maxHeartbeats 1000000 in
set_option maxRecDepth 20000 in
theorem zwL_climb (a1 : Int32) (a2 : Int32)  (s0 : zM) (s1 : zM) (s2 : zM) (s3 : zM) (q : Nat) (f : Nat → Int64) (ad1 : zR → Nat) : ∀ b, fWB_climb a1 a2 s0 s1 s2 s3 = some (.inl b) → zAw yL_climb cL_climb 5 (some .int) [(0, 10, 13, 21)] 8 134 0 0 [.ref (ad1 (0, 0, 0)), .int a1, .int a2, .ref q] (fun cA => zwl cA ad1 [(2, [1, 2, 3]), (0, []), (0, []), (1, [])] [s0, s1, s2, s3] ++ [(q, .inl (cA 5, 1, .inr (.inl f)))]) (fun cA v ws => v = some (.int 0) ∧ ws = zwl cA ad1 [(2, [1, 2, 3]), (0, []), (0, []), (1, [])] [s0, b.2, s2, s3] ++ [(q, .inl (cA 5, 1, .inr (.inl (vp_updL f 0 b.1.toInt64))))]) := by
  intro b h
  refine zAw_of (by decide) (Nat.le_of_ble_eq_true rfl) fun X F T HX => ?_
  show zN X 0 0 8 134 _ 5 0 [(0, .ref (ad1 (0, 0, 0))), (1, .int a1), (2, .int a2), (3, .ref q)] [] (zwl (zcA X) ad1 [(2, [1, 2, 3]), (0, []), (0, []), (1, [])] [s0, s1, s2, s3] ++ [(q, .inl (zcA X 5, 1, .inr (.inl f)))]) 0 0
  refine zn_aload_n F (i := 3) (k := 3) dL_climb_0 rfl rfl ?_
  refine zn_iconst F (v := 0) dL_climb_1 (by decide) ?_
  refine zn_aload_n F (i := 0) (k := 0) dL_climb_2 rfl rfl ?_
  refine zn_iload_n F (i := 1) (k := 1) dL_climb_3 rfl rfl ?_
  refine zn_iload_n F (i := 2) (k := 2) dL_climb_4 rfl rfl ?_
  refine zn_callV F (as := [.int a1, .int a2]) (st := [.int 0, .ref q]) (j0 := 0) (zAl_z (v := (some (zi b.1))) (as := [zr 0 0 0, zi a1, zi a2]) (Rg := [(2, [1, 2, 3]), (0, []), (0, []), (1, [])]) (Ms := [s0, s1, s2, s3]) (Ms' := [s0, b.2, s2, s3]) (zfWB_climb a1 a2 s0 s1 s2 s3 _ h) rfl ad1) dL_climb_5 wcL_50 wyL_climb rfl rfl (ci := 8) rfl rfl rfl (Nat.le_of_ble_eq_true rfl) (Nat.le_of_ble_eq_true rfl) (Nat.le_of_ble_eq_true rfl) (Nat.le_refl _) (Nat.le_refl _) fun v w1 hB => ?_
  obtain ⟨rfl, rfl⟩ := hB
  refine zn_i2l F dL_climb_8 ?_
  refine zn_lastE F dL_climb_9 (by decide) rfl (vp_in_nI (n := 0) (by decide) (by decide)) (jn := 0) (by decide) ?_
  refine zn_goto F (tgt := 17) dL_climb_10 (by decide) ?_
  refine zn_iconst F (v := 0) dL_climb_17 (by decide) ?_
  exact zn_toX (zn_ireturn F T dL_climb_18 ⟨rfl, rfl⟩ (Nat.le_refl _) (Nat.le_refl _))
set_option maxHeartbeats 1000000 in
set_option maxRecDepth 20000 in
theorem zwL_climb_1 (a1 : Int32) (a2 : Int32)  (s0 : zM) (s1 : zM) (s2 : zM) (s3 : zM) (q : Nat) (f : Nat → Int64) (ad1 : zR → Nat) : ∀ b, fWB_climb a1 a2 s0 s1 s2 s3 = some (.inr ("java/lang/IndexOutOfBoundsException", b)) → zAw yL_climb cL_climb 5 (some .int) [(0, 10, 13, 21)] 8 134 1 6 [.ref (ad1 (0, 0, 0)), .int a1, .int a2, .ref q] (fun cA => zwl cA ad1 [(2, [1, 2, 3]), (0, []), (0, []), (1, [])] [s0, s1, s2, s3] ++ [(q, .inl (cA 5, 1, .inr (.inl f)))]) (fun cA v ws => v = some (.int 1) ∧ ws = zwl cA ad1 [(2, [1, 2, 3]), (0, []), (0, []), (1, [])] [s0, b, s2, s3] ++ [(q, .inl (cA 5, 1, .inr (.inl f)))]) := by
  intro b h
  refine zAw_of (by decide) (Nat.le_of_ble_eq_true rfl) fun X F T HX => ?_
  show zN X 1 6 8 134 _ 5 0 [(0, .ref (ad1 (0, 0, 0))), (1, .int a1), (2, .int a2), (3, .ref q)] [] (zwl (zcA X) ad1 [(2, [1, 2, 3]), (0, []), (0, []), (1, [])] [s0, s1, s2, s3] ++ [(q, .inl (zcA X 5, 1, .inr (.inl f)))]) 0 0
  refine zn_aload_n F (i := 3) (k := 3) dL_climb_0 rfl rfl ?_
  refine zn_iconst F (v := 0) dL_climb_1 (by decide) ?_
  refine zn_aload_n F (i := 0) (k := 0) dL_climb_2 rfl rfl ?_
  refine zn_iload_n F (i := 1) (k := 1) dL_climb_3 rfl rfl ?_
  refine zn_iload_n F (i := 2) (k := 2) dL_climb_4 rfl rfl ?_
  refine zn_callX F (as := [.int a1, .int a2]) (st := [.int 0, .ref q]) (j0 := 0) (zAx_z (E := "java/lang/IndexOutOfBoundsException") (as := [zr 0 0 0, zi a1, zi a2]) (Rg := [(2, [1, 2, 3]), (0, []), (0, []), (1, [])]) (Ms := [s0, s1, s2, s3]) (Ms' := [s0, b, s2, s3]) (zfWB_climb a1 a2 s0 s1 s2 s3 _ h) rfl ad1) dL_climb_5 wcL_50 wyL_climb rfl rfl (ci := 8) rfl rfl rfl (Nat.le_of_ble_eq_true rfl) (Nat.le_of_ble_eq_true rfl) (Nat.le_of_ble_eq_true rfl) (Nat.le_refl _) (Nat.le_refl _) ?_
  refine zE_catch F HX (pre := []) (x := (0, 10, 13, 21)) (suf := []) rfl (fun z hz => nomatch hz) (by decide) wkL_21 (by decide +kernel) fun q9 => ?_
  refine zn_astore F (i := 4) (lv' := [(4, .ref q9), (0, .ref (ad1 (0, 0, 0))), (1, .int a1), (2, .int a2), (3, .ref q)]) dL_climb_13 (by decide) rfl ?_
  refine zn_iconst F (v := 1) dL_climb_15 (by decide) ?_
  exact zn_toX (zn_ireturn F T dL_climb_16 ⟨rfl, rfl⟩ (Nat.le_refl _) (Nat.le_refl _))
theorem dL_down_0 : decode cL_down 0 = .ok (.aload_n 2, 1) := by decide +kernel
theorem dL_down_1 : decode cL_down 1 = .ok (.iconst 0, 1) := by decide +kernel
theorem dL_down_2 : decode cL_down 2 = .ok (.aload_n 0, 1) := by decide +kernel
theorem dL_down_3 : decode cL_down 3 = .ok (.iload_n 1, 1) := by decide +kernel
theorem dL_down_4 : decode cL_down 4 = .ok (.invokevirtual 53, 3) := by decide +kernel
theorem dL_down_7 : decode cL_down 7 = .ok (.i2l, 1) := by decide +kernel
theorem dL_down_8 : decode cL_down 8 = .ok (.lastore, 1) := by decide +kernel
theorem dL_down_9 : decode cL_down 9 = .ok (.goto 9, 3) := by decide +kernel
theorem dL_down_12 : decode cL_down 12 = .ok (.astore_n 3, 1) := by decide +kernel
theorem dL_down_13 : decode cL_down 13 = .ok (.iconst 1, 1) := by decide +kernel
theorem dL_down_14 : decode cL_down 14 = .ok (.ireturn, 1) := by decide +kernel
theorem dL_down_15 : decode cL_down 15 = .ok (.astore_n 3, 1) := by decide +kernel
theorem dL_down_16 : decode cL_down 16 = .ok (.iconst 2, 1) := by decide +kernel
theorem dL_down_17 : decode cL_down 17 = .ok (.ireturn, 1) := by decide +kernel
theorem dL_down_18 : decode cL_down 18 = .ok (.iconst 0, 1) := by decide +kernel
theorem dL_down_19 : decode cL_down 19 = .ok (.ireturn, 1) := by decide +kernel
theorem wcL_53 : Cond.methodLink RL 53 yX9_down ∈ zTg ∧ Cond.instanceMethod yX9_down ∈ zTg ∧ Cond.selects "WakeBanks" yX9_down yX9_down ∈ zTg ∧ Cond.initialized "WakeBanks" ∈ zTg ∧ Cond.code yX9_down cX9_down 3 (some .int) ∈ zTg := ⟨zm_f 905 (by decide +kernel) rfl, zm_f 906 (by decide +kernel) rfl, zm_f 907 (by decide +kernel) rfl, zm_f 37 (by decide +kernel) rfl, zm_f 908 (by decide +kernel) rfl⟩
theorem wyL_down : yX9_down.cls = "WakeBanks" ∧ yX9_down.cls ≠ "java/lang/invoke/MethodHandle" ∧ yX9_down.cls ≠ "java/lang/invoke/VarHandle" ∧ (parseMethodDescriptor yX9_down.desc).map (fun d => d.parameters.length) = some 1 := by decide +kernel
set_option maxHeartbeats 1000000 in
set_option maxRecDepth 20000 in
theorem zwL_down (a1 : Int32)  (s0 : zM) (s1 : zM) (s2 : zM) (s3 : zM) (q : Nat) (f : Nat → Int64) (ad1 : zR → Nat) : ∀ b, fWB_down a1 s0 s1 s2 s3 = some (.inl b) → zAw yL_down cL_down 4 (some .int) [(0, 9, 12, 21), (0, 9, 15, 15)] 8 133 0 0 [.ref (ad1 (0, 0, 0)), .int a1, .ref q] (fun cA => zwl cA ad1 [(2, [1, 2, 3]), (0, []), (0, []), (1, [])] [s0, s1, s2, s3] ++ [(q, .inl (cA 5, 1, .inr (.inl f)))]) (fun cA v ws => v = some (.int 0) ∧ ws = zwl cA ad1 [(2, [1, 2, 3]), (0, []), (0, []), (1, [])] [s0, b.2, s2, s3] ++ [(q, .inl (cA 5, 1, .inr (.inl (vp_updL f 0 b.1.toInt64))))]) := by
  intro b h
  refine zAw_of (by decide) (Nat.le_of_ble_eq_true rfl) fun X F T HX => ?_
  show zN X 0 0 8 133 _ 4 0 [(0, .ref (ad1 (0, 0, 0))), (1, .int a1), (2, .ref q)] [] (zwl (zcA X) ad1 [(2, [1, 2, 3]), (0, []), (0, []), (1, [])] [s0, s1, s2, s3] ++ [(q, .inl (zcA X 5, 1, .inr (.inl f)))]) 0 0
  refine zn_aload_n F (i := 2) (k := 2) dL_down_0 rfl rfl ?_
  refine zn_iconst F (v := 0) dL_down_1 (by decide) ?_
  refine zn_aload_n F (i := 0) (k := 0) dL_down_2 rfl rfl ?_
  refine zn_iload_n F (i := 1) (k := 1) dL_down_3 rfl rfl ?_
  refine zn_callV F (as := [.int a1]) (st := [.int 0, .ref q]) (j0 := 0) (zAl_z (v := (some (zi b.1))) (as := [zr 0 0 0, zi a1]) (Rg := [(2, [1, 2, 3]), (0, []), (0, []), (1, [])]) (Ms := [s0, s1, s2, s3]) (Ms' := [s0, b.2, s2, s3]) (zfWB_down a1 s0 s1 s2 s3 _ h) rfl ad1) dL_down_4 wcL_53 wyL_down rfl rfl (ci := 8) rfl rfl rfl (Nat.le_of_ble_eq_true rfl) (Nat.le_of_ble_eq_true rfl) (Nat.le_of_ble_eq_true rfl) (Nat.le_refl _) (Nat.le_refl _) fun v w1 hB => ?_
  obtain ⟨rfl, rfl⟩ := hB
  refine zn_i2l F dL_down_7 ?_
  refine zn_lastE F dL_down_8 (by decide) rfl (vp_in_nI (n := 0) (by decide) (by decide)) (jn := 0) (by decide) ?_
  refine zn_goto F (tgt := 18) dL_down_9 (by decide) ?_
  refine zn_iconst F (v := 0) dL_down_18 (by decide) ?_
  exact zn_toX (zn_ireturn F T dL_down_19 ⟨rfl, rfl⟩ (Nat.le_refl _) (Nat.le_refl _))
set_option maxHeartbeats 1000000 in
set_option maxRecDepth 20000 in
theorem zwL_down_1 (a1 : Int32)  (s0 : zM) (s1 : zM) (s2 : zM) (s3 : zM) (q : Nat) (f : Nat → Int64) (ad1 : zR → Nat) : ∀ b, fWB_down a1 s0 s1 s2 s3 = some (.inr ("java/lang/IndexOutOfBoundsException", b)) → zAw yL_down cL_down 4 (some .int) [(0, 9, 12, 21), (0, 9, 15, 15)] 8 133 1 6 [.ref (ad1 (0, 0, 0)), .int a1, .ref q] (fun cA => zwl cA ad1 [(2, [1, 2, 3]), (0, []), (0, []), (1, [])] [s0, s1, s2, s3] ++ [(q, .inl (cA 5, 1, .inr (.inl f)))]) (fun cA v ws => v = some (.int 1) ∧ ws = zwl cA ad1 [(2, [1, 2, 3]), (0, []), (0, []), (1, [])] [s0, b, s2, s3] ++ [(q, .inl (cA 5, 1, .inr (.inl f)))]) := by
  intro b h
  refine zAw_of (by decide) (Nat.le_of_ble_eq_true rfl) fun X F T HX => ?_
  show zN X 1 6 8 133 _ 4 0 [(0, .ref (ad1 (0, 0, 0))), (1, .int a1), (2, .ref q)] [] (zwl (zcA X) ad1 [(2, [1, 2, 3]), (0, []), (0, []), (1, [])] [s0, s1, s2, s3] ++ [(q, .inl (zcA X 5, 1, .inr (.inl f)))]) 0 0
  refine zn_aload_n F (i := 2) (k := 2) dL_down_0 rfl rfl ?_
  refine zn_iconst F (v := 0) dL_down_1 (by decide) ?_
  refine zn_aload_n F (i := 0) (k := 0) dL_down_2 rfl rfl ?_
  refine zn_iload_n F (i := 1) (k := 1) dL_down_3 rfl rfl ?_
  refine zn_callX F (as := [.int a1]) (st := [.int 0, .ref q]) (j0 := 0) (zAx_z (E := "java/lang/IndexOutOfBoundsException") (as := [zr 0 0 0, zi a1]) (Rg := [(2, [1, 2, 3]), (0, []), (0, []), (1, [])]) (Ms := [s0, s1, s2, s3]) (Ms' := [s0, b, s2, s3]) (zfWB_down a1 s0 s1 s2 s3 _ h) rfl ad1) dL_down_4 wcL_53 wyL_down rfl rfl (ci := 8) rfl rfl rfl (Nat.le_of_ble_eq_true rfl) (Nat.le_of_ble_eq_true rfl) (Nat.le_of_ble_eq_true rfl) (Nat.le_refl _) (Nat.le_refl _) ?_
  refine zE_catch F HX (pre := []) (x := (0, 9, 12, 21)) (suf := [(0, 9, 15, 15)]) rfl (fun z hz => nomatch hz) (by decide) wkL_21 (by decide +kernel) fun q9 => ?_
  refine zn_astore_n F (i := 3) (lv' := [(3, .ref q9), (0, .ref (ad1 (0, 0, 0))), (1, .int a1), (2, .ref q)]) dL_down_12 rfl (by decide) rfl ?_
  refine zn_iconst F (v := 1) dL_down_13 (by decide) ?_
  exact zn_toX (zn_ireturn F T dL_down_14 ⟨rfl, rfl⟩ (Nat.le_refl _) (Nat.le_refl _))
set_option maxHeartbeats 1000000 in
set_option maxRecDepth 20000 in
theorem zwL_down_2 (a1 : Int32)  (s0 : zM) (s1 : zM) (s2 : zM) (s3 : zM) (q : Nat) (f : Nat → Int64) (ad1 : zR → Nat) : ∀ b, fWB_down a1 s0 s1 s2 s3 = some (.inr ("java/lang/IllegalStateException", b)) → zAw yL_down cL_down 4 (some .int) [(0, 9, 12, 21), (0, 9, 15, 15)] 8 133 1 6 [.ref (ad1 (0, 0, 0)), .int a1, .ref q] (fun cA => zwl cA ad1 [(2, [1, 2, 3]), (0, []), (0, []), (1, [])] [s0, s1, s2, s3] ++ [(q, .inl (cA 5, 1, .inr (.inl f)))]) (fun cA v ws => v = some (.int 2) ∧ ws = zwl cA ad1 [(2, [1, 2, 3]), (0, []), (0, []), (1, [])] [s0, b, s2, s3] ++ [(q, .inl (cA 5, 1, .inr (.inl f)))]) := by
  intro b h
  refine zAw_of (by decide) (Nat.le_of_ble_eq_true rfl) fun X F T HX => ?_
  show zN X 1 6 8 133 _ 4 0 [(0, .ref (ad1 (0, 0, 0))), (1, .int a1), (2, .ref q)] [] (zwl (zcA X) ad1 [(2, [1, 2, 3]), (0, []), (0, []), (1, [])] [s0, s1, s2, s3] ++ [(q, .inl (zcA X 5, 1, .inr (.inl f)))]) 0 0
  refine zn_aload_n F (i := 2) (k := 2) dL_down_0 rfl rfl ?_
  refine zn_iconst F (v := 0) dL_down_1 (by decide) ?_
  refine zn_aload_n F (i := 0) (k := 0) dL_down_2 rfl rfl ?_
  refine zn_iload_n F (i := 1) (k := 1) dL_down_3 rfl rfl ?_
  refine zn_callX F (as := [.int a1]) (st := [.int 0, .ref q]) (j0 := 0) (zAx_z (E := "java/lang/IllegalStateException") (as := [zr 0 0 0, zi a1]) (Rg := [(2, [1, 2, 3]), (0, []), (0, []), (1, [])]) (Ms := [s0, s1, s2, s3]) (Ms' := [s0, b, s2, s3]) (zfWB_down a1 s0 s1 s2 s3 _ h) rfl ad1) dL_down_4 wcL_53 wyL_down rfl rfl (ci := 8) rfl rfl rfl (Nat.le_of_ble_eq_true rfl) (Nat.le_of_ble_eq_true rfl) (Nat.le_of_ble_eq_true rfl) (Nat.le_refl _) (Nat.le_refl _) ?_
  refine zE_catch F HX (pre := [(0, 9, 12, 21)]) (x := (0, 9, 15, 15)) (suf := []) rfl (by
    intro z hz
    simp only [List.mem_cons, List.not_mem_nil, or_false] at hz
    subst hz
    exact ⟨by decide, _, wkL_21, by decide +kernel⟩) (by decide) wkL_15 (by decide +kernel) fun q9 => ?_
  refine zn_astore_n F (i := 3) (lv' := [(3, .ref q9), (0, .ref (ad1 (0, 0, 0))), (1, .int a1), (2, .ref q)]) dL_down_15 rfl (by decide) rfl ?_
  refine zn_iconst F (v := 2) dL_down_16 (by decide) ?_
  exact zn_toX (zn_ireturn F T dL_down_17 ⟨rfl, rfl⟩ (Nat.le_refl _) (Nat.le_refl _))
theorem dL_ofTurbine_0 : decode cL_ofTurbine 0 = .ok (.aload_n 3, 1) := by decide +kernel
theorem dL_ofTurbine_1 : decode cL_ofTurbine 1 = .ok (.iconst 0, 1) := by decide +kernel
theorem dL_ofTurbine_2 : decode cL_ofTurbine 2 = .ok (.aload_n 0, 1) := by decide +kernel
theorem dL_ofTurbine_3 : decode cL_ofTurbine 3 = .ok (.iload_n 1, 1) := by decide +kernel
theorem dL_ofTurbine_4 : decode cL_ofTurbine 4 = .ok (.iload_n 2, 1) := by decide +kernel
theorem dL_ofTurbine_5 : decode cL_ofTurbine 5 = .ok (.invokevirtual 56, 3) := by decide +kernel
theorem dL_ofTurbine_8 : decode cL_ofTurbine 8 = .ok (.i2l, 1) := by decide +kernel
theorem dL_ofTurbine_9 : decode cL_ofTurbine 9 = .ok (.lastore, 1) := by decide +kernel
theorem dL_ofTurbine_10 : decode cL_ofTurbine 10 = .ok (.goto 11, 3) := by decide +kernel
theorem dL_ofTurbine_13 : decode cL_ofTurbine 13 = .ok (.astore 4, 2) := by decide +kernel
theorem dL_ofTurbine_15 : decode cL_ofTurbine 15 = .ok (.iconst 1, 1) := by decide +kernel
theorem dL_ofTurbine_16 : decode cL_ofTurbine 16 = .ok (.ireturn, 1) := by decide +kernel
theorem dL_ofTurbine_17 : decode cL_ofTurbine 17 = .ok (.astore 4, 2) := by decide +kernel
theorem dL_ofTurbine_19 : decode cL_ofTurbine 19 = .ok (.iconst 2, 1) := by decide +kernel
theorem dL_ofTurbine_20 : decode cL_ofTurbine 20 = .ok (.ireturn, 1) := by decide +kernel
theorem dL_ofTurbine_21 : decode cL_ofTurbine 21 = .ok (.iconst 0, 1) := by decide +kernel
theorem dL_ofTurbine_22 : decode cL_ofTurbine 22 = .ok (.ireturn, 1) := by decide +kernel
theorem wcL_56 : Cond.methodLink RL 56 yX9_ofTurbine ∈ zTg ∧ Cond.instanceMethod yX9_ofTurbine ∈ zTg ∧ Cond.selects "WakeBanks" yX9_ofTurbine yX9_ofTurbine ∈ zTg ∧ Cond.initialized "WakeBanks" ∈ zTg ∧ Cond.code yX9_ofTurbine cX9_ofTurbine 4 (some .int) ∈ zTg := ⟨zm_f 917 (by decide +kernel) rfl, zm_f 493 (by decide +kernel) rfl, zm_f 494 (by decide +kernel) rfl, zm_f 37 (by decide +kernel) rfl, zm_f 495 (by decide +kernel) rfl⟩
theorem wyL_ofTurbine : yX9_ofTurbine.cls = "WakeBanks" ∧ yX9_ofTurbine.cls ≠ "java/lang/invoke/MethodHandle" ∧ yX9_ofTurbine.cls ≠ "java/lang/invoke/VarHandle" ∧ (parseMethodDescriptor yX9_ofTurbine.desc).map (fun d => d.parameters.length) = some 2 := by decide +kernel
set_option maxHeartbeats 1000000 in
set_option maxRecDepth 20000 in
theorem zwL_ofTurbine (a1 : Int32) (a2 : Int32)  (s0 : zM) (s1 : zM) (s2 : zM) (s3 : zM) (q : Nat) (f : Nat → Int64) (ad1 : zR → Nat) : ∀ b, fWB_ofTurbine a1 a2 s0 s1 s2 s3 = some (.inl b) → zAw yL_ofTurbine cL_ofTurbine 5 (some .int) [(0, 10, 13, 21), (0, 10, 17, 13)] 8 134 0 0 [.ref (ad1 (0, 0, 0)), .int a1, .int a2, .ref q] (fun cA => zwl cA ad1 [(2, [1, 2, 3]), (0, []), (0, []), (1, [])] [s0, s1, s2, s3] ++ [(q, .inl (cA 5, 1, .inr (.inl f)))]) (fun cA v ws => v = some (.int 0) ∧ ws = zwl cA ad1 [(2, [1, 2, 3]), (0, []), (0, []), (1, [])] [s0, s1, s2, s3] ++ [(q, .inl (cA 5, 1, .inr (.inl (vp_updL f 0 b.toInt64))))]) := by
  intro b h
  refine zAw_of (by decide) (Nat.le_of_ble_eq_true rfl) fun X F T HX => ?_
  show zN X 0 0 8 134 _ 5 0 [(0, .ref (ad1 (0, 0, 0))), (1, .int a1), (2, .int a2), (3, .ref q)] [] (zwl (zcA X) ad1 [(2, [1, 2, 3]), (0, []), (0, []), (1, [])] [s0, s1, s2, s3] ++ [(q, .inl (zcA X 5, 1, .inr (.inl f)))]) 0 0
  refine zn_aload_n F (i := 3) (k := 3) dL_ofTurbine_0 rfl rfl ?_
  refine zn_iconst F (v := 0) dL_ofTurbine_1 (by decide) ?_
  refine zn_aload_n F (i := 0) (k := 0) dL_ofTurbine_2 rfl rfl ?_
  refine zn_iload_n F (i := 1) (k := 1) dL_ofTurbine_3 rfl rfl ?_
  refine zn_iload_n F (i := 2) (k := 2) dL_ofTurbine_4 rfl rfl ?_
  refine zn_callV F (as := [.int a1, .int a2]) (st := [.int 0, .ref q]) (j0 := 0) (zAl_z (v := (some (zi b))) (as := [zr 0 0 0, zi a1, zi a2]) (Rg := [(2, [1, 2, 3]), (0, []), (0, []), (1, [])]) (Ms := [s0, s1, s2, s3]) (Ms' := [s0, s1, s2, s3]) (zfWB_ofTurbine a1 a2 s0 s1 s2 s3 _ h) rfl ad1) dL_ofTurbine_5 wcL_56 wyL_ofTurbine rfl rfl (ci := 8) rfl rfl rfl (Nat.le_of_ble_eq_true rfl) (Nat.le_of_ble_eq_true rfl) (Nat.le_of_ble_eq_true rfl) (Nat.le_refl _) (Nat.le_refl _) fun v w1 hB => ?_
  obtain ⟨rfl, rfl⟩ := hB
  refine zn_i2l F dL_ofTurbine_8 ?_
  refine zn_lastE F dL_ofTurbine_9 (by decide) rfl (vp_in_nI (n := 0) (by decide) (by decide)) (jn := 0) (by decide) ?_
  refine zn_goto F (tgt := 21) dL_ofTurbine_10 (by decide) ?_
  refine zn_iconst F (v := 0) dL_ofTurbine_21 (by decide) ?_
  exact zn_toX (zn_ireturn F T dL_ofTurbine_22 ⟨rfl, rfl⟩ (Nat.le_refl _) (Nat.le_refl _))
set_option maxHeartbeats 1000000 in
set_option maxRecDepth 20000 in
theorem zwL_ofTurbine_1 (a1 : Int32) (a2 : Int32)  (s0 : zM) (s1 : zM) (s2 : zM) (s3 : zM) (q : Nat) (f : Nat → Int64) (ad1 : zR → Nat) : fWB_ofTurbine a1 a2 s0 s1 s2 s3 = some (.inr "java/lang/IndexOutOfBoundsException") → zAw yL_ofTurbine cL_ofTurbine 5 (some .int) [(0, 10, 13, 21), (0, 10, 17, 13)] 8 134 1 6 [.ref (ad1 (0, 0, 0)), .int a1, .int a2, .ref q] (fun cA => zwl cA ad1 [(2, [1, 2, 3]), (0, []), (0, []), (1, [])] [s0, s1, s2, s3] ++ [(q, .inl (cA 5, 1, .inr (.inl f)))]) (fun cA v ws => v = some (.int 1) ∧ ws = zwl cA ad1 [(2, [1, 2, 3]), (0, []), (0, []), (1, [])] [s0, s1, s2, s3] ++ [(q, .inl (cA 5, 1, .inr (.inl f)))]) := by
  intro h
  refine zAw_of (by decide) (Nat.le_of_ble_eq_true rfl) fun X F T HX => ?_
  show zN X 1 6 8 134 _ 5 0 [(0, .ref (ad1 (0, 0, 0))), (1, .int a1), (2, .int a2), (3, .ref q)] [] (zwl (zcA X) ad1 [(2, [1, 2, 3]), (0, []), (0, []), (1, [])] [s0, s1, s2, s3] ++ [(q, .inl (zcA X 5, 1, .inr (.inl f)))]) 0 0
  refine zn_aload_n F (i := 3) (k := 3) dL_ofTurbine_0 rfl rfl ?_
  refine zn_iconst F (v := 0) dL_ofTurbine_1 (by decide) ?_
  refine zn_aload_n F (i := 0) (k := 0) dL_ofTurbine_2 rfl rfl ?_
  refine zn_iload_n F (i := 1) (k := 1) dL_ofTurbine_3 rfl rfl ?_
  refine zn_iload_n F (i := 2) (k := 2) dL_ofTurbine_4 rfl rfl ?_
  refine zn_callX F (as := [.int a1, .int a2]) (st := [.int 0, .ref q]) (j0 := 0) (zAx_z (E := "java/lang/IndexOutOfBoundsException") (as := [zr 0 0 0, zi a1, zi a2]) (Rg := [(2, [1, 2, 3]), (0, []), (0, []), (1, [])]) (Ms := [s0, s1, s2, s3]) (Ms' := [s0, s1, s2, s3]) (zfWB_ofTurbine a1 a2 s0 s1 s2 s3 _ h) rfl ad1) dL_ofTurbine_5 wcL_56 wyL_ofTurbine rfl rfl (ci := 8) rfl rfl rfl (Nat.le_of_ble_eq_true rfl) (Nat.le_of_ble_eq_true rfl) (Nat.le_of_ble_eq_true rfl) (Nat.le_refl _) (Nat.le_refl _) ?_
  refine zE_catch F HX (pre := []) (x := (0, 10, 13, 21)) (suf := [(0, 10, 17, 13)]) rfl (fun z hz => nomatch hz) (by decide) wkL_21 (by decide +kernel) fun q9 => ?_
  refine zn_astore F (i := 4) (lv' := [(4, .ref q9), (0, .ref (ad1 (0, 0, 0))), (1, .int a1), (2, .int a2), (3, .ref q)]) dL_ofTurbine_13 (by decide) rfl ?_
  refine zn_iconst F (v := 1) dL_ofTurbine_15 (by decide) ?_
  exact zn_toX (zn_ireturn F T dL_ofTurbine_16 ⟨rfl, rfl⟩ (Nat.le_refl _) (Nat.le_refl _))
set_option maxHeartbeats 1000000 in
set_option maxRecDepth 20000 in
theorem zwL_ofTurbine_2 (a1 : Int32) (a2 : Int32)  (s0 : zM) (s1 : zM) (s2 : zM) (s3 : zM) (q : Nat) (f : Nat → Int64) (ad1 : zR → Nat) : fWB_ofTurbine a1 a2 s0 s1 s2 s3 = some (.inr "java/lang/IllegalArgumentException") → zAw yL_ofTurbine cL_ofTurbine 5 (some .int) [(0, 10, 13, 21), (0, 10, 17, 13)] 8 134 1 6 [.ref (ad1 (0, 0, 0)), .int a1, .int a2, .ref q] (fun cA => zwl cA ad1 [(2, [1, 2, 3]), (0, []), (0, []), (1, [])] [s0, s1, s2, s3] ++ [(q, .inl (cA 5, 1, .inr (.inl f)))]) (fun cA v ws => v = some (.int 2) ∧ ws = zwl cA ad1 [(2, [1, 2, 3]), (0, []), (0, []), (1, [])] [s0, s1, s2, s3] ++ [(q, .inl (cA 5, 1, .inr (.inl f)))]) := by
  intro h
  refine zAw_of (by decide) (Nat.le_of_ble_eq_true rfl) fun X F T HX => ?_
  show zN X 1 6 8 134 _ 5 0 [(0, .ref (ad1 (0, 0, 0))), (1, .int a1), (2, .int a2), (3, .ref q)] [] (zwl (zcA X) ad1 [(2, [1, 2, 3]), (0, []), (0, []), (1, [])] [s0, s1, s2, s3] ++ [(q, .inl (zcA X 5, 1, .inr (.inl f)))]) 0 0
  refine zn_aload_n F (i := 3) (k := 3) dL_ofTurbine_0 rfl rfl ?_
  refine zn_iconst F (v := 0) dL_ofTurbine_1 (by decide) ?_
  refine zn_aload_n F (i := 0) (k := 0) dL_ofTurbine_2 rfl rfl ?_
  refine zn_iload_n F (i := 1) (k := 1) dL_ofTurbine_3 rfl rfl ?_
  refine zn_iload_n F (i := 2) (k := 2) dL_ofTurbine_4 rfl rfl ?_
  refine zn_callX F (as := [.int a1, .int a2]) (st := [.int 0, .ref q]) (j0 := 0) (zAx_z (E := "java/lang/IllegalArgumentException") (as := [zr 0 0 0, zi a1, zi a2]) (Rg := [(2, [1, 2, 3]), (0, []), (0, []), (1, [])]) (Ms := [s0, s1, s2, s3]) (Ms' := [s0, s1, s2, s3]) (zfWB_ofTurbine a1 a2 s0 s1 s2 s3 _ h) rfl ad1) dL_ofTurbine_5 wcL_56 wyL_ofTurbine rfl rfl (ci := 8) rfl rfl rfl (Nat.le_of_ble_eq_true rfl) (Nat.le_of_ble_eq_true rfl) (Nat.le_of_ble_eq_true rfl) (Nat.le_refl _) (Nat.le_refl _) ?_
  refine zE_catch F HX (pre := [(0, 10, 13, 21)]) (x := (0, 10, 17, 13)) (suf := []) rfl (by
    intro z hz
    simp only [List.mem_cons, List.not_mem_nil, or_false] at hz
    subst hz
    exact ⟨by decide, _, wkL_21, by decide +kernel⟩) (by decide) wkL_13 (by decide +kernel) fun q9 => ?_
  refine zn_astore F (i := 4) (lv' := [(4, .ref q9), (0, .ref (ad1 (0, 0, 0))), (1, .int a1), (2, .int a2), (3, .ref q)]) dL_ofTurbine_17 (by decide) rfl ?_
  refine zn_iconst F (v := 2) dL_ofTurbine_19 (by decide) ?_
  exact zn_toX (zn_ireturn F T dL_ofTurbine_20 ⟨rfl, rfl⟩ (Nat.le_refl _) (Nat.le_refl _))
theorem dL_wear_0 : decode cL_wear 0 = .ok (.aload_n 3, 1) := by decide +kernel
theorem dL_wear_1 : decode cL_wear 1 = .ok (.iconst 0, 1) := by decide +kernel
theorem dL_wear_2 : decode cL_wear 2 = .ok (.aload_n 0, 1) := by decide +kernel
theorem dL_wear_3 : decode cL_wear 3 = .ok (.iload_n 1, 1) := by decide +kernel
theorem dL_wear_4 : decode cL_wear 4 = .ok (.iload_n 2, 1) := by decide +kernel
theorem dL_wear_5 : decode cL_wear 5 = .ok (.invokevirtual 59, 3) := by decide +kernel
theorem dL_wear_8 : decode cL_wear 8 = .ok (.i2l, 1) := by decide +kernel
theorem dL_wear_9 : decode cL_wear 9 = .ok (.lastore, 1) := by decide +kernel
theorem dL_wear_10 : decode cL_wear 10 = .ok (.goto 7, 3) := by decide +kernel
theorem dL_wear_13 : decode cL_wear 13 = .ok (.astore 4, 2) := by decide +kernel
theorem dL_wear_15 : decode cL_wear 15 = .ok (.iconst 1, 1) := by decide +kernel
theorem dL_wear_16 : decode cL_wear 16 = .ok (.ireturn, 1) := by decide +kernel
theorem dL_wear_17 : decode cL_wear 17 = .ok (.iconst 0, 1) := by decide +kernel
theorem dL_wear_18 : decode cL_wear 18 = .ok (.ireturn, 1) := by decide +kernel
theorem wcL_59 : Cond.methodLink RL 59 yX9_wear ∈ zTg ∧ Cond.instanceMethod yX9_wear ∈ zTg ∧ Cond.selects "WakeBanks" yX9_wear yX9_wear ∈ zTg ∧ Cond.initialized "WakeBanks" ∈ zTg ∧ Cond.code yX9_wear cX9_wear 3 (some .int) ∈ zTg := ⟨zm_f 921 (by decide +kernel) rfl, zm_f 533 (by decide +kernel) rfl, zm_f 534 (by decide +kernel) rfl, zm_f 37 (by decide +kernel) rfl, zm_f 535 (by decide +kernel) rfl⟩
theorem wyL_wear : yX9_wear.cls = "WakeBanks" ∧ yX9_wear.cls ≠ "java/lang/invoke/MethodHandle" ∧ yX9_wear.cls ≠ "java/lang/invoke/VarHandle" ∧ (parseMethodDescriptor yX9_wear.desc).map (fun d => d.parameters.length) = some 2 := by decide +kernel
set_option maxHeartbeats 1000000 in
set_option maxRecDepth 20000 in
theorem zwL_wear (a1 : Int32) (a2 : Int32)  (s0 : zM) (s1 : zM) (s2 : zM) (s3 : zM) (q : Nat) (f : Nat → Int64) (ad1 : zR → Nat) : ∀ b, fWB_wear a1 a2 s0 s1 s2 s3 = some (.inl b) → zAw yL_wear cL_wear 5 (some .int) [(0, 10, 13, 21)] 8 133 0 0 [.ref (ad1 (0, 0, 0)), .int a1, .int a2, .ref q] (fun cA => zwl cA ad1 [(2, [1, 2, 3]), (0, []), (0, []), (1, [])] [s0, s1, s2, s3] ++ [(q, .inl (cA 5, 1, .inr (.inl f)))]) (fun cA v ws => v = some (.int 0) ∧ ws = zwl cA ad1 [(2, [1, 2, 3]), (0, []), (0, []), (1, [])] [s0, s1, s2, s3] ++ [(q, .inl (cA 5, 1, .inr (.inl (vp_updL f 0 b.toInt64))))]) := by
  intro b h
  refine zAw_of (by decide) (Nat.le_of_ble_eq_true rfl) fun X F T HX => ?_
  show zN X 0 0 8 133 _ 5 0 [(0, .ref (ad1 (0, 0, 0))), (1, .int a1), (2, .int a2), (3, .ref q)] [] (zwl (zcA X) ad1 [(2, [1, 2, 3]), (0, []), (0, []), (1, [])] [s0, s1, s2, s3] ++ [(q, .inl (zcA X 5, 1, .inr (.inl f)))]) 0 0
  refine zn_aload_n F (i := 3) (k := 3) dL_wear_0 rfl rfl ?_
  refine zn_iconst F (v := 0) dL_wear_1 (by decide) ?_
  refine zn_aload_n F (i := 0) (k := 0) dL_wear_2 rfl rfl ?_
  refine zn_iload_n F (i := 1) (k := 1) dL_wear_3 rfl rfl ?_
  refine zn_iload_n F (i := 2) (k := 2) dL_wear_4 rfl rfl ?_
  refine zn_callV F (as := [.int a1, .int a2]) (st := [.int 0, .ref q]) (j0 := 0) (zAl_z (v := (some (zi b))) (as := [zr 0 0 0, zi a1, zi a2]) (Rg := [(2, [1, 2, 3]), (0, []), (0, []), (1, [])]) (Ms := [s0, s1, s2, s3]) (Ms' := [s0, s1, s2, s3]) (zfWB_wear a1 a2 s0 s1 s2 s3 _ h) rfl ad1) dL_wear_5 wcL_59 wyL_wear rfl rfl (ci := 8) rfl rfl rfl (Nat.le_of_ble_eq_true rfl) (Nat.le_of_ble_eq_true rfl) (Nat.le_of_ble_eq_true rfl) (Nat.le_refl _) (Nat.le_refl _) fun v w1 hB => ?_
  obtain ⟨rfl, rfl⟩ := hB
  refine zn_i2l F dL_wear_8 ?_
  refine zn_lastE F dL_wear_9 (by decide) rfl (vp_in_nI (n := 0) (by decide) (by decide)) (jn := 0) (by decide) ?_
  refine zn_goto F (tgt := 17) dL_wear_10 (by decide) ?_
  refine zn_iconst F (v := 0) dL_wear_17 (by decide) ?_
  exact zn_toX (zn_ireturn F T dL_wear_18 ⟨rfl, rfl⟩ (Nat.le_refl _) (Nat.le_refl _))
set_option maxHeartbeats 1000000 in
set_option maxRecDepth 20000 in
theorem zwL_wear_1 (a1 : Int32) (a2 : Int32)  (s0 : zM) (s1 : zM) (s2 : zM) (s3 : zM) (q : Nat) (f : Nat → Int64) (ad1 : zR → Nat) : fWB_wear a1 a2 s0 s1 s2 s3 = some (.inr "java/lang/IndexOutOfBoundsException") → zAw yL_wear cL_wear 5 (some .int) [(0, 10, 13, 21)] 8 133 1 6 [.ref (ad1 (0, 0, 0)), .int a1, .int a2, .ref q] (fun cA => zwl cA ad1 [(2, [1, 2, 3]), (0, []), (0, []), (1, [])] [s0, s1, s2, s3] ++ [(q, .inl (cA 5, 1, .inr (.inl f)))]) (fun cA v ws => v = some (.int 1) ∧ ws = zwl cA ad1 [(2, [1, 2, 3]), (0, []), (0, []), (1, [])] [s0, s1, s2, s3] ++ [(q, .inl (cA 5, 1, .inr (.inl f)))]) := by
  intro h
  refine zAw_of (by decide) (Nat.le_of_ble_eq_true rfl) fun X F T HX => ?_
  show zN X 1 6 8 133 _ 5 0 [(0, .ref (ad1 (0, 0, 0))), (1, .int a1), (2, .int a2), (3, .ref q)] [] (zwl (zcA X) ad1 [(2, [1, 2, 3]), (0, []), (0, []), (1, [])] [s0, s1, s2, s3] ++ [(q, .inl (zcA X 5, 1, .inr (.inl f)))]) 0 0
  refine zn_aload_n F (i := 3) (k := 3) dL_wear_0 rfl rfl ?_
  refine zn_iconst F (v := 0) dL_wear_1 (by decide) ?_
  refine zn_aload_n F (i := 0) (k := 0) dL_wear_2 rfl rfl ?_
  refine zn_iload_n F (i := 1) (k := 1) dL_wear_3 rfl rfl ?_
  refine zn_iload_n F (i := 2) (k := 2) dL_wear_4 rfl rfl ?_
  refine zn_callX F (as := [.int a1, .int a2]) (st := [.int 0, .ref q]) (j0 := 0) (zAx_z (E := "java/lang/IndexOutOfBoundsException") (as := [zr 0 0 0, zi a1, zi a2]) (Rg := [(2, [1, 2, 3]), (0, []), (0, []), (1, [])]) (Ms := [s0, s1, s2, s3]) (Ms' := [s0, s1, s2, s3]) (zfWB_wear a1 a2 s0 s1 s2 s3 _ h) rfl ad1) dL_wear_5 wcL_59 wyL_wear rfl rfl (ci := 8) rfl rfl rfl (Nat.le_of_ble_eq_true rfl) (Nat.le_of_ble_eq_true rfl) (Nat.le_of_ble_eq_true rfl) (Nat.le_refl _) (Nat.le_refl _) ?_
  refine zE_catch F HX (pre := []) (x := (0, 10, 13, 21)) (suf := []) rfl (fun z hz => nomatch hz) (by decide) wkL_21 (by decide +kernel) fun q9 => ?_
  refine zn_astore F (i := 4) (lv' := [(4, .ref q9), (0, .ref (ad1 (0, 0, 0))), (1, .int a1), (2, .int a2), (3, .ref q)]) dL_wear_13 (by decide) rfl ?_
  refine zn_iconst F (v := 1) dL_wear_15 (by decide) ?_
  exact zn_toX (zn_ireturn F T dL_wear_16 ⟨rfl, rfl⟩ (Nat.le_refl _) (Nat.le_refl _))
theorem dL_lost_0 : decode cL_lost 0 = .ok (.aload_n 3, 1) := by decide +kernel
theorem dL_lost_1 : decode cL_lost 1 = .ok (.iconst 0, 1) := by decide +kernel
theorem dL_lost_2 : decode cL_lost 2 = .ok (.aload_n 0, 1) := by decide +kernel
theorem dL_lost_3 : decode cL_lost 3 = .ok (.iload_n 1, 1) := by decide +kernel
theorem dL_lost_4 : decode cL_lost 4 = .ok (.iload_n 2, 1) := by decide +kernel
theorem dL_lost_5 : decode cL_lost 5 = .ok (.invokevirtual 62, 3) := by decide +kernel
theorem dL_lost_8 : decode cL_lost 8 = .ok (.i2l, 1) := by decide +kernel
theorem dL_lost_9 : decode cL_lost 9 = .ok (.lastore, 1) := by decide +kernel
theorem dL_lost_10 : decode cL_lost 10 = .ok (.goto 7, 3) := by decide +kernel
theorem dL_lost_13 : decode cL_lost 13 = .ok (.astore 4, 2) := by decide +kernel
theorem dL_lost_15 : decode cL_lost 15 = .ok (.iconst 1, 1) := by decide +kernel
theorem dL_lost_16 : decode cL_lost 16 = .ok (.ireturn, 1) := by decide +kernel
theorem dL_lost_17 : decode cL_lost 17 = .ok (.iconst 0, 1) := by decide +kernel
theorem dL_lost_18 : decode cL_lost 18 = .ok (.ireturn, 1) := by decide +kernel
theorem wcL_62 : Cond.methodLink RL 62 yX9_lost ∈ zTg ∧ Cond.instanceMethod yX9_lost ∈ zTg ∧ Cond.selects "WakeBanks" yX9_lost yX9_lost ∈ zTg ∧ Cond.initialized "WakeBanks" ∈ zTg ∧ Cond.code yX9_lost cX9_lost 3 (some .int) ∈ zTg := ⟨zm_f 925 (by decide +kernel) rfl, zm_f 544 (by decide +kernel) rfl, zm_f 545 (by decide +kernel) rfl, zm_f 37 (by decide +kernel) rfl, zm_f 546 (by decide +kernel) rfl⟩
theorem wyL_lost : yX9_lost.cls = "WakeBanks" ∧ yX9_lost.cls ≠ "java/lang/invoke/MethodHandle" ∧ yX9_lost.cls ≠ "java/lang/invoke/VarHandle" ∧ (parseMethodDescriptor yX9_lost.desc).map (fun d => d.parameters.length) = some 2 := by decide +kernel
set_option maxHeartbeats 1000000 in
set_option maxRecDepth 20000 in
theorem zwL_lost (a1 : Int32) (a2 : Int32)  (s0 : zM) (s1 : zM) (s2 : zM) (s3 : zM) (q : Nat) (f : Nat → Int64) (ad1 : zR → Nat) : ∀ b, fWB_lost a1 a2 s0 s1 s2 s3 = some (.inl b) → zAw yL_lost cL_lost 5 (some .int) [(0, 10, 13, 21)] 8 133 0 0 [.ref (ad1 (0, 0, 0)), .int a1, .int a2, .ref q] (fun cA => zwl cA ad1 [(2, [1, 2, 3]), (0, []), (0, []), (1, [])] [s0, s1, s2, s3] ++ [(q, .inl (cA 5, 1, .inr (.inl f)))]) (fun cA v ws => v = some (.int 0) ∧ ws = zwl cA ad1 [(2, [1, 2, 3]), (0, []), (0, []), (1, [])] [s0, s1, s2, s3] ++ [(q, .inl (cA 5, 1, .inr (.inl (vp_updL f 0 b.toInt64))))]) := by
  intro b h
  refine zAw_of (by decide) (Nat.le_of_ble_eq_true rfl) fun X F T HX => ?_
  show zN X 0 0 8 133 _ 5 0 [(0, .ref (ad1 (0, 0, 0))), (1, .int a1), (2, .int a2), (3, .ref q)] [] (zwl (zcA X) ad1 [(2, [1, 2, 3]), (0, []), (0, []), (1, [])] [s0, s1, s2, s3] ++ [(q, .inl (zcA X 5, 1, .inr (.inl f)))]) 0 0
  refine zn_aload_n F (i := 3) (k := 3) dL_lost_0 rfl rfl ?_
  refine zn_iconst F (v := 0) dL_lost_1 (by decide) ?_
  refine zn_aload_n F (i := 0) (k := 0) dL_lost_2 rfl rfl ?_
  refine zn_iload_n F (i := 1) (k := 1) dL_lost_3 rfl rfl ?_
  refine zn_iload_n F (i := 2) (k := 2) dL_lost_4 rfl rfl ?_
  refine zn_callV F (as := [.int a1, .int a2]) (st := [.int 0, .ref q]) (j0 := 0) (zAl_z (v := (some (zi b))) (as := [zr 0 0 0, zi a1, zi a2]) (Rg := [(2, [1, 2, 3]), (0, []), (0, []), (1, [])]) (Ms := [s0, s1, s2, s3]) (Ms' := [s0, s1, s2, s3]) (zfWB_lost a1 a2 s0 s1 s2 s3 _ h) rfl ad1) dL_lost_5 wcL_62 wyL_lost rfl rfl (ci := 8) rfl rfl rfl (Nat.le_of_ble_eq_true rfl) (Nat.le_of_ble_eq_true rfl) (Nat.le_of_ble_eq_true rfl) (Nat.le_refl _) (Nat.le_refl _) fun v w1 hB => ?_
  obtain ⟨rfl, rfl⟩ := hB
  refine zn_i2l F dL_lost_8 ?_
  refine zn_lastE F dL_lost_9 (by decide) rfl (vp_in_nI (n := 0) (by decide) (by decide)) (jn := 0) (by decide) ?_
  refine zn_goto F (tgt := 17) dL_lost_10 (by decide) ?_
  refine zn_iconst F (v := 0) dL_lost_17 (by decide) ?_
  exact zn_toX (zn_ireturn F T dL_lost_18 ⟨rfl, rfl⟩ (Nat.le_refl _) (Nat.le_refl _))
set_option maxHeartbeats 1000000 in
set_option maxRecDepth 20000 in
theorem zwL_lost_1 (a1 : Int32) (a2 : Int32)  (s0 : zM) (s1 : zM) (s2 : zM) (s3 : zM) (q : Nat) (f : Nat → Int64) (ad1 : zR → Nat) : fWB_lost a1 a2 s0 s1 s2 s3 = some (.inr "java/lang/IndexOutOfBoundsException") → zAw yL_lost cL_lost 5 (some .int) [(0, 10, 13, 21)] 8 133 1 6 [.ref (ad1 (0, 0, 0)), .int a1, .int a2, .ref q] (fun cA => zwl cA ad1 [(2, [1, 2, 3]), (0, []), (0, []), (1, [])] [s0, s1, s2, s3] ++ [(q, .inl (cA 5, 1, .inr (.inl f)))]) (fun cA v ws => v = some (.int 1) ∧ ws = zwl cA ad1 [(2, [1, 2, 3]), (0, []), (0, []), (1, [])] [s0, s1, s2, s3] ++ [(q, .inl (cA 5, 1, .inr (.inl f)))]) := by
  intro h
  refine zAw_of (by decide) (Nat.le_of_ble_eq_true rfl) fun X F T HX => ?_
  show zN X 1 6 8 133 _ 5 0 [(0, .ref (ad1 (0, 0, 0))), (1, .int a1), (2, .int a2), (3, .ref q)] [] (zwl (zcA X) ad1 [(2, [1, 2, 3]), (0, []), (0, []), (1, [])] [s0, s1, s2, s3] ++ [(q, .inl (zcA X 5, 1, .inr (.inl f)))]) 0 0
  refine zn_aload_n F (i := 3) (k := 3) dL_lost_0 rfl rfl ?_
  refine zn_iconst F (v := 0) dL_lost_1 (by decide) ?_
  refine zn_aload_n F (i := 0) (k := 0) dL_lost_2 rfl rfl ?_
  refine zn_iload_n F (i := 1) (k := 1) dL_lost_3 rfl rfl ?_
  refine zn_iload_n F (i := 2) (k := 2) dL_lost_4 rfl rfl ?_
  refine zn_callX F (as := [.int a1, .int a2]) (st := [.int 0, .ref q]) (j0 := 0) (zAx_z (E := "java/lang/IndexOutOfBoundsException") (as := [zr 0 0 0, zi a1, zi a2]) (Rg := [(2, [1, 2, 3]), (0, []), (0, []), (1, [])]) (Ms := [s0, s1, s2, s3]) (Ms' := [s0, s1, s2, s3]) (zfWB_lost a1 a2 s0 s1 s2 s3 _ h) rfl ad1) dL_lost_5 wcL_62 wyL_lost rfl rfl (ci := 8) rfl rfl rfl (Nat.le_of_ble_eq_true rfl) (Nat.le_of_ble_eq_true rfl) (Nat.le_of_ble_eq_true rfl) (Nat.le_refl _) (Nat.le_refl _) ?_
  refine zE_catch F HX (pre := []) (x := (0, 10, 13, 21)) (suf := []) rfl (fun z hz => nomatch hz) (by decide) wkL_21 (by decide +kernel) fun q9 => ?_
  refine zn_astore F (i := 4) (lv' := [(4, .ref q9), (0, .ref (ad1 (0, 0, 0))), (1, .int a1), (2, .int a2), (3, .ref q)]) dL_lost_13 (by decide) rfl ?_
  refine zn_iconst F (v := 1) dL_lost_15 (by decide) ?_
  exact zn_toX (zn_ireturn F T dL_lost_16 ⟨rfl, rfl⟩ (Nat.le_refl _) (Nat.le_refl _))
theorem dL_wake_0 : decode cL_wake 0 = .ok (.aload_n 3, 1) := by decide +kernel
theorem dL_wake_1 : decode cL_wake 1 = .ok (.iconst 0, 1) := by decide +kernel
theorem dL_wake_2 : decode cL_wake 2 = .ok (.aload_n 0, 1) := by decide +kernel
theorem dL_wake_3 : decode cL_wake 3 = .ok (.iload_n 1, 1) := by decide +kernel
theorem dL_wake_4 : decode cL_wake 4 = .ok (.iload_n 2, 1) := by decide +kernel
theorem dL_wake_5 : decode cL_wake 5 = .ok (.invokevirtual 65, 3) := by decide +kernel
theorem dL_wake_8 : decode cL_wake 8 = .ok (.i2l, 1) := by decide +kernel
theorem dL_wake_9 : decode cL_wake 9 = .ok (.lastore, 1) := by decide +kernel
theorem dL_wake_10 : decode cL_wake 10 = .ok (.goto 7, 3) := by decide +kernel
theorem dL_wake_13 : decode cL_wake 13 = .ok (.astore 4, 2) := by decide +kernel
theorem dL_wake_15 : decode cL_wake 15 = .ok (.iconst 1, 1) := by decide +kernel
theorem dL_wake_16 : decode cL_wake 16 = .ok (.ireturn, 1) := by decide +kernel
theorem dL_wake_17 : decode cL_wake 17 = .ok (.iconst 0, 1) := by decide +kernel
theorem dL_wake_18 : decode cL_wake 18 = .ok (.ireturn, 1) := by decide +kernel
theorem wcL_65 : Cond.methodLink RL 65 yX9_wake ∈ zTg ∧ Cond.instanceMethod yX9_wake ∈ zTg ∧ Cond.selects "WakeBanks" yX9_wake yX9_wake ∈ zTg ∧ Cond.initialized "WakeBanks" ∈ zTg ∧ Cond.code yX9_wake cX9_wake 3 (some .int) ∈ zTg := ⟨zm_f 929 (by decide +kernel) rfl, zm_f 554 (by decide +kernel) rfl, zm_f 555 (by decide +kernel) rfl, zm_f 37 (by decide +kernel) rfl, zm_f 556 (by decide +kernel) rfl⟩
theorem wyL_wake : yX9_wake.cls = "WakeBanks" ∧ yX9_wake.cls ≠ "java/lang/invoke/MethodHandle" ∧ yX9_wake.cls ≠ "java/lang/invoke/VarHandle" ∧ (parseMethodDescriptor yX9_wake.desc).map (fun d => d.parameters.length) = some 2 := by decide +kernel
set_option maxHeartbeats 1000000 in
set_option maxRecDepth 20000 in
theorem zwL_wake (a1 : Int32) (a2 : Int32)  (s0 : zM) (s1 : zM) (s2 : zM) (s3 : zM) (q : Nat) (f : Nat → Int64) (ad1 : zR → Nat) : ∀ b, fWB_wake a1 a2 s0 s1 s2 s3 = some (.inl b) → zAw yL_wake cL_wake 5 (some .int) [(0, 10, 13, 21)] 8 133 0 0 [.ref (ad1 (0, 0, 0)), .int a1, .int a2, .ref q] (fun cA => zwl cA ad1 [(2, [1, 2, 3]), (0, []), (0, []), (1, [])] [s0, s1, s2, s3] ++ [(q, .inl (cA 5, 1, .inr (.inl f)))]) (fun cA v ws => v = some (.int 0) ∧ ws = zwl cA ad1 [(2, [1, 2, 3]), (0, []), (0, []), (1, [])] [s0, s1, s2, s3] ++ [(q, .inl (cA 5, 1, .inr (.inl (vp_updL f 0 b.toInt64))))]) := by
  intro b h
  refine zAw_of (by decide) (Nat.le_of_ble_eq_true rfl) fun X F T HX => ?_
  show zN X 0 0 8 133 _ 5 0 [(0, .ref (ad1 (0, 0, 0))), (1, .int a1), (2, .int a2), (3, .ref q)] [] (zwl (zcA X) ad1 [(2, [1, 2, 3]), (0, []), (0, []), (1, [])] [s0, s1, s2, s3] ++ [(q, .inl (zcA X 5, 1, .inr (.inl f)))]) 0 0
  refine zn_aload_n F (i := 3) (k := 3) dL_wake_0 rfl rfl ?_
  refine zn_iconst F (v := 0) dL_wake_1 (by decide) ?_
  refine zn_aload_n F (i := 0) (k := 0) dL_wake_2 rfl rfl ?_
  refine zn_iload_n F (i := 1) (k := 1) dL_wake_3 rfl rfl ?_
  refine zn_iload_n F (i := 2) (k := 2) dL_wake_4 rfl rfl ?_
  refine zn_callV F (as := [.int a1, .int a2]) (st := [.int 0, .ref q]) (j0 := 0) (zAl_z (v := (some (zi b))) (as := [zr 0 0 0, zi a1, zi a2]) (Rg := [(2, [1, 2, 3]), (0, []), (0, []), (1, [])]) (Ms := [s0, s1, s2, s3]) (Ms' := [s0, s1, s2, s3]) (zfWB_wake a1 a2 s0 s1 s2 s3 _ h) rfl ad1) dL_wake_5 wcL_65 wyL_wake rfl rfl (ci := 8) rfl rfl rfl (Nat.le_of_ble_eq_true rfl) (Nat.le_of_ble_eq_true rfl) (Nat.le_of_ble_eq_true rfl) (Nat.le_refl _) (Nat.le_refl _) fun v w1 hB => ?_
  obtain ⟨rfl, rfl⟩ := hB
  refine zn_i2l F dL_wake_8 ?_
  refine zn_lastE F dL_wake_9 (by decide) rfl (vp_in_nI (n := 0) (by decide) (by decide)) (jn := 0) (by decide) ?_
  refine zn_goto F (tgt := 17) dL_wake_10 (by decide) ?_
  refine zn_iconst F (v := 0) dL_wake_17 (by decide) ?_
  exact zn_toX (zn_ireturn F T dL_wake_18 ⟨rfl, rfl⟩ (Nat.le_refl _) (Nat.le_refl _))
set_option maxHeartbeats 1000000 in
set_option maxRecDepth 20000 in
theorem zwL_wake_1 (a1 : Int32) (a2 : Int32)  (s0 : zM) (s1 : zM) (s2 : zM) (s3 : zM) (q : Nat) (f : Nat → Int64) (ad1 : zR → Nat) : fWB_wake a1 a2 s0 s1 s2 s3 = some (.inr "java/lang/IndexOutOfBoundsException") → zAw yL_wake cL_wake 5 (some .int) [(0, 10, 13, 21)] 8 133 1 6 [.ref (ad1 (0, 0, 0)), .int a1, .int a2, .ref q] (fun cA => zwl cA ad1 [(2, [1, 2, 3]), (0, []), (0, []), (1, [])] [s0, s1, s2, s3] ++ [(q, .inl (cA 5, 1, .inr (.inl f)))]) (fun cA v ws => v = some (.int 1) ∧ ws = zwl cA ad1 [(2, [1, 2, 3]), (0, []), (0, []), (1, [])] [s0, s1, s2, s3] ++ [(q, .inl (cA 5, 1, .inr (.inl f)))]) := by
  intro h
  refine zAw_of (by decide) (Nat.le_of_ble_eq_true rfl) fun X F T HX => ?_
  show zN X 1 6 8 133 _ 5 0 [(0, .ref (ad1 (0, 0, 0))), (1, .int a1), (2, .int a2), (3, .ref q)] [] (zwl (zcA X) ad1 [(2, [1, 2, 3]), (0, []), (0, []), (1, [])] [s0, s1, s2, s3] ++ [(q, .inl (zcA X 5, 1, .inr (.inl f)))]) 0 0
  refine zn_aload_n F (i := 3) (k := 3) dL_wake_0 rfl rfl ?_
  refine zn_iconst F (v := 0) dL_wake_1 (by decide) ?_
  refine zn_aload_n F (i := 0) (k := 0) dL_wake_2 rfl rfl ?_
  refine zn_iload_n F (i := 1) (k := 1) dL_wake_3 rfl rfl ?_
  refine zn_iload_n F (i := 2) (k := 2) dL_wake_4 rfl rfl ?_
  refine zn_callX F (as := [.int a1, .int a2]) (st := [.int 0, .ref q]) (j0 := 0) (zAx_z (E := "java/lang/IndexOutOfBoundsException") (as := [zr 0 0 0, zi a1, zi a2]) (Rg := [(2, [1, 2, 3]), (0, []), (0, []), (1, [])]) (Ms := [s0, s1, s2, s3]) (Ms' := [s0, s1, s2, s3]) (zfWB_wake a1 a2 s0 s1 s2 s3 _ h) rfl ad1) dL_wake_5 wcL_65 wyL_wake rfl rfl (ci := 8) rfl rfl rfl (Nat.le_of_ble_eq_true rfl) (Nat.le_of_ble_eq_true rfl) (Nat.le_of_ble_eq_true rfl) (Nat.le_refl _) (Nat.le_refl _) ?_
  refine zE_catch F HX (pre := []) (x := (0, 10, 13, 21)) (suf := []) rfl (fun z hz => nomatch hz) (by decide) wkL_21 (by decide +kernel) fun q9 => ?_
  refine zn_astore F (i := 4) (lv' := [(4, .ref q9), (0, .ref (ad1 (0, 0, 0))), (1, .int a1), (2, .int a2), (3, .ref q)]) dL_wake_13 (by decide) rfl ?_
  refine zn_iconst F (v := 1) dL_wake_15 (by decide) ?_
  exact zn_toX (zn_ireturn F T dL_wake_16 ⟨rfl, rfl⟩ (Nat.le_refl _) (Nat.le_refl _))
theorem dL_extreme_0 : decode cL_extreme 0 = .ok (.aload_n 3, 1) := by decide +kernel
theorem dL_extreme_1 : decode cL_extreme 1 = .ok (.iconst 0, 1) := by decide +kernel
theorem dL_extreme_2 : decode cL_extreme 2 = .ok (.aload_n 0, 1) := by decide +kernel
theorem dL_extreme_3 : decode cL_extreme 3 = .ok (.iload_n 1, 1) := by decide +kernel
theorem dL_extreme_4 : decode cL_extreme 4 = .ok (.iload_n 2, 1) := by decide +kernel
theorem dL_extreme_5 : decode cL_extreme 5 = .ok (.invokevirtual 68, 3) := by decide +kernel
theorem dL_extreme_8 : decode cL_extreme 8 = .ok (.i2l, 1) := by decide +kernel
theorem dL_extreme_9 : decode cL_extreme 9 = .ok (.lastore, 1) := by decide +kernel
theorem dL_extreme_10 : decode cL_extreme 10 = .ok (.goto 7, 3) := by decide +kernel
theorem dL_extreme_13 : decode cL_extreme 13 = .ok (.astore 4, 2) := by decide +kernel
theorem dL_extreme_15 : decode cL_extreme 15 = .ok (.iconst 1, 1) := by decide +kernel
theorem dL_extreme_16 : decode cL_extreme 16 = .ok (.ireturn, 1) := by decide +kernel
theorem dL_extreme_17 : decode cL_extreme 17 = .ok (.iconst 0, 1) := by decide +kernel
theorem dL_extreme_18 : decode cL_extreme 18 = .ok (.ireturn, 1) := by decide +kernel
theorem wcL_68 : Cond.methodLink RL 68 yX9_extreme ∈ zTg ∧ Cond.instanceMethod yX9_extreme ∈ zTg ∧ Cond.selects "WakeBanks" yX9_extreme yX9_extreme ∈ zTg ∧ Cond.initialized "WakeBanks" ∈ zTg ∧ Cond.code yX9_extreme cX9_extreme 4 (some .int) ∈ zTg := ⟨zm_f 933 (by decide +kernel) rfl, zm_f 549 (by decide +kernel) rfl, zm_f 550 (by decide +kernel) rfl, zm_f 37 (by decide +kernel) rfl, zm_f 551 (by decide +kernel) rfl⟩
theorem wyL_extreme : yX9_extreme.cls = "WakeBanks" ∧ yX9_extreme.cls ≠ "java/lang/invoke/MethodHandle" ∧ yX9_extreme.cls ≠ "java/lang/invoke/VarHandle" ∧ (parseMethodDescriptor yX9_extreme.desc).map (fun d => d.parameters.length) = some 2 := by decide +kernel
set_option maxHeartbeats 1000000 in
set_option maxRecDepth 20000 in
theorem zwL_extreme (a1 : Int32) (a2 : Int32)  (s0 : zM) (s1 : zM) (s2 : zM) (s3 : zM) (q : Nat) (f : Nat → Int64) (ad1 : zR → Nat) : ∀ b, fWB_extreme a1 a2 s0 s1 s2 s3 = some (.inl b) → zAw yL_extreme cL_extreme 5 (some .int) [(0, 10, 13, 21)] 8 134 0 0 [.ref (ad1 (0, 0, 0)), .int a1, .int a2, .ref q] (fun cA => zwl cA ad1 [(2, [1, 2, 3]), (0, []), (0, []), (1, [])] [s0, s1, s2, s3] ++ [(q, .inl (cA 5, 1, .inr (.inl f)))]) (fun cA v ws => v = some (.int 0) ∧ ws = zwl cA ad1 [(2, [1, 2, 3]), (0, []), (0, []), (1, [])] [s0, s1, s2, s3] ++ [(q, .inl (cA 5, 1, .inr (.inl (vp_updL f 0 b.toInt64))))]) := by
  intro b h
  refine zAw_of (by decide) (Nat.le_of_ble_eq_true rfl) fun X F T HX => ?_
  show zN X 0 0 8 134 _ 5 0 [(0, .ref (ad1 (0, 0, 0))), (1, .int a1), (2, .int a2), (3, .ref q)] [] (zwl (zcA X) ad1 [(2, [1, 2, 3]), (0, []), (0, []), (1, [])] [s0, s1, s2, s3] ++ [(q, .inl (zcA X 5, 1, .inr (.inl f)))]) 0 0
  refine zn_aload_n F (i := 3) (k := 3) dL_extreme_0 rfl rfl ?_
  refine zn_iconst F (v := 0) dL_extreme_1 (by decide) ?_
  refine zn_aload_n F (i := 0) (k := 0) dL_extreme_2 rfl rfl ?_
  refine zn_iload_n F (i := 1) (k := 1) dL_extreme_3 rfl rfl ?_
  refine zn_iload_n F (i := 2) (k := 2) dL_extreme_4 rfl rfl ?_
  refine zn_callV F (as := [.int a1, .int a2]) (st := [.int 0, .ref q]) (j0 := 0) (zAl_z (v := (some (zi b))) (as := [zr 0 0 0, zi a1, zi a2]) (Rg := [(2, [1, 2, 3]), (0, []), (0, []), (1, [])]) (Ms := [s0, s1, s2, s3]) (Ms' := [s0, s1, s2, s3]) (zfWB_extreme a1 a2 s0 s1 s2 s3 _ h) rfl ad1) dL_extreme_5 wcL_68 wyL_extreme rfl rfl (ci := 8) rfl rfl rfl (Nat.le_of_ble_eq_true rfl) (Nat.le_of_ble_eq_true rfl) (Nat.le_of_ble_eq_true rfl) (Nat.le_refl _) (Nat.le_refl _) fun v w1 hB => ?_
  obtain ⟨rfl, rfl⟩ := hB
  refine zn_i2l F dL_extreme_8 ?_
  refine zn_lastE F dL_extreme_9 (by decide) rfl (vp_in_nI (n := 0) (by decide) (by decide)) (jn := 0) (by decide) ?_
  refine zn_goto F (tgt := 17) dL_extreme_10 (by decide) ?_
  refine zn_iconst F (v := 0) dL_extreme_17 (by decide) ?_
  exact zn_toX (zn_ireturn F T dL_extreme_18 ⟨rfl, rfl⟩ (Nat.le_refl _) (Nat.le_refl _))
set_option maxHeartbeats 1000000 in
set_option maxRecDepth 20000 in
theorem zwL_extreme_1 (a1 : Int32) (a2 : Int32)  (s0 : zM) (s1 : zM) (s2 : zM) (s3 : zM) (q : Nat) (f : Nat → Int64) (ad1 : zR → Nat) : fWB_extreme a1 a2 s0 s1 s2 s3 = some (.inr "java/lang/IndexOutOfBoundsException") → zAw yL_extreme cL_extreme 5 (some .int) [(0, 10, 13, 21)] 8 134 1 6 [.ref (ad1 (0, 0, 0)), .int a1, .int a2, .ref q] (fun cA => zwl cA ad1 [(2, [1, 2, 3]), (0, []), (0, []), (1, [])] [s0, s1, s2, s3] ++ [(q, .inl (cA 5, 1, .inr (.inl f)))]) (fun cA v ws => v = some (.int 1) ∧ ws = zwl cA ad1 [(2, [1, 2, 3]), (0, []), (0, []), (1, [])] [s0, s1, s2, s3] ++ [(q, .inl (cA 5, 1, .inr (.inl f)))]) := by
  intro h
  refine zAw_of (by decide) (Nat.le_of_ble_eq_true rfl) fun X F T HX => ?_
  show zN X 1 6 8 134 _ 5 0 [(0, .ref (ad1 (0, 0, 0))), (1, .int a1), (2, .int a2), (3, .ref q)] [] (zwl (zcA X) ad1 [(2, [1, 2, 3]), (0, []), (0, []), (1, [])] [s0, s1, s2, s3] ++ [(q, .inl (zcA X 5, 1, .inr (.inl f)))]) 0 0
  refine zn_aload_n F (i := 3) (k := 3) dL_extreme_0 rfl rfl ?_
  refine zn_iconst F (v := 0) dL_extreme_1 (by decide) ?_
  refine zn_aload_n F (i := 0) (k := 0) dL_extreme_2 rfl rfl ?_
  refine zn_iload_n F (i := 1) (k := 1) dL_extreme_3 rfl rfl ?_
  refine zn_iload_n F (i := 2) (k := 2) dL_extreme_4 rfl rfl ?_
  refine zn_callX F (as := [.int a1, .int a2]) (st := [.int 0, .ref q]) (j0 := 0) (zAx_z (E := "java/lang/IndexOutOfBoundsException") (as := [zr 0 0 0, zi a1, zi a2]) (Rg := [(2, [1, 2, 3]), (0, []), (0, []), (1, [])]) (Ms := [s0, s1, s2, s3]) (Ms' := [s0, s1, s2, s3]) (zfWB_extreme a1 a2 s0 s1 s2 s3 _ h) rfl ad1) dL_extreme_5 wcL_68 wyL_extreme rfl rfl (ci := 8) rfl rfl rfl (Nat.le_of_ble_eq_true rfl) (Nat.le_of_ble_eq_true rfl) (Nat.le_of_ble_eq_true rfl) (Nat.le_refl _) (Nat.le_refl _) ?_
  refine zE_catch F HX (pre := []) (x := (0, 10, 13, 21)) (suf := []) rfl (fun z hz => nomatch hz) (by decide) wkL_21 (by decide +kernel) fun q9 => ?_
  refine zn_astore F (i := 4) (lv' := [(4, .ref q9), (0, .ref (ad1 (0, 0, 0))), (1, .int a1), (2, .int a2), (3, .ref q)]) dL_extreme_13 (by decide) rfl ?_
  refine zn_iconst F (v := 1) dL_extreme_15 (by decide) ?_
  exact zn_toX (zn_ireturn F T dL_extreme_16 ⟨rfl, rfl⟩ (Nat.le_refl _) (Nat.le_refl _))
theorem dL_ofString_0 : decode cL_ofString 0 = .ok (.aload_n 3, 1) := by decide +kernel
theorem dL_ofString_1 : decode cL_ofString 1 = .ok (.iconst 0, 1) := by decide +kernel
theorem dL_ofString_2 : decode cL_ofString 2 = .ok (.aload_n 0, 1) := by decide +kernel
theorem dL_ofString_3 : decode cL_ofString 3 = .ok (.iload_n 1, 1) := by decide +kernel
theorem dL_ofString_4 : decode cL_ofString 4 = .ok (.iload_n 2, 1) := by decide +kernel
theorem dL_ofString_5 : decode cL_ofString 5 = .ok (.invokevirtual 71, 3) := by decide +kernel
theorem dL_ofString_8 : decode cL_ofString 8 = .ok (.i2l, 1) := by decide +kernel
theorem dL_ofString_9 : decode cL_ofString 9 = .ok (.lastore, 1) := by decide +kernel
theorem dL_ofString_10 : decode cL_ofString 10 = .ok (.goto 11, 3) := by decide +kernel
theorem dL_ofString_13 : decode cL_ofString 13 = .ok (.astore 4, 2) := by decide +kernel
theorem dL_ofString_15 : decode cL_ofString 15 = .ok (.iconst 1, 1) := by decide +kernel
theorem dL_ofString_16 : decode cL_ofString 16 = .ok (.ireturn, 1) := by decide +kernel
theorem dL_ofString_17 : decode cL_ofString 17 = .ok (.astore 4, 2) := by decide +kernel
theorem dL_ofString_19 : decode cL_ofString 19 = .ok (.iconst 2, 1) := by decide +kernel
theorem dL_ofString_20 : decode cL_ofString 20 = .ok (.ireturn, 1) := by decide +kernel
theorem dL_ofString_21 : decode cL_ofString 21 = .ok (.iconst 0, 1) := by decide +kernel
theorem dL_ofString_22 : decode cL_ofString 22 = .ok (.ireturn, 1) := by decide +kernel
theorem wcL_71 : Cond.methodLink RL 71 yX9_ofString ∈ zTg ∧ Cond.instanceMethod yX9_ofString ∈ zTg ∧ Cond.selects "WakeBanks" yX9_ofString yX9_ofString ∈ zTg ∧ Cond.initialized "WakeBanks" ∈ zTg ∧ Cond.code yX9_ofString cX9_ofString 4 (some .int) ∈ zTg := ⟨zm_f 937 (by decide +kernel) rfl, zm_f 717 (by decide +kernel) rfl, zm_f 718 (by decide +kernel) rfl, zm_f 37 (by decide +kernel) rfl, zm_f 719 (by decide +kernel) rfl⟩
theorem wyL_ofString : yX9_ofString.cls = "WakeBanks" ∧ yX9_ofString.cls ≠ "java/lang/invoke/MethodHandle" ∧ yX9_ofString.cls ≠ "java/lang/invoke/VarHandle" ∧ (parseMethodDescriptor yX9_ofString.desc).map (fun d => d.parameters.length) = some 2 := by decide +kernel
set_option maxHeartbeats 1000000 in
set_option maxRecDepth 20000 in
theorem zwL_ofString (a1 : Int32) (a2 : Int32)  (s0 : zM) (s1 : zM) (s2 : zM) (s3 : zM) (q : Nat) (f : Nat → Int64) (ad1 : zR → Nat) : ∀ b, fWB_ofString a1 a2 s0 s1 s2 s3 = some (.inl b) → zAw yL_ofString cL_ofString 5 (some .int) [(0, 10, 13, 21), (0, 10, 17, 13)] 8 134 0 0 [.ref (ad1 (0, 0, 0)), .int a1, .int a2, .ref q] (fun cA => zwl cA ad1 [(2, [1, 2, 3]), (0, []), (0, []), (1, [])] [s0, s1, s2, s3] ++ [(q, .inl (cA 5, 1, .inr (.inl f)))]) (fun cA v ws => v = some (.int 0) ∧ ws = zwl cA ad1 [(2, [1, 2, 3]), (0, []), (0, []), (1, [])] [s0, s1, s2, s3] ++ [(q, .inl (cA 5, 1, .inr (.inl (vp_updL f 0 b.toInt64))))]) := by
  intro b h
  refine zAw_of (by decide) (Nat.le_of_ble_eq_true rfl) fun X F T HX => ?_
  show zN X 0 0 8 134 _ 5 0 [(0, .ref (ad1 (0, 0, 0))), (1, .int a1), (2, .int a2), (3, .ref q)] [] (zwl (zcA X) ad1 [(2, [1, 2, 3]), (0, []), (0, []), (1, [])] [s0, s1, s2, s3] ++ [(q, .inl (zcA X 5, 1, .inr (.inl f)))]) 0 0
  refine zn_aload_n F (i := 3) (k := 3) dL_ofString_0 rfl rfl ?_
  refine zn_iconst F (v := 0) dL_ofString_1 (by decide) ?_
  refine zn_aload_n F (i := 0) (k := 0) dL_ofString_2 rfl rfl ?_
  refine zn_iload_n F (i := 1) (k := 1) dL_ofString_3 rfl rfl ?_
  refine zn_iload_n F (i := 2) (k := 2) dL_ofString_4 rfl rfl ?_
  refine zn_callV F (as := [.int a1, .int a2]) (st := [.int 0, .ref q]) (j0 := 0) (zAl_z (v := (some (zi b))) (as := [zr 0 0 0, zi a1, zi a2]) (Rg := [(2, [1, 2, 3]), (0, []), (0, []), (1, [])]) (Ms := [s0, s1, s2, s3]) (Ms' := [s0, s1, s2, s3]) (zfWB_ofString a1 a2 s0 s1 s2 s3 _ h) rfl ad1) dL_ofString_5 wcL_71 wyL_ofString rfl rfl (ci := 8) rfl rfl rfl (Nat.le_of_ble_eq_true rfl) (Nat.le_of_ble_eq_true rfl) (Nat.le_of_ble_eq_true rfl) (Nat.le_refl _) (Nat.le_refl _) fun v w1 hB => ?_
  obtain ⟨rfl, rfl⟩ := hB
  refine zn_i2l F dL_ofString_8 ?_
  refine zn_lastE F dL_ofString_9 (by decide) rfl (vp_in_nI (n := 0) (by decide) (by decide)) (jn := 0) (by decide) ?_
  refine zn_goto F (tgt := 21) dL_ofString_10 (by decide) ?_
  refine zn_iconst F (v := 0) dL_ofString_21 (by decide) ?_
  exact zn_toX (zn_ireturn F T dL_ofString_22 ⟨rfl, rfl⟩ (Nat.le_refl _) (Nat.le_refl _))
set_option maxHeartbeats 1000000 in
set_option maxRecDepth 20000 in
theorem zwL_ofString_1 (a1 : Int32) (a2 : Int32)  (s0 : zM) (s1 : zM) (s2 : zM) (s3 : zM) (q : Nat) (f : Nat → Int64) (ad1 : zR → Nat) : fWB_ofString a1 a2 s0 s1 s2 s3 = some (.inr "java/lang/IndexOutOfBoundsException") → zAw yL_ofString cL_ofString 5 (some .int) [(0, 10, 13, 21), (0, 10, 17, 13)] 8 134 1 6 [.ref (ad1 (0, 0, 0)), .int a1, .int a2, .ref q] (fun cA => zwl cA ad1 [(2, [1, 2, 3]), (0, []), (0, []), (1, [])] [s0, s1, s2, s3] ++ [(q, .inl (cA 5, 1, .inr (.inl f)))]) (fun cA v ws => v = some (.int 1) ∧ ws = zwl cA ad1 [(2, [1, 2, 3]), (0, []), (0, []), (1, [])] [s0, s1, s2, s3] ++ [(q, .inl (cA 5, 1, .inr (.inl f)))]) := by
  intro h
  refine zAw_of (by decide) (Nat.le_of_ble_eq_true rfl) fun X F T HX => ?_
  show zN X 1 6 8 134 _ 5 0 [(0, .ref (ad1 (0, 0, 0))), (1, .int a1), (2, .int a2), (3, .ref q)] [] (zwl (zcA X) ad1 [(2, [1, 2, 3]), (0, []), (0, []), (1, [])] [s0, s1, s2, s3] ++ [(q, .inl (zcA X 5, 1, .inr (.inl f)))]) 0 0
  refine zn_aload_n F (i := 3) (k := 3) dL_ofString_0 rfl rfl ?_
  refine zn_iconst F (v := 0) dL_ofString_1 (by decide) ?_
  refine zn_aload_n F (i := 0) (k := 0) dL_ofString_2 rfl rfl ?_
  refine zn_iload_n F (i := 1) (k := 1) dL_ofString_3 rfl rfl ?_
  refine zn_iload_n F (i := 2) (k := 2) dL_ofString_4 rfl rfl ?_
  refine zn_callX F (as := [.int a1, .int a2]) (st := [.int 0, .ref q]) (j0 := 0) (zAx_z (E := "java/lang/IndexOutOfBoundsException") (as := [zr 0 0 0, zi a1, zi a2]) (Rg := [(2, [1, 2, 3]), (0, []), (0, []), (1, [])]) (Ms := [s0, s1, s2, s3]) (Ms' := [s0, s1, s2, s3]) (zfWB_ofString a1 a2 s0 s1 s2 s3 _ h) rfl ad1) dL_ofString_5 wcL_71 wyL_ofString rfl rfl (ci := 8) rfl rfl rfl (Nat.le_of_ble_eq_true rfl) (Nat.le_of_ble_eq_true rfl) (Nat.le_of_ble_eq_true rfl) (Nat.le_refl _) (Nat.le_refl _) ?_
  refine zE_catch F HX (pre := []) (x := (0, 10, 13, 21)) (suf := [(0, 10, 17, 13)]) rfl (fun z hz => nomatch hz) (by decide) wkL_21 (by decide +kernel) fun q9 => ?_
  refine zn_astore F (i := 4) (lv' := [(4, .ref q9), (0, .ref (ad1 (0, 0, 0))), (1, .int a1), (2, .int a2), (3, .ref q)]) dL_ofString_13 (by decide) rfl ?_
  refine zn_iconst F (v := 1) dL_ofString_15 (by decide) ?_
  exact zn_toX (zn_ireturn F T dL_ofString_16 ⟨rfl, rfl⟩ (Nat.le_refl _) (Nat.le_refl _))
set_option maxHeartbeats 1000000 in
set_option maxRecDepth 20000 in
theorem zwL_ofString_2 (a1 : Int32) (a2 : Int32)  (s0 : zM) (s1 : zM) (s2 : zM) (s3 : zM) (q : Nat) (f : Nat → Int64) (ad1 : zR → Nat) : fWB_ofString a1 a2 s0 s1 s2 s3 = some (.inr "java/lang/IllegalArgumentException") → zAw yL_ofString cL_ofString 5 (some .int) [(0, 10, 13, 21), (0, 10, 17, 13)] 8 134 1 6 [.ref (ad1 (0, 0, 0)), .int a1, .int a2, .ref q] (fun cA => zwl cA ad1 [(2, [1, 2, 3]), (0, []), (0, []), (1, [])] [s0, s1, s2, s3] ++ [(q, .inl (cA 5, 1, .inr (.inl f)))]) (fun cA v ws => v = some (.int 2) ∧ ws = zwl cA ad1 [(2, [1, 2, 3]), (0, []), (0, []), (1, [])] [s0, s1, s2, s3] ++ [(q, .inl (cA 5, 1, .inr (.inl f)))]) := by
  intro h
  refine zAw_of (by decide) (Nat.le_of_ble_eq_true rfl) fun X F T HX => ?_
  show zN X 1 6 8 134 _ 5 0 [(0, .ref (ad1 (0, 0, 0))), (1, .int a1), (2, .int a2), (3, .ref q)] [] (zwl (zcA X) ad1 [(2, [1, 2, 3]), (0, []), (0, []), (1, [])] [s0, s1, s2, s3] ++ [(q, .inl (zcA X 5, 1, .inr (.inl f)))]) 0 0
  refine zn_aload_n F (i := 3) (k := 3) dL_ofString_0 rfl rfl ?_
  refine zn_iconst F (v := 0) dL_ofString_1 (by decide) ?_
  refine zn_aload_n F (i := 0) (k := 0) dL_ofString_2 rfl rfl ?_
  refine zn_iload_n F (i := 1) (k := 1) dL_ofString_3 rfl rfl ?_
  refine zn_iload_n F (i := 2) (k := 2) dL_ofString_4 rfl rfl ?_
  refine zn_callX F (as := [.int a1, .int a2]) (st := [.int 0, .ref q]) (j0 := 0) (zAx_z (E := "java/lang/IllegalArgumentException") (as := [zr 0 0 0, zi a1, zi a2]) (Rg := [(2, [1, 2, 3]), (0, []), (0, []), (1, [])]) (Ms := [s0, s1, s2, s3]) (Ms' := [s0, s1, s2, s3]) (zfWB_ofString a1 a2 s0 s1 s2 s3 _ h) rfl ad1) dL_ofString_5 wcL_71 wyL_ofString rfl rfl (ci := 8) rfl rfl rfl (Nat.le_of_ble_eq_true rfl) (Nat.le_of_ble_eq_true rfl) (Nat.le_of_ble_eq_true rfl) (Nat.le_refl _) (Nat.le_refl _) ?_
  refine zE_catch F HX (pre := [(0, 10, 13, 21)]) (x := (0, 10, 17, 13)) (suf := []) rfl (by
    intro z hz
    simp only [List.mem_cons, List.not_mem_nil, or_false] at hz
    subst hz
    exact ⟨by decide, _, wkL_21, by decide +kernel⟩) (by decide) wkL_13 (by decide +kernel) fun q9 => ?_
  refine zn_astore F (i := 4) (lv' := [(4, .ref q9), (0, .ref (ad1 (0, 0, 0))), (1, .int a1), (2, .int a2), (3, .ref q)]) dL_ofString_17 (by decide) rfl ?_
  refine zn_iconst F (v := 2) dL_ofString_19 (by decide) ?_
  exact zn_toX (zn_ireturn F T dL_ofString_20 ⟨rfl, rfl⟩ (Nat.le_refl _) (Nat.le_refl _))
theorem dL_ofVessel_0 : decode cL_ofVessel 0 = .ok (.aload_n 3, 1) := by decide +kernel
theorem dL_ofVessel_1 : decode cL_ofVessel 1 = .ok (.iconst 0, 1) := by decide +kernel
theorem dL_ofVessel_2 : decode cL_ofVessel 2 = .ok (.aload_n 0, 1) := by decide +kernel
theorem dL_ofVessel_3 : decode cL_ofVessel 3 = .ok (.iload_n 1, 1) := by decide +kernel
theorem dL_ofVessel_4 : decode cL_ofVessel 4 = .ok (.iload_n 2, 1) := by decide +kernel
theorem dL_ofVessel_5 : decode cL_ofVessel 5 = .ok (.invokevirtual 74, 3) := by decide +kernel
theorem dL_ofVessel_8 : decode cL_ofVessel 8 = .ok (.i2l, 1) := by decide +kernel
theorem dL_ofVessel_9 : decode cL_ofVessel 9 = .ok (.lastore, 1) := by decide +kernel
theorem dL_ofVessel_10 : decode cL_ofVessel 10 = .ok (.goto 11, 3) := by decide +kernel
theorem dL_ofVessel_13 : decode cL_ofVessel 13 = .ok (.astore 4, 2) := by decide +kernel
theorem dL_ofVessel_15 : decode cL_ofVessel 15 = .ok (.iconst 1, 1) := by decide +kernel
theorem dL_ofVessel_16 : decode cL_ofVessel 16 = .ok (.ireturn, 1) := by decide +kernel
theorem dL_ofVessel_17 : decode cL_ofVessel 17 = .ok (.astore 4, 2) := by decide +kernel
theorem dL_ofVessel_19 : decode cL_ofVessel 19 = .ok (.iconst 2, 1) := by decide +kernel
theorem dL_ofVessel_20 : decode cL_ofVessel 20 = .ok (.ireturn, 1) := by decide +kernel
theorem dL_ofVessel_21 : decode cL_ofVessel 21 = .ok (.iconst 0, 1) := by decide +kernel
theorem dL_ofVessel_22 : decode cL_ofVessel 22 = .ok (.ireturn, 1) := by decide +kernel
theorem wcL_74 : Cond.methodLink RL 74 yX9_ofVessel ∈ zTg ∧ Cond.instanceMethod yX9_ofVessel ∈ zTg ∧ Cond.selects "WakeBanks" yX9_ofVessel yX9_ofVessel ∈ zTg ∧ Cond.initialized "WakeBanks" ∈ zTg ∧ Cond.code yX9_ofVessel cX9_ofVessel 4 (some .int) ∈ zTg := ⟨zm_f 941 (by decide +kernel) rfl, zm_f 728 (by decide +kernel) rfl, zm_f 729 (by decide +kernel) rfl, zm_f 37 (by decide +kernel) rfl, zm_f 730 (by decide +kernel) rfl⟩
theorem wyL_ofVessel : yX9_ofVessel.cls = "WakeBanks" ∧ yX9_ofVessel.cls ≠ "java/lang/invoke/MethodHandle" ∧ yX9_ofVessel.cls ≠ "java/lang/invoke/VarHandle" ∧ (parseMethodDescriptor yX9_ofVessel.desc).map (fun d => d.parameters.length) = some 2 := by decide +kernel
set_option maxHeartbeats 1000000 in
set_option maxRecDepth 20000 in
theorem zwL_ofVessel (a1 : Int32) (a2 : Int32)  (s0 : zM) (s1 : zM) (s2 : zM) (s3 : zM) (q : Nat) (f : Nat → Int64) (ad1 : zR → Nat) : ∀ b, fWB_ofVessel a1 a2 s0 s1 s2 s3 = some (.inl b) → zAw yL_ofVessel cL_ofVessel 5 (some .int) [(0, 10, 13, 21), (0, 10, 17, 13)] 8 134 0 0 [.ref (ad1 (0, 0, 0)), .int a1, .int a2, .ref q] (fun cA => zwl cA ad1 [(2, [1, 2, 3]), (0, []), (0, []), (1, [])] [s0, s1, s2, s3] ++ [(q, .inl (cA 5, 1, .inr (.inl f)))]) (fun cA v ws => v = some (.int 0) ∧ ws = zwl cA ad1 [(2, [1, 2, 3]), (0, []), (0, []), (1, [])] [s0, s1, s2, s3] ++ [(q, .inl (cA 5, 1, .inr (.inl (vp_updL f 0 b.toInt64))))]) := by
  intro b h
  refine zAw_of (by decide) (Nat.le_of_ble_eq_true rfl) fun X F T HX => ?_
  show zN X 0 0 8 134 _ 5 0 [(0, .ref (ad1 (0, 0, 0))), (1, .int a1), (2, .int a2), (3, .ref q)] [] (zwl (zcA X) ad1 [(2, [1, 2, 3]), (0, []), (0, []), (1, [])] [s0, s1, s2, s3] ++ [(q, .inl (zcA X 5, 1, .inr (.inl f)))]) 0 0
  refine zn_aload_n F (i := 3) (k := 3) dL_ofVessel_0 rfl rfl ?_
  refine zn_iconst F (v := 0) dL_ofVessel_1 (by decide) ?_
  refine zn_aload_n F (i := 0) (k := 0) dL_ofVessel_2 rfl rfl ?_
  refine zn_iload_n F (i := 1) (k := 1) dL_ofVessel_3 rfl rfl ?_
  refine zn_iload_n F (i := 2) (k := 2) dL_ofVessel_4 rfl rfl ?_
  refine zn_callV F (as := [.int a1, .int a2]) (st := [.int 0, .ref q]) (j0 := 0) (zAl_z (v := (some (zi b))) (as := [zr 0 0 0, zi a1, zi a2]) (Rg := [(2, [1, 2, 3]), (0, []), (0, []), (1, [])]) (Ms := [s0, s1, s2, s3]) (Ms' := [s0, s1, s2, s3]) (zfWB_ofVessel a1 a2 s0 s1 s2 s3 _ h) rfl ad1) dL_ofVessel_5 wcL_74 wyL_ofVessel rfl rfl (ci := 8) rfl rfl rfl (Nat.le_of_ble_eq_true rfl) (Nat.le_of_ble_eq_true rfl) (Nat.le_of_ble_eq_true rfl) (Nat.le_refl _) (Nat.le_refl _) fun v w1 hB => ?_
  obtain ⟨rfl, rfl⟩ := hB
  refine zn_i2l F dL_ofVessel_8 ?_
  refine zn_lastE F dL_ofVessel_9 (by decide) rfl (vp_in_nI (n := 0) (by decide) (by decide)) (jn := 0) (by decide) ?_
  refine zn_goto F (tgt := 21) dL_ofVessel_10 (by decide) ?_
  refine zn_iconst F (v := 0) dL_ofVessel_21 (by decide) ?_
  exact zn_toX (zn_ireturn F T dL_ofVessel_22 ⟨rfl, rfl⟩ (Nat.le_refl _) (Nat.le_refl _))
set_option maxHeartbeats 1000000 in
set_option maxRecDepth 20000 in
theorem zwL_ofVessel_1 (a1 : Int32) (a2 : Int32)  (s0 : zM) (s1 : zM) (s2 : zM) (s3 : zM) (q : Nat) (f : Nat → Int64) (ad1 : zR → Nat) : fWB_ofVessel a1 a2 s0 s1 s2 s3 = some (.inr "java/lang/IndexOutOfBoundsException") → zAw yL_ofVessel cL_ofVessel 5 (some .int) [(0, 10, 13, 21), (0, 10, 17, 13)] 8 134 1 6 [.ref (ad1 (0, 0, 0)), .int a1, .int a2, .ref q] (fun cA => zwl cA ad1 [(2, [1, 2, 3]), (0, []), (0, []), (1, [])] [s0, s1, s2, s3] ++ [(q, .inl (cA 5, 1, .inr (.inl f)))]) (fun cA v ws => v = some (.int 1) ∧ ws = zwl cA ad1 [(2, [1, 2, 3]), (0, []), (0, []), (1, [])] [s0, s1, s2, s3] ++ [(q, .inl (cA 5, 1, .inr (.inl f)))]) := by
  intro h
  refine zAw_of (by decide) (Nat.le_of_ble_eq_true rfl) fun X F T HX => ?_
  show zN X 1 6 8 134 _ 5 0 [(0, .ref (ad1 (0, 0, 0))), (1, .int a1), (2, .int a2), (3, .ref q)] [] (zwl (zcA X) ad1 [(2, [1, 2, 3]), (0, []), (0, []), (1, [])] [s0, s1, s2, s3] ++ [(q, .inl (zcA X 5, 1, .inr (.inl f)))]) 0 0
  refine zn_aload_n F (i := 3) (k := 3) dL_ofVessel_0 rfl rfl ?_
  refine zn_iconst F (v := 0) dL_ofVessel_1 (by decide) ?_
  refine zn_aload_n F (i := 0) (k := 0) dL_ofVessel_2 rfl rfl ?_
  refine zn_iload_n F (i := 1) (k := 1) dL_ofVessel_3 rfl rfl ?_
  refine zn_iload_n F (i := 2) (k := 2) dL_ofVessel_4 rfl rfl ?_
  refine zn_callX F (as := [.int a1, .int a2]) (st := [.int 0, .ref q]) (j0 := 0) (zAx_z (E := "java/lang/IndexOutOfBoundsException") (as := [zr 0 0 0, zi a1, zi a2]) (Rg := [(2, [1, 2, 3]), (0, []), (0, []), (1, [])]) (Ms := [s0, s1, s2, s3]) (Ms' := [s0, s1, s2, s3]) (zfWB_ofVessel a1 a2 s0 s1 s2 s3 _ h) rfl ad1) dL_ofVessel_5 wcL_74 wyL_ofVessel rfl rfl (ci := 8) rfl rfl rfl (Nat.le_of_ble_eq_true rfl) (Nat.le_of_ble_eq_true rfl) (Nat.le_of_ble_eq_true rfl) (Nat.le_refl _) (Nat.le_refl _) ?_
  refine zE_catch F HX (pre := []) (x := (0, 10, 13, 21)) (suf := [(0, 10, 17, 13)]) rfl (fun z hz => nomatch hz) (by decide) wkL_21 (by decide +kernel) fun q9 => ?_
  refine zn_astore F (i := 4) (lv' := [(4, .ref q9), (0, .ref (ad1 (0, 0, 0))), (1, .int a1), (2, .int a2), (3, .ref q)]) dL_ofVessel_13 (by decide) rfl ?_
  refine zn_iconst F (v := 1) dL_ofVessel_15 (by decide) ?_
  exact zn_toX (zn_ireturn F T dL_ofVessel_16 ⟨rfl, rfl⟩ (Nat.le_refl _) (Nat.le_refl _))
set_option maxHeartbeats 1000000 in
set_option maxRecDepth 20000 in
theorem zwL_ofVessel_2 (a1 : Int32) (a2 : Int32)  (s0 : zM) (s1 : zM) (s2 : zM) (s3 : zM) (q : Nat) (f : Nat → Int64) (ad1 : zR → Nat) : fWB_ofVessel a1 a2 s0 s1 s2 s3 = some (.inr "java/lang/IllegalArgumentException") → zAw yL_ofVessel cL_ofVessel 5 (some .int) [(0, 10, 13, 21), (0, 10, 17, 13)] 8 134 1 6 [.ref (ad1 (0, 0, 0)), .int a1, .int a2, .ref q] (fun cA => zwl cA ad1 [(2, [1, 2, 3]), (0, []), (0, []), (1, [])] [s0, s1, s2, s3] ++ [(q, .inl (cA 5, 1, .inr (.inl f)))]) (fun cA v ws => v = some (.int 2) ∧ ws = zwl cA ad1 [(2, [1, 2, 3]), (0, []), (0, []), (1, [])] [s0, s1, s2, s3] ++ [(q, .inl (cA 5, 1, .inr (.inl f)))]) := by
  intro h
  refine zAw_of (by decide) (Nat.le_of_ble_eq_true rfl) fun X F T HX => ?_
  show zN X 1 6 8 134 _ 5 0 [(0, .ref (ad1 (0, 0, 0))), (1, .int a1), (2, .int a2), (3, .ref q)] [] (zwl (zcA X) ad1 [(2, [1, 2, 3]), (0, []), (0, []), (1, [])] [s0, s1, s2, s3] ++ [(q, .inl (zcA X 5, 1, .inr (.inl f)))]) 0 0
  refine zn_aload_n F (i := 3) (k := 3) dL_ofVessel_0 rfl rfl ?_
  refine zn_iconst F (v := 0) dL_ofVessel_1 (by decide) ?_
  refine zn_aload_n F (i := 0) (k := 0) dL_ofVessel_2 rfl rfl ?_
  refine zn_iload_n F (i := 1) (k := 1) dL_ofVessel_3 rfl rfl ?_
  refine zn_iload_n F (i := 2) (k := 2) dL_ofVessel_4 rfl rfl ?_
  refine zn_callX F (as := [.int a1, .int a2]) (st := [.int 0, .ref q]) (j0 := 0) (zAx_z (E := "java/lang/IllegalArgumentException") (as := [zr 0 0 0, zi a1, zi a2]) (Rg := [(2, [1, 2, 3]), (0, []), (0, []), (1, [])]) (Ms := [s0, s1, s2, s3]) (Ms' := [s0, s1, s2, s3]) (zfWB_ofVessel a1 a2 s0 s1 s2 s3 _ h) rfl ad1) dL_ofVessel_5 wcL_74 wyL_ofVessel rfl rfl (ci := 8) rfl rfl rfl (Nat.le_of_ble_eq_true rfl) (Nat.le_of_ble_eq_true rfl) (Nat.le_of_ble_eq_true rfl) (Nat.le_refl _) (Nat.le_refl _) ?_
  refine zE_catch F HX (pre := [(0, 10, 13, 21)]) (x := (0, 10, 17, 13)) (suf := []) rfl (by
    intro z hz
    simp only [List.mem_cons, List.not_mem_nil, or_false] at hz
    subst hz
    exact ⟨by decide, _, wkL_21, by decide +kernel⟩) (by decide) wkL_13 (by decide +kernel) fun q9 => ?_
  refine zn_astore F (i := 4) (lv' := [(4, .ref q9), (0, .ref (ad1 (0, 0, 0))), (1, .int a1), (2, .int a2), (3, .ref q)]) dL_ofVessel_17 (by decide) rfl ?_
  refine zn_iconst F (v := 2) dL_ofVessel_19 (by decide) ?_
  exact zn_toX (zn_ireturn F T dL_ofVessel_20 ⟨rfl, rfl⟩ (Nat.le_refl _) (Nat.le_refl _))
theorem dL_many_0 : decode cL_many 0 = .ok (.aload_n 2, 1) := by decide +kernel
theorem dL_many_1 : decode cL_many 1 = .ok (.iconst 0, 1) := by decide +kernel
theorem dL_many_2 : decode cL_many 2 = .ok (.aload_n 0, 1) := by decide +kernel
theorem dL_many_3 : decode cL_many 3 = .ok (.iload_n 1, 1) := by decide +kernel
theorem dL_many_4 : decode cL_many 4 = .ok (.invokevirtual 77, 3) := by decide +kernel
theorem dL_many_7 : decode cL_many 7 = .ok (.i2l, 1) := by decide +kernel
theorem dL_many_8 : decode cL_many 8 = .ok (.lastore, 1) := by decide +kernel
theorem dL_many_9 : decode cL_many 9 = .ok (.goto 6, 3) := by decide +kernel
theorem dL_many_12 : decode cL_many 12 = .ok (.astore_n 3, 1) := by decide +kernel
theorem dL_many_13 : decode cL_many 13 = .ok (.iconst 1, 1) := by decide +kernel
theorem dL_many_14 : decode cL_many 14 = .ok (.ireturn, 1) := by decide +kernel
theorem dL_many_15 : decode cL_many 15 = .ok (.iconst 0, 1) := by decide +kernel
theorem dL_many_16 : decode cL_many 16 = .ok (.ireturn, 1) := by decide +kernel
theorem wcL_77 : Cond.methodLink RL 77 yX9_many ∈ zTg ∧ Cond.instanceMethod yX9_many ∈ zTg ∧ Cond.selects "WakeBanks" yX9_many yX9_many ∈ zTg ∧ Cond.initialized "WakeBanks" ∈ zTg ∧ Cond.code yX9_many cX9_many 2 (some .int) ∈ zTg := ⟨zm_f 945 (by decide +kernel) rfl, zm_f 405 (by decide +kernel) rfl, zm_f 406 (by decide +kernel) rfl, zm_f 37 (by decide +kernel) rfl, zm_f 407 (by decide +kernel) rfl⟩
theorem wyL_many : yX9_many.cls = "WakeBanks" ∧ yX9_many.cls ≠ "java/lang/invoke/MethodHandle" ∧ yX9_many.cls ≠ "java/lang/invoke/VarHandle" ∧ (parseMethodDescriptor yX9_many.desc).map (fun d => d.parameters.length) = some 1 := by decide +kernel
set_option maxHeartbeats 1000000 in
set_option maxRecDepth 20000 in
theorem zwL_many (a1 : Int32)  (s0 : zM) (s1 : zM) (s2 : zM) (s3 : zM) (q : Nat) (f : Nat → Int64) (ad1 : zR → Nat) : ∀ b, fWB_many a1 s0 s1 s2 s3 = some (.inl b) → zAw yL_many cL_many 4 (some .int) [(0, 9, 12, 13)] 7 111 0 0 [.ref (ad1 (0, 0, 0)), .int a1, .ref q] (fun cA => zwl cA ad1 [(2, [1, 2, 3]), (0, []), (0, []), (1, [])] [s0, s1, s2, s3] ++ [(q, .inl (cA 5, 1, .inr (.inl f)))]) (fun cA v ws => v = some (.int 0) ∧ ws = zwl cA ad1 [(2, [1, 2, 3]), (0, []), (0, []), (1, [])] [s0, s1, s2, s3] ++ [(q, .inl (cA 5, 1, .inr (.inl (vp_updL f 0 b.toInt64))))]) := by
  intro b h
  refine zAw_of (by decide) (Nat.le_of_ble_eq_true rfl) fun X F T HX => ?_
  show zN X 0 0 7 111 _ 4 0 [(0, .ref (ad1 (0, 0, 0))), (1, .int a1), (2, .ref q)] [] (zwl (zcA X) ad1 [(2, [1, 2, 3]), (0, []), (0, []), (1, [])] [s0, s1, s2, s3] ++ [(q, .inl (zcA X 5, 1, .inr (.inl f)))]) 0 0
  refine zn_aload_n F (i := 2) (k := 2) dL_many_0 rfl rfl ?_
  refine zn_iconst F (v := 0) dL_many_1 (by decide) ?_
  refine zn_aload_n F (i := 0) (k := 0) dL_many_2 rfl rfl ?_
  refine zn_iload_n F (i := 1) (k := 1) dL_many_3 rfl rfl ?_
  refine zn_callV F (as := [.int a1]) (st := [.int 0, .ref q]) (j0 := 0) (zAl_z (v := (some (zi b))) (as := [zr 0 0 0, zi a1]) (Rg := [(2, [1, 2, 3]), (0, []), (0, []), (1, [])]) (Ms := [s0, s1, s2, s3]) (Ms' := [s0, s1, s2, s3]) (zfWB_many a1 s0 s1 s2 s3 _ h) rfl ad1) dL_many_4 wcL_77 wyL_many rfl rfl (ci := 8) rfl rfl rfl (Nat.le_of_ble_eq_true rfl) (Nat.le_of_ble_eq_true rfl) (Nat.le_of_ble_eq_true rfl) (Nat.le_refl _) (Nat.le_refl _) fun v w1 hB => ?_
  obtain ⟨rfl, rfl⟩ := hB
  refine zn_i2l F dL_many_7 ?_
  refine zn_lastE F dL_many_8 (by decide) rfl (vp_in_nI (n := 0) (by decide) (by decide)) (jn := 0) (by decide) ?_
  refine zn_goto F (tgt := 15) dL_many_9 (by decide) ?_
  refine zn_iconst F (v := 0) dL_many_15 (by decide) ?_
  exact zn_toX (zn_ireturn F T dL_many_16 ⟨rfl, rfl⟩ (Nat.le_refl _) (Nat.le_refl _))
set_option maxHeartbeats 1000000 in
set_option maxRecDepth 20000 in
theorem zwL_many_1 (a1 : Int32)  (s0 : zM) (s1 : zM) (s2 : zM) (s3 : zM) (q : Nat) (f : Nat → Int64) (ad1 : zR → Nat) : fWB_many a1 s0 s1 s2 s3 = some (.inr "java/lang/IllegalArgumentException") → zAw yL_many cL_many 4 (some .int) [(0, 9, 12, 13)] 7 111 1 6 [.ref (ad1 (0, 0, 0)), .int a1, .ref q] (fun cA => zwl cA ad1 [(2, [1, 2, 3]), (0, []), (0, []), (1, [])] [s0, s1, s2, s3] ++ [(q, .inl (cA 5, 1, .inr (.inl f)))]) (fun cA v ws => v = some (.int 1) ∧ ws = zwl cA ad1 [(2, [1, 2, 3]), (0, []), (0, []), (1, [])] [s0, s1, s2, s3] ++ [(q, .inl (cA 5, 1, .inr (.inl f)))]) := by
  intro h
  refine zAw_of (by decide) (Nat.le_of_ble_eq_true rfl) fun X F T HX => ?_
  show zN X 1 6 7 111 _ 4 0 [(0, .ref (ad1 (0, 0, 0))), (1, .int a1), (2, .ref q)] [] (zwl (zcA X) ad1 [(2, [1, 2, 3]), (0, []), (0, []), (1, [])] [s0, s1, s2, s3] ++ [(q, .inl (zcA X 5, 1, .inr (.inl f)))]) 0 0
  refine zn_aload_n F (i := 2) (k := 2) dL_many_0 rfl rfl ?_
  refine zn_iconst F (v := 0) dL_many_1 (by decide) ?_
  refine zn_aload_n F (i := 0) (k := 0) dL_many_2 rfl rfl ?_
  refine zn_iload_n F (i := 1) (k := 1) dL_many_3 rfl rfl ?_
  refine zn_callX F (as := [.int a1]) (st := [.int 0, .ref q]) (j0 := 0) (zAx_z (E := "java/lang/IllegalArgumentException") (as := [zr 0 0 0, zi a1]) (Rg := [(2, [1, 2, 3]), (0, []), (0, []), (1, [])]) (Ms := [s0, s1, s2, s3]) (Ms' := [s0, s1, s2, s3]) (zfWB_many a1 s0 s1 s2 s3 _ h) rfl ad1) dL_many_4 wcL_77 wyL_many rfl rfl (ci := 8) rfl rfl rfl (Nat.le_of_ble_eq_true rfl) (Nat.le_of_ble_eq_true rfl) (Nat.le_of_ble_eq_true rfl) (Nat.le_refl _) (Nat.le_refl _) ?_
  refine zE_catch F HX (pre := []) (x := (0, 9, 12, 13)) (suf := []) rfl (fun z hz => nomatch hz) (by decide) wkL_13 (by decide +kernel) fun q9 => ?_
  refine zn_astore_n F (i := 3) (lv' := [(3, .ref q9), (0, .ref (ad1 (0, 0, 0))), (1, .int a1), (2, .ref q)]) dL_many_12 rfl (by decide) rfl ?_
  refine zn_iconst F (v := 1) dL_many_13 (by decide) ?_
  exact zn_toX (zn_ireturn F T dL_many_14 ⟨rfl, rfl⟩ (Nat.le_refl _) (Nat.le_refl _))
theorem dL_wouldDeliver_0 : decode cL_wouldDeliver 0 = .ok (.aload_n 2, 1) := by decide +kernel
theorem dL_wouldDeliver_1 : decode cL_wouldDeliver 1 = .ok (.iconst 0, 1) := by decide +kernel
theorem dL_wouldDeliver_2 : decode cL_wouldDeliver 2 = .ok (.aload_n 0, 1) := by decide +kernel
theorem dL_wouldDeliver_3 : decode cL_wouldDeliver 3 = .ok (.iload_n 1, 1) := by decide +kernel
theorem dL_wouldDeliver_4 : decode cL_wouldDeliver 4 = .ok (.invokevirtual 80, 3) := by decide +kernel
theorem dL_wouldDeliver_7 : decode cL_wouldDeliver 7 = .ok (.i2l, 1) := by decide +kernel
theorem dL_wouldDeliver_8 : decode cL_wouldDeliver 8 = .ok (.lastore, 1) := by decide +kernel
theorem dL_wouldDeliver_9 : decode cL_wouldDeliver 9 = .ok (.goto 6, 3) := by decide +kernel
theorem dL_wouldDeliver_12 : decode cL_wouldDeliver 12 = .ok (.astore_n 3, 1) := by decide +kernel
theorem dL_wouldDeliver_13 : decode cL_wouldDeliver 13 = .ok (.iconst 1, 1) := by decide +kernel
theorem dL_wouldDeliver_14 : decode cL_wouldDeliver 14 = .ok (.ireturn, 1) := by decide +kernel
theorem dL_wouldDeliver_15 : decode cL_wouldDeliver 15 = .ok (.iconst 0, 1) := by decide +kernel
theorem dL_wouldDeliver_16 : decode cL_wouldDeliver 16 = .ok (.ireturn, 1) := by decide +kernel
theorem wcL_80 : Cond.methodLink RL 80 yX9_wouldDeliver ∈ zTg ∧ Cond.instanceMethod yX9_wouldDeliver ∈ zTg ∧ Cond.selects "WakeBanks" yX9_wouldDeliver yX9_wouldDeliver ∈ zTg ∧ Cond.initialized "WakeBanks" ∈ zTg ∧ Cond.code yX9_wouldDeliver cX9_wouldDeliver 2 (some .int) ∈ zTg := ⟨zm_f 949 (by decide +kernel) rfl, zm_f 738 (by decide +kernel) rfl, zm_f 739 (by decide +kernel) rfl, zm_f 37 (by decide +kernel) rfl, zm_f 740 (by decide +kernel) rfl⟩
theorem wyL_wouldDeliver : yX9_wouldDeliver.cls = "WakeBanks" ∧ yX9_wouldDeliver.cls ≠ "java/lang/invoke/MethodHandle" ∧ yX9_wouldDeliver.cls ≠ "java/lang/invoke/VarHandle" ∧ (parseMethodDescriptor yX9_wouldDeliver.desc).map (fun d => d.parameters.length) = some 1 := by decide +kernel
set_option maxHeartbeats 1000000 in
set_option maxRecDepth 20000 in
theorem zwL_wouldDeliver (a1 : Int32)  (s0 : zM) (s1 : zM) (s2 : zM) (s3 : zM) (q : Nat) (f : Nat → Int64) (ad1 : zR → Nat) : ∀ b, fWB_wouldDeliver a1 s0 s1 s2 s3 = some (.inl b) → zAw yL_wouldDeliver cL_wouldDeliver 4 (some .int) [(0, 9, 12, 13)] 7 154 0 0 [.ref (ad1 (0, 0, 0)), .int a1, .ref q] (fun cA => zwl cA ad1 [(2, [1, 2, 3]), (0, []), (0, []), (1, [])] [s0, s1, s2, s3] ++ [(q, .inl (cA 5, 1, .inr (.inl f)))]) (fun cA v ws => v = some (.int 0) ∧ ws = zwl cA ad1 [(2, [1, 2, 3]), (0, []), (0, []), (1, [])] [s0, s1, b.2, s3] ++ [(q, .inl (cA 5, 1, .inr (.inl (vp_updL f 0 b.1.toInt64))))]) := by
  intro b h
  refine zAw_of (by decide) (Nat.le_of_ble_eq_true rfl) fun X F T HX => ?_
  show zN X 0 0 7 154 _ 4 0 [(0, .ref (ad1 (0, 0, 0))), (1, .int a1), (2, .ref q)] [] (zwl (zcA X) ad1 [(2, [1, 2, 3]), (0, []), (0, []), (1, [])] [s0, s1, s2, s3] ++ [(q, .inl (zcA X 5, 1, .inr (.inl f)))]) 0 0
  refine zn_aload_n F (i := 2) (k := 2) dL_wouldDeliver_0 rfl rfl ?_
  refine zn_iconst F (v := 0) dL_wouldDeliver_1 (by decide) ?_
  refine zn_aload_n F (i := 0) (k := 0) dL_wouldDeliver_2 rfl rfl ?_
  refine zn_iload_n F (i := 1) (k := 1) dL_wouldDeliver_3 rfl rfl ?_
  refine zn_callV F (as := [.int a1]) (st := [.int 0, .ref q]) (j0 := 0) (zAl_z (v := (some (zi b.1))) (as := [zr 0 0 0, zi a1]) (Rg := [(2, [1, 2, 3]), (0, []), (0, []), (1, [])]) (Ms := [s0, s1, s2, s3]) (Ms' := [s0, s1, b.2, s3]) (zfWB_wouldDeliver a1 s0 s1 s2 s3 _ h) rfl ad1) dL_wouldDeliver_4 wcL_80 wyL_wouldDeliver rfl rfl (ci := 8) rfl rfl rfl (Nat.le_of_ble_eq_true rfl) (Nat.le_of_ble_eq_true rfl) (Nat.le_of_ble_eq_true rfl) (Nat.le_refl _) (Nat.le_refl _) fun v w1 hB => ?_
  obtain ⟨rfl, rfl⟩ := hB
  refine zn_i2l F dL_wouldDeliver_7 ?_
  refine zn_lastE F dL_wouldDeliver_8 (by decide) rfl (vp_in_nI (n := 0) (by decide) (by decide)) (jn := 0) (by decide) ?_
  refine zn_goto F (tgt := 15) dL_wouldDeliver_9 (by decide) ?_
  refine zn_iconst F (v := 0) dL_wouldDeliver_15 (by decide) ?_
  exact zn_toX (zn_ireturn F T dL_wouldDeliver_16 ⟨rfl, rfl⟩ (Nat.le_refl _) (Nat.le_refl _))
set_option maxHeartbeats 1000000 in
set_option maxRecDepth 20000 in
theorem zwL_wouldDeliver_1 (a1 : Int32)  (s0 : zM) (s1 : zM) (s2 : zM) (s3 : zM) (q : Nat) (f : Nat → Int64) (ad1 : zR → Nat) : ∀ b, fWB_wouldDeliver a1 s0 s1 s2 s3 = some (.inr ("java/lang/IllegalArgumentException", b)) → zAw yL_wouldDeliver cL_wouldDeliver 4 (some .int) [(0, 9, 12, 13)] 7 154 1 6 [.ref (ad1 (0, 0, 0)), .int a1, .ref q] (fun cA => zwl cA ad1 [(2, [1, 2, 3]), (0, []), (0, []), (1, [])] [s0, s1, s2, s3] ++ [(q, .inl (cA 5, 1, .inr (.inl f)))]) (fun cA v ws => v = some (.int 1) ∧ ws = zwl cA ad1 [(2, [1, 2, 3]), (0, []), (0, []), (1, [])] [s0, s1, b, s3] ++ [(q, .inl (cA 5, 1, .inr (.inl f)))]) := by
  intro b h
  refine zAw_of (by decide) (Nat.le_of_ble_eq_true rfl) fun X F T HX => ?_
  show zN X 1 6 7 154 _ 4 0 [(0, .ref (ad1 (0, 0, 0))), (1, .int a1), (2, .ref q)] [] (zwl (zcA X) ad1 [(2, [1, 2, 3]), (0, []), (0, []), (1, [])] [s0, s1, s2, s3] ++ [(q, .inl (zcA X 5, 1, .inr (.inl f)))]) 0 0
  refine zn_aload_n F (i := 2) (k := 2) dL_wouldDeliver_0 rfl rfl ?_
  refine zn_iconst F (v := 0) dL_wouldDeliver_1 (by decide) ?_
  refine zn_aload_n F (i := 0) (k := 0) dL_wouldDeliver_2 rfl rfl ?_
  refine zn_iload_n F (i := 1) (k := 1) dL_wouldDeliver_3 rfl rfl ?_
  refine zn_callX F (as := [.int a1]) (st := [.int 0, .ref q]) (j0 := 0) (zAx_z (E := "java/lang/IllegalArgumentException") (as := [zr 0 0 0, zi a1]) (Rg := [(2, [1, 2, 3]), (0, []), (0, []), (1, [])]) (Ms := [s0, s1, s2, s3]) (Ms' := [s0, s1, b, s3]) (zfWB_wouldDeliver a1 s0 s1 s2 s3 _ h) rfl ad1) dL_wouldDeliver_4 wcL_80 wyL_wouldDeliver rfl rfl (ci := 8) rfl rfl rfl (Nat.le_of_ble_eq_true rfl) (Nat.le_of_ble_eq_true rfl) (Nat.le_of_ble_eq_true rfl) (Nat.le_refl _) (Nat.le_refl _) ?_
  refine zE_catch F HX (pre := []) (x := (0, 9, 12, 13)) (suf := []) rfl (fun z hz => nomatch hz) (by decide) wkL_13 (by decide +kernel) fun q9 => ?_
  refine zn_astore_n F (i := 3) (lv' := [(3, .ref q9), (0, .ref (ad1 (0, 0, 0))), (1, .int a1), (2, .ref q)]) dL_wouldDeliver_12 rfl (by decide) rfl ?_
  refine zn_iconst F (v := 1) dL_wouldDeliver_13 (by decide) ?_
  exact zn_toX (zn_ireturn F T dL_wouldDeliver_14 ⟨rfl, rfl⟩ (Nat.le_refl _) (Nat.le_refl _))
theorem dL_bestTurn_0 : decode cL_bestTurn 0 = .ok (.aload_n 2, 1) := by decide +kernel
theorem dL_bestTurn_1 : decode cL_bestTurn 1 = .ok (.iconst 0, 1) := by decide +kernel
theorem dL_bestTurn_2 : decode cL_bestTurn 2 = .ok (.aload_n 0, 1) := by decide +kernel
theorem dL_bestTurn_3 : decode cL_bestTurn 3 = .ok (.iload_n 1, 1) := by decide +kernel
theorem dL_bestTurn_4 : decode cL_bestTurn 4 = .ok (.invokevirtual 83, 3) := by decide +kernel
theorem dL_bestTurn_7 : decode cL_bestTurn 7 = .ok (.i2l, 1) := by decide +kernel
theorem dL_bestTurn_8 : decode cL_bestTurn 8 = .ok (.lastore, 1) := by decide +kernel
theorem dL_bestTurn_9 : decode cL_bestTurn 9 = .ok (.goto 6, 3) := by decide +kernel
theorem dL_bestTurn_12 : decode cL_bestTurn 12 = .ok (.astore_n 3, 1) := by decide +kernel
theorem dL_bestTurn_13 : decode cL_bestTurn 13 = .ok (.iconst 1, 1) := by decide +kernel
theorem dL_bestTurn_14 : decode cL_bestTurn 14 = .ok (.ireturn, 1) := by decide +kernel
theorem dL_bestTurn_15 : decode cL_bestTurn 15 = .ok (.iconst 0, 1) := by decide +kernel
theorem dL_bestTurn_16 : decode cL_bestTurn 16 = .ok (.ireturn, 1) := by decide +kernel
theorem wcL_83 : Cond.methodLink RL 83 yX9_bestTurn ∈ zTg ∧ Cond.instanceMethod yX9_bestTurn ∈ zTg ∧ Cond.selects "WakeBanks" yX9_bestTurn yX9_bestTurn ∈ zTg ∧ Cond.initialized "WakeBanks" ∈ zTg ∧ Cond.code yX9_bestTurn cX9_bestTurn 6 (some .int) ∈ zTg := ⟨zm_f 953 (by decide +kernel) rfl, zm_f 559 (by decide +kernel) rfl, zm_f 560 (by decide +kernel) rfl, zm_f 37 (by decide +kernel) rfl, zm_f 561 (by decide +kernel) rfl⟩
theorem wyL_bestTurn : yX9_bestTurn.cls = "WakeBanks" ∧ yX9_bestTurn.cls ≠ "java/lang/invoke/MethodHandle" ∧ yX9_bestTurn.cls ≠ "java/lang/invoke/VarHandle" ∧ (parseMethodDescriptor yX9_bestTurn.desc).map (fun d => d.parameters.length) = some 1 := by decide +kernel
set_option maxHeartbeats 1000000 in
set_option maxRecDepth 20000 in
theorem zwL_bestTurn (a1 : Int32)  (s0 : zM) (s1 : zM) (s2 : zM) (s3 : zM) (q : Nat) (f : Nat → Int64) (ad1 : zR → Nat) : ∀ b, fWB_bestTurn a1 s0 s1 s2 s3 = some (.inl b) → zAw yL_bestTurn cL_bestTurn 4 (some .int) [(0, 9, 12, 21)] 8 149 0 0 [.ref (ad1 (0, 0, 0)), .int a1, .ref q] (fun cA => zwl cA ad1 [(2, [1, 2, 3]), (0, []), (0, []), (1, [])] [s0, s1, s2, s3] ++ [(q, .inl (cA 5, 1, .inr (.inl f)))]) (fun cA v ws => v = some (.int 0) ∧ ws = zwl cA ad1 [(2, [1, 2, 3]), (0, []), (0, []), (1, [])] [s0, s1, b.2, s3] ++ [(q, .inl (cA 5, 1, .inr (.inl (vp_updL f 0 b.1.toInt64))))]) := by
  intro b h
  refine zAw_of (by decide) (Nat.le_of_ble_eq_true rfl) fun X F T HX => ?_
  show zN X 0 0 8 149 _ 4 0 [(0, .ref (ad1 (0, 0, 0))), (1, .int a1), (2, .ref q)] [] (zwl (zcA X) ad1 [(2, [1, 2, 3]), (0, []), (0, []), (1, [])] [s0, s1, s2, s3] ++ [(q, .inl (zcA X 5, 1, .inr (.inl f)))]) 0 0
  refine zn_aload_n F (i := 2) (k := 2) dL_bestTurn_0 rfl rfl ?_
  refine zn_iconst F (v := 0) dL_bestTurn_1 (by decide) ?_
  refine zn_aload_n F (i := 0) (k := 0) dL_bestTurn_2 rfl rfl ?_
  refine zn_iload_n F (i := 1) (k := 1) dL_bestTurn_3 rfl rfl ?_
  refine zn_callV F (as := [.int a1]) (st := [.int 0, .ref q]) (j0 := 0) (zAl_z (v := (some (zi b.1))) (as := [zr 0 0 0, zi a1]) (Rg := [(2, [1, 2, 3]), (0, []), (0, []), (1, [])]) (Ms := [s0, s1, s2, s3]) (Ms' := [s0, s1, b.2, s3]) (zfWB_bestTurn a1 s0 s1 s2 s3 _ h) rfl ad1) dL_bestTurn_4 wcL_83 wyL_bestTurn rfl rfl (ci := 8) rfl rfl rfl (Nat.le_of_ble_eq_true rfl) (Nat.le_of_ble_eq_true rfl) (Nat.le_of_ble_eq_true rfl) (Nat.le_refl _) (Nat.le_refl _) fun v w1 hB => ?_
  obtain ⟨rfl, rfl⟩ := hB
  refine zn_i2l F dL_bestTurn_7 ?_
  refine zn_lastE F dL_bestTurn_8 (by decide) rfl (vp_in_nI (n := 0) (by decide) (by decide)) (jn := 0) (by decide) ?_
  refine zn_goto F (tgt := 15) dL_bestTurn_9 (by decide) ?_
  refine zn_iconst F (v := 0) dL_bestTurn_15 (by decide) ?_
  exact zn_toX (zn_ireturn F T dL_bestTurn_16 ⟨rfl, rfl⟩ (Nat.le_refl _) (Nat.le_refl _))
set_option maxHeartbeats 1000000 in
set_option maxRecDepth 20000 in
theorem zwL_bestTurn_1 (a1 : Int32)  (s0 : zM) (s1 : zM) (s2 : zM) (s3 : zM) (q : Nat) (f : Nat → Int64) (ad1 : zR → Nat) : ∀ b, fWB_bestTurn a1 s0 s1 s2 s3 = some (.inr ("java/lang/IndexOutOfBoundsException", b)) → zAw yL_bestTurn cL_bestTurn 4 (some .int) [(0, 9, 12, 21)] 8 149 1 6 [.ref (ad1 (0, 0, 0)), .int a1, .ref q] (fun cA => zwl cA ad1 [(2, [1, 2, 3]), (0, []), (0, []), (1, [])] [s0, s1, s2, s3] ++ [(q, .inl (cA 5, 1, .inr (.inl f)))]) (fun cA v ws => v = some (.int 1) ∧ ws = zwl cA ad1 [(2, [1, 2, 3]), (0, []), (0, []), (1, [])] [s0, s1, b, s3] ++ [(q, .inl (cA 5, 1, .inr (.inl f)))]) := by
  intro b h
  refine zAw_of (by decide) (Nat.le_of_ble_eq_true rfl) fun X F T HX => ?_
  show zN X 1 6 8 149 _ 4 0 [(0, .ref (ad1 (0, 0, 0))), (1, .int a1), (2, .ref q)] [] (zwl (zcA X) ad1 [(2, [1, 2, 3]), (0, []), (0, []), (1, [])] [s0, s1, s2, s3] ++ [(q, .inl (zcA X 5, 1, .inr (.inl f)))]) 0 0
  refine zn_aload_n F (i := 2) (k := 2) dL_bestTurn_0 rfl rfl ?_
  refine zn_iconst F (v := 0) dL_bestTurn_1 (by decide) ?_
  refine zn_aload_n F (i := 0) (k := 0) dL_bestTurn_2 rfl rfl ?_
  refine zn_iload_n F (i := 1) (k := 1) dL_bestTurn_3 rfl rfl ?_
  refine zn_callX F (as := [.int a1]) (st := [.int 0, .ref q]) (j0 := 0) (zAx_z (E := "java/lang/IndexOutOfBoundsException") (as := [zr 0 0 0, zi a1]) (Rg := [(2, [1, 2, 3]), (0, []), (0, []), (1, [])]) (Ms := [s0, s1, s2, s3]) (Ms' := [s0, s1, b, s3]) (zfWB_bestTurn a1 s0 s1 s2 s3 _ h) rfl ad1) dL_bestTurn_4 wcL_83 wyL_bestTurn rfl rfl (ci := 8) rfl rfl rfl (Nat.le_of_ble_eq_true rfl) (Nat.le_of_ble_eq_true rfl) (Nat.le_of_ble_eq_true rfl) (Nat.le_refl _) (Nat.le_refl _) ?_
  refine zE_catch F HX (pre := []) (x := (0, 9, 12, 21)) (suf := []) rfl (fun z hz => nomatch hz) (by decide) wkL_21 (by decide +kernel) fun q9 => ?_
  refine zn_astore_n F (i := 3) (lv' := [(3, .ref q9), (0, .ref (ad1 (0, 0, 0))), (1, .int a1), (2, .ref q)]) dL_bestTurn_12 rfl (by decide) rfl ?_
  refine zn_iconst F (v := 1) dL_bestTurn_13 (by decide) ?_
  exact zn_toX (zn_ireturn F T dL_bestTurn_14 ⟨rfl, rfl⟩ (Nat.le_refl _) (Nat.le_refl _))
