theorem dX9_outside_0 : decode cX9_outside 0 = .ok (.iload_n 0, 1) := by decide +kernel
theorem dX9_outside_1 : decode cX9_outside 1 = .ok (.iload_n 1, 1) := by decide +kernel
theorem dX9_outside_2 : decode cX9_outside 2 = .ok (.if_icmp .lt 8, 3) := by decide +kernel
theorem dX9_outside_5 : decode cX9_outside 5 = .ok (.iload_n 0, 1) := by decide +kernel
theorem dX9_outside_6 : decode cX9_outside 6 = .ok (.iload_n 2, 1) := by decide +kernel
theorem dX9_outside_7 : decode cX9_outside 7 = .ok (.if_icmp .le 7, 3) := by decide +kernel
theorem dX9_outside_10 : decode cX9_outside 10 = .ok (.iconst 1, 1) := by decide +kernel
theorem dX9_outside_11 : decode cX9_outside 11 = .ok (.goto 4, 3) := by decide +kernel
theorem dX9_outside_14 : decode cX9_outside 14 = .ok (.iconst 0, 1) := by decide +kernel
theorem dX9_outside_15 : decode cX9_outside 15 = .ok (.ireturn, 1) := by decide +kernel
def fWB_outside (a0 : Int32) (a1 : Int32) (a2 : Int32)  : Option (Int32) :=
  if a0 < a1 then
  some (1 : Int32)
else
  if a0 ≤ a2 then
    some (0 : Int32)
  else
    some (1 : Int32)
set_option maxHeartbeats 4000000 in
set_option maxRecDepth 20000 in
theorem bfWB_outside {X : zX} (F : zFr X cX9_outside 3 RX9 (some .boolean)) (a0 : Int32) (a1 : Int32) (a2 : Int32)   {κ : Int32 → Option zO} (hκ : ∀ a, κ a = some ((fun a => ((.inl ((fun q => some (zi q)) a), (fun _ => []) a) : zO)) a)) : zZ X [] 0 0 3 0 [some (zi a0), some (zi a1), some (zi a2)] [] [] (Option.bind (fWB_outside a0 a1 a2) κ) := by
  unfold fWB_outside
  refine zz_iload_n F (i := 0) dX9_outside_0 rfl rfl ?_
  refine zz_iload_n F (i := 1) dX9_outside_1 rfl rfl ?_
  refine zz_icmp_lt F (tgt := 10) dX9_outside_2 (by decide) (fun h => zz_t h ?_) (fun h => zz_f h ?_)
  · refine zz_iconst F (v := (1 : Int32)) dX9_outside_10 (by decide) ?_
    refine zz_goto F (tgt := 15) dX9_outside_11 (by decide) ?_
    exact zz_zreturn F dX9_outside_15 rfl rfl (hκ _)
  · refine zz_iload_n F (i := 0) dX9_outside_5 rfl rfl ?_
    refine zz_iload_n F (i := 2) dX9_outside_6 rfl rfl ?_
    refine zz_icmp_le F (tgt := 14) dX9_outside_7 (by decide) (fun h => zz_t h ?_) (fun h => zz_f h ?_)
    · refine zz_iconst F (v := (0 : Int32)) dX9_outside_14 (by decide) ?_
      exact zz_zreturn F dX9_outside_15 rfl rfl (hκ _)
    · refine zz_iconst F (v := (1 : Int32)) dX9_outside_10 (by decide) ?_
      refine zz_goto F (tgt := 15) dX9_outside_11 (by decide) ?_
      exact zz_zreturn F dX9_outside_15 rfl rfl (hκ _)
theorem zfWB_outside (a0 : Int32) (a1 : Int32) (a2 : Int32)   : ∀ a, fWB_outside a0 a1 a2 = some a → zMet yX9_outside cX9_outside 3 (some .boolean) 0 0 [] [zi a0, zi a1, zi a2] [] ((fun a => ((.inl ((fun q => some (zi q)) a), (fun _ => []) a) : zO)) a) := fun a ha => zMet_of (L0 := [some (zi a0), some (zi a1), some (zi a2)]) (φ := Option.bind (fWB_outside a0 a1 a2) (fun a => some ((fun a => ((.inl ((fun q => some (zi q)) a), (fun _ => []) a) : zO)) a))) (by decide) (fun _ => Nat.le_of_ble_eq_true rfl) (zl0 0 rfl) (fun X F => bfWB_outside F a0 a1 a2 (fun _ => rfl)) (by rw [ha]; rfl)

theorem dX3_addString_0 : decode cX3_addString 0 = .ok (.aload_n 0, 1) := by decide +kernel
theorem dX3_addString_1 : decode cX3_addString 1 = .ok (.getfield 19, 3) := by decide +kernel
theorem dX3_addString_4 : decode cX3_addString 4 = .ok (.aload_n 0, 1) := by decide +kernel
theorem dX3_addString_5 : decode cX3_addString 5 = .ok (.getfield 50, 3) := by decide +kernel
theorem dX3_addString_8 : decode cX3_addString 8 = .ok (.aaload, 1) := by decide +kernel
theorem dX3_addString_9 : decode cX3_addString 9 = .ok (.iload_n 1, 1) := by decide +kernel
theorem dX3_addString_10 : decode cX3_addString 10 = .ok (.putfield 53, 3) := by decide +kernel
theorem dX3_addString_13 : decode cX3_addString 13 = .ok (.aload_n 0, 1) := by decide +kernel
theorem dX3_addString_14 : decode cX3_addString 14 = .ok (.dup, 1) := by decide +kernel
theorem dX3_addString_15 : decode cX3_addString 15 = .ok (.getfield 50, 3) := by decide +kernel
theorem dX3_addString_18 : decode cX3_addString 18 = .ok (.iconst 1, 1) := by decide +kernel
theorem dX3_addString_19 : decode cX3_addString 19 = .ok (.iadd, 1) := by decide +kernel
theorem dX3_addString_20 : decode cX3_addString 20 = .ok (.putfield 50, 3) := by decide +kernel
theorem dX3_addString_23 : decode cX3_addString 23 = .ok (.aload_n 0, 1) := by decide +kernel
theorem dX3_addString_24 : decode cX3_addString 24 = .ok (.getfield 50, 3) := by decide +kernel
theorem dX3_addString_27 : decode cX3_addString 27 = .ok (.iconst 1, 1) := by decide +kernel
theorem dX3_addString_28 : decode cX3_addString 28 = .ok (.isub, 1) := by decide +kernel
theorem dX3_addString_29 : decode cX3_addString 29 = .ok (.ireturn, 1) := by decide +kernel
theorem wfRX3_19 : zFl RX3 19 3 1 := ⟨_, rfl, by decide, zm_f 282 (by decide +kernel) rfl⟩
theorem wfRX3_50 : zFl RX3 50 3 6 := ⟨_, rfl, by decide, zm_f 293 (by decide +kernel) rfl⟩
theorem wpRX3_53 : zFw RX3 53 0 0 .int := ⟨_, rfl, by decide, zm_f 231 (by decide +kernel) rfl, rfl, by decide +kernel⟩
theorem wpRX3_50 : zFw RX3 50 3 6 .int := ⟨_, rfl, by decide, zm_f 293 (by decide +kernel) rfl, rfl, by decide +kernel⟩
def fSe_addString (a1 : Int32) (s0 : zM) : Option (Int32 × zM) :=
  zix (s0 0 0 6) 3 fun j1 =>
  zlet (zu s0 12 j1 0 a1) fun s0_2 =>
  zlet (zu s0_2 0 0 6 ((s0_2 0 0 6) + (1 : Int32))) fun s0_3 =>
  some (((s0_3 0 0 6) - (1 : Int32)), s0_3)
set_option maxHeartbeats 4000000 in
set_option maxRecDepth 20000 in
theorem bfSe_addString {X : zX} (F : zFr X cX3_addString 2 RX3 (some .int)) (a1 : Int32)  (s0 : zM) {κ : Int32 × zM → Option zO} (hκ : ∀ a, κ a = some ((fun a => ((.inl ((fun q => some (zi q.1)) a), (fun q => [q.2]) a) : zO)) a)) : zZ X [(0, [])] 0 0 2 0 [some (zr 0 0 0), some (zi a1)] [] [s0] (Option.bind (fSe_addString a1 s0) κ) := by
  unfold fSe_addString
  refine zz_aload_n F (i := 0) dX3_addString_0 rfl rfl ?_
  refine zz_getr F dX3_addString_1 wfRX3_19 zCl_3 rfl (⟨zlb rfl, zlb rfl, zlb rfl⟩) rfl (by decide) rfl (r' := 0) (by decide) ?_
  refine zz_aload_n F (i := 0) dX3_addString_4 rfl rfl ?_
  refine zz_getf F dX3_addString_5 wfRX3_50 zCl_3 rfl (⟨zlb rfl, zlb rfl, zlb rfl⟩) rfl (by decide) rfl rfl ?_
  refine zz_ix fun j1 hj1 hinj1 hej1 => zz_aal F dX3_addString_8 rfl (⟨zlb rfl, zlb rfl, zlb rfl⟩) rfl (by decide) rfl hinj1 hej1 rfl ?_
  refine zz_iload_n F (i := 1) dX3_addString_9 rfl rfl ?_
  refine zz_put F (Ms' := [(zu s0 12 j1 0 a1)]) dX3_addString_10 wpRX3_53 zCl_0 rfl (⟨zlb rfl, zlb rfl, hj1⟩) rfl (by decide) rfl rfl rfl ?_
  refine zz_letm (Mf := fun s0_2 => [s0_2]) fun s0_2 => ?_
  refine zz_aload_n F (i := 0) dX3_addString_13 rfl rfl ?_
  refine zz_dup F dX3_addString_14 rfl ?_
  refine zz_getf F dX3_addString_15 wfRX3_50 zCl_3 rfl (⟨zlb rfl, zlb rfl, zlb rfl⟩) rfl (by decide) rfl rfl ?_
  refine zz_iconst F (v := (1 : Int32)) dX3_addString_18 (by decide) ?_
  refine zz_iadd F dX3_addString_19 ?_
  refine zz_put F (Ms' := [(zu s0_2 0 0 6 ((s0_2 0 0 6) + (1 : Int32)))]) dX3_addString_20 wpRX3_50 zCl_3 rfl (⟨zlb rfl, zlb rfl, zlb rfl⟩) rfl (by decide) rfl rfl rfl ?_
  refine zz_letm (Mf := fun s0_3 => [s0_3]) fun s0_3 => ?_
  refine zz_aload_n F (i := 0) dX3_addString_23 rfl rfl ?_
  refine zz_getf F dX3_addString_24 wfRX3_50 zCl_3 rfl (⟨zlb rfl, zlb rfl, zlb rfl⟩) rfl (by decide) rfl rfl ?_
  refine zz_iconst F (v := (1 : Int32)) dX3_addString_27 (by decide) ?_
  refine zz_isub F dX3_addString_28 ?_
  exact zz_ireturn F dX3_addString_29 rfl (hκ _)
theorem zfSe_addString (a1 : Int32)  (s0 : zM) : ∀ a, fSe_addString a1 s0 = some a → zMet yX3_addString cX3_addString 2 (some .int) 0 0 [(0, [])] [zr 0 0 0, zi a1] [s0] ((fun a => ((.inl ((fun q => some (zi q.1)) a), (fun q => [q.2]) a) : zO)) a) := fun a ha => zMet_of (L0 := [some (zr 0 0 0), some (zi a1)]) (φ := Option.bind (fSe_addString a1 s0) (fun a => some ((fun a => ((.inl ((fun q => some (zi q.1)) a), (fun q => [q.2]) a) : zO)) a))) (by decide) (fun _ => Nat.le_of_ble_eq_true rfl) (zl0 0 rfl) (fun X F => bfSe_addString F a1 s0 (fun _ => rfl)) (by rw [ha]; rfl)

theorem dX9_string_0 : decode cX9_string 0 = .ok (.iload_n 1, 1) := by decide +kernel
theorem dX9_string_1 : decode cX9_string 1 = .ok (.bipush 100, 2) := by decide +kernel
theorem dX9_string_3 : decode cX9_string 3 = .ok (.sipush 9999, 3) := by decide +kernel
theorem dX9_string_6 : decode cX9_string 6 = .ok (.invokestatic 26, 3) := by decide +kernel
theorem dX9_string_9 : decode cX9_string 9 = .ok (.ifCond .eq 13, 3) := by decide +kernel
theorem dX9_string_12 : decode cX9_string 12 = .ok (.new 30, 3) := by decide +kernel
theorem dX9_string_15 : decode cX9_string 15 = .ok (.dup, 1) := by decide +kernel
theorem dX9_string_16 : decode cX9_string 16 = .ok (.ldc 32, 2) := by decide +kernel
theorem dX9_string_18 : decode cX9_string 18 = .ok (.invokespecial 34, 3) := by decide +kernel
theorem dX9_string_21 : decode cX9_string 21 = .ok (.athrow, 1) := by decide +kernel
theorem dX9_string_22 : decode cX9_string 22 = .ok (.aload_n 0, 1) := by decide +kernel
theorem dX9_string_23 : decode cX9_string 23 = .ok (.getfield 10, 3) := by decide +kernel
theorem dX9_string_26 : decode cX9_string 26 = .ok (.getfield 37, 3) := by decide +kernel
theorem dX9_string_29 : decode cX9_string 29 = .ok (.iconst 3, 1) := by decide +kernel
theorem dX9_string_30 : decode cX9_string 30 = .ok (.if_icmp .lt 13, 3) := by decide +kernel
theorem dX9_string_33 : decode cX9_string 33 = .ok (.new 41, 3) := by decide +kernel
theorem dX9_string_36 : decode cX9_string 36 = .ok (.dup, 1) := by decide +kernel
theorem dX9_string_37 : decode cX9_string 37 = .ok (.ldc 43, 2) := by decide +kernel
theorem dX9_string_39 : decode cX9_string 39 = .ok (.invokespecial 45, 3) := by decide +kernel
theorem dX9_string_42 : decode cX9_string 42 = .ok (.athrow, 1) := by decide +kernel
theorem dX9_string_43 : decode cX9_string 43 = .ok (.aload_n 0, 1) := by decide +kernel
theorem dX9_string_44 : decode cX9_string 44 = .ok (.getfield 10, 3) := by decide +kernel
theorem dX9_string_47 : decode cX9_string 47 = .ok (.iload_n 1, 1) := by decide +kernel
theorem dX9_string_48 : decode cX9_string 48 = .ok (.invokevirtual 46, 3) := by decide +kernel
theorem dX9_string_51 : decode cX9_string 51 = .ok (.ireturn, 1) := by decide +kernel
theorem wcRX9_26 : Cond.methodLink RX9 26 yX9_outside ∈ zTg ∧ Cond.static yX9_outside ∈ zTg ∧ Cond.initialized yX9_outside.cls ∈ zTg ∧ Cond.code yX9_outside cX9_outside 3 (some .boolean) ∈ zTg := ⟨zm_f 539 (by decide +kernel) rfl, zm_f 540 (by decide +kernel) rfl, zm_f 37 (by decide +kernel) rfl, zm_f 541 (by decide +kernel) rfl⟩
theorem wy_yX9_outside : yX9_outside.cls ≠ "java/lang/invoke/MethodHandle" ∧ yX9_outside.cls ≠ "java/lang/invoke/VarHandle" ∧ (parseMethodDescriptor yX9_outside.desc).map (fun d => d.parameters.length) = some 3 := by decide +kernel
theorem rel0 : zRel [] [(2, [1, 2, 3]), (0, []), (0, []), (1, [])] [] := by unfold zRel; decide
theorem wfRX9_10 : zFl RX9 10 8 0 := ⟨_, rfl, by decide, zm_f 339 (by decide +kernel) rfl⟩
theorem wfRX9_37 : zFl RX9 37 3 6 := ⟨_, rfl, by decide, zm_f 294 (by decide +kernel) rfl⟩
theorem wcRX9_46 : Cond.methodLink RX9 46 yX3_addString ∈ zTg ∧ Cond.instanceMethod yX3_addString ∈ zTg ∧ Cond.selects RX3 yX3_addString yX3_addString ∈ zTg ∧ Cond.initialized RX3 ∈ zTg ∧ Cond.code yX3_addString cX3_addString 2 (some .int) ∈ zTg := ⟨zm_f 773 (by decide +kernel) rfl, zm_f 774 (by decide +kernel) rfl, zm_f 775 (by decide +kernel) rfl, zm_f 38 (by decide +kernel) rfl, zm_f 776 (by decide +kernel) rfl⟩
theorem wy_yX3_addString : yX3_addString.cls = RX3 ∧ yX3_addString.cls ≠ "java/lang/invoke/MethodHandle" ∧ yX3_addString.cls ≠ "java/lang/invoke/VarHandle" ∧ (parseMethodDescriptor yX3_addString.desc).map (fun d => d.parameters.length) = some 1 := by decide +kernel
theorem rel1 : zRel [1] [(2, [1, 2, 3]), (0, []), (0, []), (1, [])] [(0, [])] := by unfold zRel; decide
theorem wtRX9_41_45k : Cond.classLink RX9 41 "java/lang/IllegalStateException" ∈ zTg ∧ Cond.initialized "java/lang/IllegalStateException" ∈ zTg := ⟨zm_f 757 (by decide +kernel) rfl, zm_f 52 (by decide +kernel) rfl⟩
theorem wtRX9_41_45g : ∀ w ∈ (vx_atS RX9 45 "java/lang/IllegalStateException" ["java/lang/RuntimeException", "java/lang/Exception"]).filter goodWord, w ∈ zTg := by decide +kernel
theorem wtRX9_41_45n : ∀ w ∈ (vx_atS RX9 45 "java/lang/IllegalStateException" ["java/lang/RuntimeException", "java/lang/Exception"]).filter (fun w => !goodWord w), w ∈ zNws := by decide +kernel
theorem wtRX9_41_45o : ∀ w ∈ Cond.classLink RX9 41 "java/lang/IllegalStateException" :: Cond.initialized "java/lang/IllegalStateException" :: vx_atS RX9 45 "java/lang/IllegalStateException" ["java/lang/RuntimeException", "java/lang/Exception"], vx_ot w = true := by decide +kernel
theorem wsRX9_43 : (RX9, 43, "there are 3 STRINGS") ∈ zstr := by decide +kernel
theorem wtRX9_30_34k : Cond.classLink RX9 30 "java/lang/IllegalArgumentException" ∈ zTg ∧ Cond.initialized "java/lang/IllegalArgumentException" ∈ zTg := ⟨zm_f 420 (by decide +kernel) rfl, zm_f 51 (by decide +kernel) rfl⟩
theorem wtRX9_30_34g : ∀ w ∈ (vx_atS RX9 34 "java/lang/IllegalArgumentException" ["java/lang/RuntimeException", "java/lang/Exception"]).filter goodWord, w ∈ zTg := by decide +kernel
theorem wtRX9_30_34n : ∀ w ∈ (vx_atS RX9 34 "java/lang/IllegalArgumentException" ["java/lang/RuntimeException", "java/lang/Exception"]).filter (fun w => !goodWord w), w ∈ zNws := by decide +kernel
theorem wtRX9_30_34o : ∀ w ∈ Cond.classLink RX9 30 "java/lang/IllegalArgumentException" :: Cond.initialized "java/lang/IllegalArgumentException" :: vx_atS RX9 34 "java/lang/IllegalArgumentException" ["java/lang/RuntimeException", "java/lang/Exception"], vx_ot w = true := by decide +kernel
theorem wsRX9_32 : (RX9, 32, "a RATING is 100 to 9999") ∈ zstr := by decide +kernel
def fWB_string (a1 : Int32) (s0 : zM) (s1 : zM) (s2 : zM) (s3 : zM) : Option ((Int32 × zM) ⊕ (String × zM)) :=
  Option.bind (fWB_outside a1 (100 : Int32) (9999 : Int32)) fun q1 =>
  if q1 = 0 then
  if (s1 0 0 6) < (3 : Int32) then
    Option.bind (fSe_addString a1 s1) fun q2 =>
      some (.inl (q2.1, q2.2))
  else
    some (.inr ("java/lang/IllegalStateException", s1))
else
  some (.inr ("java/lang/IllegalArgumentException", s1))
set_option maxHeartbeats 4000000 in
set_option maxRecDepth 20000 in
theorem bfWB_string {X : zX} (F : zFr X cX9_string 2 RX9 (some .int)) (a1 : Int32)  (s0 : zM) (s1 : zM) (s2 : zM) (s3 : zM) {κ : (Int32 × zM) ⊕ (String × zM) → Option zO} (hκ : ∀ a, κ a = some ((zts (fun q => some (zi q.1)) (fun q => [s0, q.2, s2, s3]) (fun b => b.1) (fun b => [s0, b.2, s2, s3])) a)) : zZ X [(2, [1, 2, 3]), (0, []), (0, []), (1, [])] 6 90 2 0 [some (zr 0 0 0), some (zi a1)] [] [s0, s1, s2, s3] (Option.bind (fWB_string a1 s0 s1 s2 s3) κ) := by
  unfold fWB_string
  refine zz_iload_n F (i := 1) dX9_string_0 rfl rfl ?_
  refine zz_bipush F (v := (100 : Int32)) dX9_string_1 (by decide) ?_
  refine zz_sipush F (v := (9999 : Int32)) dX9_string_3 (by decide) ?_
  refine zz_bind ?_
  refine zz_callSr F (ρ := []) (so := fun q1 => [zi q1]) (Mo := fun q1 => [s0, s1, s2, s3]) (zfWB_outside a1 (100 : Int32) (9999 : Int32)) dX9_string_6 wcRX9_26 wy_yX9_outside rfl ⟨rel0, rfl, rfl, Nat.le_of_ble_eq_true rfl, Nat.le_of_ble_eq_true rfl, Nat.le_of_ble_eq_true rfl⟩ rfl (fun _ => rfl) (fun _ => rfl) fun q1 => ?_
  refine zz_if_eq F (tgt := 22) dX9_string_9 (by decide) (fun h => zz_t h ?_) (fun h => zz_f h ?_)
  · refine zz_aload_n F (i := 0) dX9_string_22 rfl rfl ?_
    refine zz_getr F dX9_string_23 wfRX9_10 zCl_8 rfl (⟨zlb rfl, zlb rfl, zlb rfl⟩) rfl (by decide) rfl (r' := 1) (by decide) ?_
    refine zz_getf F dX9_string_26 wfRX9_37 zCl_3 rfl (⟨zlb rfl, zlb rfl, zlb rfl⟩) rfl (by decide) rfl rfl ?_
    refine zz_iconst F (v := (3 : Int32)) dX9_string_29 (by decide) ?_
    refine zz_icmp_lt F (tgt := 43) dX9_string_30 (by decide) (fun h => zz_t h ?_) (fun h => zz_f h ?_)
    · refine zz_aload_n F (i := 0) dX9_string_43 rfl rfl ?_
      refine zz_getr F dX9_string_44 wfRX9_10 zCl_8 rfl (⟨zlb rfl, zlb rfl, zlb rfl⟩) rfl (by decide) rfl (r' := 1) (by decide) ?_
      refine zz_iload_n F (i := 1) dX9_string_47 rfl rfl ?_
      refine zz_bind ?_
      refine zz_callVr F (ρ := [1]) (so := fun q2 => [zi q2.1]) (Mo := fun q2 => [s0, q2.2, s2, s3]) (zfSe_addString a1 s1) dX9_string_48 wcRX9_46 wy_yX3_addString rfl ⟨rel1, rfl, rfl, Nat.le_of_ble_eq_true rfl, Nat.le_of_ble_eq_true rfl, Nat.le_of_ble_eq_true rfl⟩ (⟨zlb rfl, zlb rfl, zlb rfl⟩) rfl rfl rfl (fun _ => rfl) (fun _ => rfl) fun q2 => ?_
      exact zz_ireturn F dX9_string_51 rfl (hκ _)
    · exact zz_throw F (cls := "java/lang/IllegalStateException") dX9_string_33 dX9_string_36 dX9_string_37 dX9_string_39 dX9_string_42 (by decide) wtRX9_41_45k wsRX9_43 wtRX9_41_45g wtRX9_41_45n wtRX9_41_45o (Nat.le_of_ble_eq_true rfl) (Nat.le_of_ble_eq_true rfl) (hκ _)
  · exact zz_throw F (cls := "java/lang/IllegalArgumentException") dX9_string_12 dX9_string_15 dX9_string_16 dX9_string_18 dX9_string_21 (by decide) wtRX9_30_34k wsRX9_32 wtRX9_30_34g wtRX9_30_34n wtRX9_30_34o (Nat.le_of_ble_eq_true rfl) (Nat.le_of_ble_eq_true rfl) (hκ _)
theorem zfWB_string (a1 : Int32)  (s0 : zM) (s1 : zM) (s2 : zM) (s3 : zM) : ∀ a, fWB_string a1 s0 s1 s2 s3 = some a → zMet yX9_string cX9_string 2 (some .int) 6 90 [(2, [1, 2, 3]), (0, []), (0, []), (1, [])] [zr 0 0 0, zi a1] [s0, s1, s2, s3] ((zts (fun q => some (zi q.1)) (fun q => [s0, q.2, s2, s3]) (fun b => b.1) (fun b => [s0, b.2, s2, s3])) a) := fun a ha => zMet_of (L0 := [some (zr 0 0 0), some (zi a1)]) (φ := Option.bind (fWB_string a1 s0 s1 s2 s3) (fun a => some ((zts (fun q => some (zi q.1)) (fun q => [s0, q.2, s2, s3]) (fun b => b.1) (fun b => [s0, b.2, s2, s3])) a))) (by decide) (fun _ => Nat.le_of_ble_eq_true rfl) (zl0 0 rfl) (fun X F => bfWB_string F a1 s0 s1 s2 s3 (fun _ => rfl)) (by rw [ha]; rfl)

theorem dX9_checkString_0 : decode cX9_checkString 0 = .ok (.iload_n 1, 1) := by decide +kernel
theorem dX9_checkString_1 : decode cX9_checkString 1 = .ok (.ifCond .lt 14, 3) := by decide +kernel
theorem dX9_checkString_4 : decode cX9_checkString 4 = .ok (.iload_n 1, 1) := by decide +kernel
theorem dX9_checkString_5 : decode cX9_checkString 5 = .ok (.aload_n 0, 1) := by decide +kernel
theorem dX9_checkString_6 : decode cX9_checkString 6 = .ok (.getfield 10, 3) := by decide +kernel
theorem dX9_checkString_9 : decode cX9_checkString 9 = .ok (.getfield 37, 3) := by decide +kernel
theorem dX9_checkString_12 : decode cX9_checkString 12 = .ok (.if_icmp .lt 14, 3) := by decide +kernel
theorem dX9_checkString_15 : decode cX9_checkString 15 = .ok (.new 238, 3) := by decide +kernel
theorem dX9_checkString_18 : decode cX9_checkString 18 = .ok (.dup, 1) := by decide +kernel
theorem dX9_checkString_19 : decode cX9_checkString 19 = .ok (.ldc_w 364, 3) := by decide +kernel
theorem dX9_checkString_22 : decode cX9_checkString 22 = .ok (.invokespecial 242, 3) := by decide +kernel
theorem dX9_checkString_25 : decode cX9_checkString 25 = .ok (.athrow, 1) := by decide +kernel
theorem dX9_checkString_26 : decode cX9_checkString 26 = .ok (.return_, 1) := by decide +kernel
theorem wtRX9_238_242k : Cond.classLink RX9 238 "java/lang/IndexOutOfBoundsException" ∈ zTg ∧ Cond.initialized "java/lang/IndexOutOfBoundsException" ∈ zTg := ⟨zm_f 504 (by decide +kernel) rfl, zm_f 53 (by decide +kernel) rfl⟩
theorem wtRX9_238_242g : ∀ w ∈ (vx_atS RX9 242 "java/lang/IndexOutOfBoundsException" ["java/lang/RuntimeException", "java/lang/Exception"]).filter goodWord, w ∈ zTg := by decide +kernel
theorem wtRX9_238_242n : ∀ w ∈ (vx_atS RX9 242 "java/lang/IndexOutOfBoundsException" ["java/lang/RuntimeException", "java/lang/Exception"]).filter (fun w => !goodWord w), w ∈ zNws := by decide +kernel
theorem wtRX9_238_242o : ∀ w ∈ Cond.classLink RX9 238 "java/lang/IndexOutOfBoundsException" :: Cond.initialized "java/lang/IndexOutOfBoundsException" :: vx_atS RX9 242 "java/lang/IndexOutOfBoundsException" ["java/lang/RuntimeException", "java/lang/Exception"], vx_ot w = true := by decide +kernel
theorem wsRX9_364 : (RX9, 364, "no such STRING") ∈ zstr := by decide +kernel
def fWB_checkString (a1 : Int32) (s0 : zM) (s1 : zM) (s2 : zM) (s3 : zM) : Option ((Unit) ⊕ (String)) :=
  if a1 < 0 then
  some (.inr "java/lang/IndexOutOfBoundsException")
else
  if a1 < (s1 0 0 6) then
    some (.inl ())
  else
    some (.inr "java/lang/IndexOutOfBoundsException")
set_option maxHeartbeats 4000000 in
set_option maxRecDepth 20000 in
theorem bfWB_checkString {X : zX} (F : zFr X cX9_checkString 2 RX9 none) (a1 : Int32)  (s0 : zM) (s1 : zM) (s2 : zM) (s3 : zM) {κ : (Unit) ⊕ (String) → Option zO} (hκ : ∀ a, κ a = some ((zts (fun _ => (none : Option zV)) (fun _ => [s0, s1, s2, s3]) (fun b => b) (fun _ => [s0, s1, s2, s3])) a)) : zZ X [(2, [1, 2, 3]), (0, []), (0, []), (1, [])] 6 90 2 0 [some (zr 0 0 0), some (zi a1)] [] [s0, s1, s2, s3] (Option.bind (fWB_checkString a1 s0 s1 s2 s3) κ) := by
  unfold fWB_checkString
  refine zz_iload_n F (i := 1) dX9_checkString_0 rfl rfl ?_
  refine zz_if_lt F (tgt := 15) dX9_checkString_1 (by decide) (fun h => zz_t h ?_) (fun h => zz_f h ?_)
  · exact zz_throwW F (cls := "java/lang/IndexOutOfBoundsException") dX9_checkString_15 dX9_checkString_18 dX9_checkString_19 dX9_checkString_22 dX9_checkString_25 (by decide) wtRX9_238_242k wsRX9_364 wtRX9_238_242g wtRX9_238_242n wtRX9_238_242o (Nat.le_of_ble_eq_true rfl) (Nat.le_of_ble_eq_true rfl) (hκ _)
  · refine zz_iload_n F (i := 1) dX9_checkString_4 rfl rfl ?_
    refine zz_aload_n F (i := 0) dX9_checkString_5 rfl rfl ?_
    refine zz_getr F dX9_checkString_6 wfRX9_10 zCl_8 rfl (⟨zlb rfl, zlb rfl, zlb rfl⟩) rfl (by decide) rfl (r' := 1) (by decide) ?_
    refine zz_getf F dX9_checkString_9 wfRX9_37 zCl_3 rfl (⟨zlb rfl, zlb rfl, zlb rfl⟩) rfl (by decide) rfl rfl ?_
    refine zz_icmp_lt F (tgt := 26) dX9_checkString_12 (by decide) (fun h => zz_t h ?_) (fun h => zz_f h ?_)
    · exact zz_return F dX9_checkString_26 rfl (hκ _)
    · exact zz_throwW F (cls := "java/lang/IndexOutOfBoundsException") dX9_checkString_15 dX9_checkString_18 dX9_checkString_19 dX9_checkString_22 dX9_checkString_25 (by decide) wtRX9_238_242k wsRX9_364 wtRX9_238_242g wtRX9_238_242n wtRX9_238_242o (Nat.le_of_ble_eq_true rfl) (Nat.le_of_ble_eq_true rfl) (hκ _)
theorem zfWB_checkString (a1 : Int32)  (s0 : zM) (s1 : zM) (s2 : zM) (s3 : zM) : ∀ a, fWB_checkString a1 s0 s1 s2 s3 = some a → zMet yX9_checkString cX9_checkString 2 none 6 90 [(2, [1, 2, 3]), (0, []), (0, []), (1, [])] [zr 0 0 0, zi a1] [s0, s1, s2, s3] ((zts (fun _ => (none : Option zV)) (fun _ => [s0, s1, s2, s3]) (fun b => b) (fun _ => [s0, s1, s2, s3])) a) := fun a ha => zMet_of (L0 := [some (zr 0 0 0), some (zi a1)]) (φ := Option.bind (fWB_checkString a1 s0 s1 s2 s3) (fun a => some ((zts (fun _ => (none : Option zV)) (fun _ => [s0, s1, s2, s3]) (fun b => b) (fun _ => [s0, s1, s2, s3])) a))) (by decide) (fun _ => Nat.le_of_ble_eq_true rfl) (zl0 0 rfl) (fun X F => bfWB_checkString F a1 s0 s1 s2 s3 (fun _ => rfl)) (by rw [ha]; rfl)

theorem dX3_isTaken_0 : decode cX3_isTaken 0 = .ok (.iconst 0, 1) := by decide +kernel
theorem dX3_isTaken_1 : decode cX3_isTaken 1 = .ok (.istore_n 3, 1) := by decide +kernel
theorem dX3_isTaken_2 : decode cX3_isTaken 2 = .ok (.iload_n 3, 1) := by decide +kernel
theorem dX3_isTaken_3 : decode cX3_isTaken 3 = .ok (.aload_n 0, 1) := by decide +kernel
theorem dX3_isTaken_4 : decode cX3_isTaken 4 = .ok (.getfield 56, 3) := by decide +kernel
theorem dX3_isTaken_7 : decode cX3_isTaken 7 = .ok (.if_icmp .ge 37, 3) := by decide +kernel
theorem dX3_isTaken_10 : decode cX3_isTaken 10 = .ok (.aload_n 0, 1) := by decide +kernel
theorem dX3_isTaken_11 : decode cX3_isTaken 11 = .ok (.getfield 11, 3) := by decide +kernel
theorem dX3_isTaken_14 : decode cX3_isTaken 14 = .ok (.iload_n 3, 1) := by decide +kernel
theorem dX3_isTaken_15 : decode cX3_isTaken 15 = .ok (.aaload, 1) := by decide +kernel
theorem dX3_isTaken_16 : decode cX3_isTaken 16 = .ok (.getfield 59, 3) := by decide +kernel
theorem dX3_isTaken_19 : decode cX3_isTaken 19 = .ok (.iload_n 1, 1) := by decide +kernel
theorem dX3_isTaken_20 : decode cX3_isTaken 20 = .ok (.if_icmp .ne 18, 3) := by decide +kernel
theorem dX3_isTaken_23 : decode cX3_isTaken 23 = .ok (.aload_n 0, 1) := by decide +kernel
theorem dX3_isTaken_24 : decode cX3_isTaken 24 = .ok (.getfield 11, 3) := by decide +kernel
theorem dX3_isTaken_27 : decode cX3_isTaken 27 = .ok (.iload_n 3, 1) := by decide +kernel
theorem dX3_isTaken_28 : decode cX3_isTaken 28 = .ok (.aaload, 1) := by decide +kernel
theorem dX3_isTaken_29 : decode cX3_isTaken 29 = .ok (.getfield 62, 3) := by decide +kernel
theorem dX3_isTaken_32 : decode cX3_isTaken 32 = .ok (.iload_n 2, 1) := by decide +kernel
theorem dX3_isTaken_33 : decode cX3_isTaken 33 = .ok (.if_icmp .ne 5, 3) := by decide +kernel
theorem dX3_isTaken_36 : decode cX3_isTaken 36 = .ok (.iconst 1, 1) := by decide +kernel
theorem dX3_isTaken_37 : decode cX3_isTaken 37 = .ok (.ireturn, 1) := by decide +kernel
theorem dX3_isTaken_38 : decode cX3_isTaken 38 = .ok (.iinc 3 1, 3) := by decide +kernel
theorem dX3_isTaken_41 : decode cX3_isTaken 41 = .ok (.goto (-39), 3) := by decide +kernel
theorem dX3_isTaken_44 : decode cX3_isTaken 44 = .ok (.iconst 0, 1) := by decide +kernel
theorem dX3_isTaken_45 : decode cX3_isTaken 45 = .ok (.ireturn, 1) := by decide +kernel
theorem wfRX3_56 : zFl RX3 56 3 5 := ⟨_, rfl, by decide, zm_f 291 (by decide +kernel) rfl⟩
theorem wfRX3_11 : zFl RX3 11 3 0 := ⟨_, rfl, by decide, zm_f 279 (by decide +kernel) rfl⟩
theorem wfRX3_59 : zFl RX3 59 5 0 := ⟨_, rfl, by decide, zm_f 163 (by decide +kernel) rfl⟩
theorem wfRX3_62 : zFl RX3 62 5 1 := ⟨_, rfl, by decide, zm_f 166 (by decide +kernel) rfl⟩
def fSe_isTaken_l2 (a1 : Int32) (a2 : Int32) (s0 : zM) (q1 : Int32) : Option ((Int32) ⊕ ((Unit) ⊕ (Int32))) :=
  if (s0 0 0 5) ≤ q1 then
  some (.inr (.inl ()))
else
  zix q1 8 fun j3 =>
    if (s0 7 j3 0) = a1 then
    zix q1 8 fun j5 =>
      if (s0 7 j5 1) = a2 then
      some (.inr (.inr (1 : Int32)))
    else
      zlet (q1 + 1) fun v6 =>
        some (.inl v6)
  else
    zlet (q1 + 1) fun v4 =>
      some (.inl v4)
def fSe_isTaken (a1 : Int32) (a2 : Int32) (s0 : zM) : Option (Int32) :=
  Option.bind (ziter (fSe_isTaken_l2 a1 a2 s0) 1000 (0 : Int32)) (Sum.elim (fun _ =>
  some (0 : Int32)) (fun r => some r))
set_option maxHeartbeats 4000000 in
set_option maxRecDepth 20000 in
theorem bfSe_isTaken_l2 {X : zX} (F : zFr X cX3_isTaken 4 RX3 (some .boolean)) (a1 : Int32) (a2 : Int32) (s0 : zM)  {ψ : (Int32) ⊕ ((Unit) ⊕ (Int32)) → Option zO} (h1 : ∀ q1 : Int32, zZ X [(0, [])] 0 0 4 2 [some (zr 0 0 0), some (zi a1), some (zi a2), some (zi q1)] [] [s0] (ψ (.inl q1))) (h2 : ∀ q2 : Unit, zZ X [(0, [])] 0 0 4 44 [none, none, none, none] [] [s0] (ψ (.inr (.inl q2)))) (h3 : ∀ r, ψ (.inr (.inr r)) = some ((fun a => ((.inl ((fun q => some (zi q)) a), (fun _ => [s0]) a) : zO)) r)) (q1 : Int32) : zZ X [(0, [])] 0 0 4 2 [some (zr 0 0 0), some (zi a1), some (zi a2), some (zi q1)] [] [s0] (Option.bind (fSe_isTaken_l2 a1 a2 s0 q1) ψ) := by
  unfold fSe_isTaken_l2
  refine zz_iload_n F (i := 3) dX3_isTaken_2 rfl rfl ?_
  refine zz_aload_n F (i := 0) dX3_isTaken_3 rfl rfl ?_
  refine zz_getf F dX3_isTaken_4 wfRX3_56 zCl_3 rfl (⟨zlb rfl, zlb rfl, zlb rfl⟩) rfl (by decide) rfl rfl ?_
  refine zz_icmp_ge F (tgt := 44) dX3_isTaken_7 (by decide) (fun h => zz_t h ?_) (fun h => zz_f h ?_)
  · exact zz_sub (zs_n (zs_n (zs_n (zs_n zs_z)))) (h2 ())
  · refine zz_aload_n F (i := 0) dX3_isTaken_10 rfl rfl ?_
    refine zz_getr F dX3_isTaken_11 wfRX3_11 zCl_3 rfl (⟨zlb rfl, zlb rfl, zlb rfl⟩) rfl (by decide) rfl (r' := 0) (by decide) ?_
    refine zz_iload_n F (i := 3) dX3_isTaken_14 rfl rfl ?_
    refine zz_ix fun j3 hj3 hinj3 hej3 => zz_aal F dX3_isTaken_15 rfl (⟨zlb rfl, zlb rfl, zlb rfl⟩) rfl (by decide) rfl hinj3 hej3 rfl ?_
    refine zz_getf F dX3_isTaken_16 wfRX3_59 zCl_5 rfl (⟨zlb rfl, zlb rfl, hj3⟩) rfl (by decide) rfl rfl ?_
    refine zz_iload_n F (i := 1) dX3_isTaken_19 rfl rfl ?_
    refine zz_icmp_ne F (tgt := 38) dX3_isTaken_20 (by decide) (fun h => zz_f h ?_) (fun h => zz_t h ?_)
    · refine zz_iinc F (i := 3) (v := q1 + 1) (L' := [some (zr 0 0 0), some (zi a1), some (zi a2), some (zi (q1 + 1))]) dX3_isTaken_38 rfl (by first | rfl | decide) (by decide) rfl rfl ?_
      refine zz_letl (Lf := fun v4 => [some (zr 0 0 0), some (zi a1), some (zi a2), some (zi v4)]) fun v4 => ?_
      refine zz_goto F (tgt := 2) dX3_isTaken_41 (by decide) ?_
      exact zz_sub (zs_k (zs_k (zs_k (zs_k zs_z)))) (h1 v4)
    · refine zz_aload_n F (i := 0) dX3_isTaken_23 rfl rfl ?_
      refine zz_getr F dX3_isTaken_24 wfRX3_11 zCl_3 rfl (⟨zlb rfl, zlb rfl, zlb rfl⟩) rfl (by decide) rfl (r' := 0) (by decide) ?_
      refine zz_iload_n F (i := 3) dX3_isTaken_27 rfl rfl ?_
      refine zz_ix fun j5 hj5 hinj5 hej5 => zz_aal F dX3_isTaken_28 rfl (⟨zlb rfl, zlb rfl, zlb rfl⟩) rfl (by decide) rfl hinj5 hej5 rfl ?_
      refine zz_getf F dX3_isTaken_29 wfRX3_62 zCl_5 rfl (⟨zlb rfl, zlb rfl, hj5⟩) rfl (by decide) rfl rfl ?_
      refine zz_iload_n F (i := 2) dX3_isTaken_32 rfl rfl ?_
      refine zz_icmp_ne F (tgt := 38) dX3_isTaken_33 (by decide) (fun h => zz_f h ?_) (fun h => zz_t h ?_)
      · refine zz_iinc F (i := 3) (v := q1 + 1) (L' := [some (zr 0 0 0), some (zi a1), some (zi a2), some (zi (q1 + 1))]) dX3_isTaken_38 rfl (by first | rfl | decide) (by decide) rfl rfl ?_
        refine zz_letl (Lf := fun v6 => [some (zr 0 0 0), some (zi a1), some (zi a2), some (zi v6)]) fun v6 => ?_
        refine zz_goto F (tgt := 2) dX3_isTaken_41 (by decide) ?_
        exact zz_sub (zs_k (zs_k (zs_k (zs_k zs_z)))) (h1 v6)
      · refine zz_iconst F (v := (1 : Int32)) dX3_isTaken_36 (by decide) ?_
        exact zz_zreturn F dX3_isTaken_37 rfl rfl (h3 _)
set_option maxHeartbeats 4000000 in
set_option maxRecDepth 20000 in
theorem bfSe_isTaken {X : zX} (F : zFr X cX3_isTaken 4 RX3 (some .boolean)) (a1 : Int32) (a2 : Int32)  (s0 : zM) {κ : Int32 → Option zO} (hκ : ∀ a, κ a = some ((fun a => ((.inl ((fun q => some (zi q)) a), (fun _ => [s0]) a) : zO)) a)) : zZ X [(0, [])] 0 0 4 0 [some (zr 0 0 0), some (zi a1), some (zi a2), none] [] [s0] (Option.bind (fSe_isTaken a1 a2 s0) κ) := by
  unfold fSe_isTaken
  refine zz_iconst F (v := (0 : Int32)) dX3_isTaken_0 (by decide) ?_
  refine zz_istore_n F (i := 3) (L' := [some (zr 0 0 0), some (zi a1), some (zi a2), some (zi (0 : Int32))]) dX3_isTaken_1 rfl (by decide) rfl rfl ?_
  refine zz_sub (zs_k (zs_k (zs_k (zs_k zs_z)))) ?_
  refine zz_bind ?_
  refine zz_iter (Lf := fun q1 => [some (zr 0 0 0), some (zi a1), some (zi a2), some (zi q1)]) (Mf := fun q1 => [s0]) (fun q1 _ e7 e8 => bfSe_isTaken_l2 F a1 a2 s0  e7 (fun q2 => ?_) (fun r => ?_) q1) 1000 (0 : Int32)
  · rw [e8]
    dsimp only [Sum.elim_inl]
    refine zz_iconst F (v := (0 : Int32)) dX3_isTaken_44 (by decide) ?_
    exact zz_zreturn F dX3_isTaken_45 rfl rfl (hκ _)
  · exact (e8 _).trans (hκ _)
theorem zfSe_isTaken (a1 : Int32) (a2 : Int32)  (s0 : zM) : ∀ a, fSe_isTaken a1 a2 s0 = some a → zMet yX3_isTaken cX3_isTaken 4 (some .boolean) 0 0 [(0, [])] [zr 0 0 0, zi a1, zi a2] [s0] ((fun a => ((.inl ((fun q => some (zi q)) a), (fun _ => [s0]) a) : zO)) a) := fun a ha => zMet_of (L0 := [some (zr 0 0 0), some (zi a1), some (zi a2), none]) (φ := Option.bind (fSe_isTaken a1 a2 s0) (fun a => some ((fun a => ((.inl ((fun q => some (zi q)) a), (fun _ => [s0]) a) : zO)) a))) (by decide) (fun _ => Nat.le_of_ble_eq_true rfl) (zl0 1 rfl) (fun X F => bfSe_isTaken F a1 a2 s0 (fun _ => rfl)) (by rw [ha]; rfl)

theorem dX3_addTurbine_0 : decode cX3_addTurbine 0 = .ok (.aload_n 0, 1) := by decide +kernel
theorem dX3_addTurbine_1 : decode cX3_addTurbine 1 = .ok (.getfield 11, 3) := by decide +kernel
theorem dX3_addTurbine_4 : decode cX3_addTurbine 4 = .ok (.aload_n 0, 1) := by decide +kernel
theorem dX3_addTurbine_5 : decode cX3_addTurbine 5 = .ok (.getfield 56, 3) := by decide +kernel
theorem dX3_addTurbine_8 : decode cX3_addTurbine 8 = .ok (.aaload, 1) := by decide +kernel
theorem dX3_addTurbine_9 : decode cX3_addTurbine 9 = .ok (.astore 4, 2) := by decide +kernel
theorem dX3_addTurbine_11 : decode cX3_addTurbine 11 = .ok (.aload 4, 2) := by decide +kernel
theorem dX3_addTurbine_13 : decode cX3_addTurbine 13 = .ok (.iload_n 1, 1) := by decide +kernel
theorem dX3_addTurbine_14 : decode cX3_addTurbine 14 = .ok (.putfield 59, 3) := by decide +kernel
theorem dX3_addTurbine_17 : decode cX3_addTurbine 17 = .ok (.aload 4, 2) := by decide +kernel
theorem dX3_addTurbine_19 : decode cX3_addTurbine 19 = .ok (.iload_n 2, 1) := by decide +kernel
theorem dX3_addTurbine_20 : decode cX3_addTurbine 20 = .ok (.putfield 62, 3) := by decide +kernel
theorem dX3_addTurbine_23 : decode cX3_addTurbine 23 = .ok (.aload 4, 2) := by decide +kernel
theorem dX3_addTurbine_25 : decode cX3_addTurbine 25 = .ok (.iload_n 3, 1) := by decide +kernel
theorem dX3_addTurbine_26 : decode cX3_addTurbine 26 = .ok (.putfield 65, 3) := by decide +kernel
theorem dX3_addTurbine_29 : decode cX3_addTurbine 29 = .ok (.aload_n 0, 1) := by decide +kernel
theorem dX3_addTurbine_30 : decode cX3_addTurbine 30 = .ok (.dup, 1) := by decide +kernel
theorem dX3_addTurbine_31 : decode cX3_addTurbine 31 = .ok (.getfield 56, 3) := by decide +kernel
theorem dX3_addTurbine_34 : decode cX3_addTurbine 34 = .ok (.iconst 1, 1) := by decide +kernel
theorem dX3_addTurbine_35 : decode cX3_addTurbine 35 = .ok (.iadd, 1) := by decide +kernel
theorem dX3_addTurbine_36 : decode cX3_addTurbine 36 = .ok (.putfield 56, 3) := by decide +kernel
theorem dX3_addTurbine_39 : decode cX3_addTurbine 39 = .ok (.aload_n 0, 1) := by decide +kernel
theorem dX3_addTurbine_40 : decode cX3_addTurbine 40 = .ok (.getfield 56, 3) := by decide +kernel
theorem dX3_addTurbine_43 : decode cX3_addTurbine 43 = .ok (.iconst 1, 1) := by decide +kernel
theorem dX3_addTurbine_44 : decode cX3_addTurbine 44 = .ok (.isub, 1) := by decide +kernel
theorem dX3_addTurbine_45 : decode cX3_addTurbine 45 = .ok (.ireturn, 1) := by decide +kernel
theorem wpRX3_59 : zFw RX3 59 5 0 .int := ⟨_, rfl, by decide, zm_f 163 (by decide +kernel) rfl, rfl, by decide +kernel⟩
theorem wpRX3_62 : zFw RX3 62 5 1 .int := ⟨_, rfl, by decide, zm_f 166 (by decide +kernel) rfl, rfl, by decide +kernel⟩
theorem wpRX3_65 : zFw RX3 65 5 2 .int := ⟨_, rfl, by decide, zm_f 169 (by decide +kernel) rfl, rfl, by decide +kernel⟩
theorem wpRX3_56 : zFw RX3 56 3 5 .int := ⟨_, rfl, by decide, zm_f 291 (by decide +kernel) rfl, rfl, by decide +kernel⟩
def fSe_addTurbine (a1 : Int32) (a2 : Int32) (a3 : Int32) (s0 : zM) : Option (Int32 × zM) :=
  zix (s0 0 0 5) 8 fun j1 =>
  zlet (zu s0 7 j1 0 a1) fun s0_2 =>
  zlet (zu s0_2 7 j1 1 a2) fun s0_3 =>
  zlet (zu s0_3 7 j1 2 a3) fun s0_4 =>
  zlet (zu s0_4 0 0 5 ((s0_4 0 0 5) + (1 : Int32))) fun s0_5 =>
  some (((s0_5 0 0 5) - (1 : Int32)), s0_5)
set_option maxHeartbeats 4000000 in
set_option maxRecDepth 20000 in
theorem bfSe_addTurbine {X : zX} (F : zFr X cX3_addTurbine 5 RX3 (some .int)) (a1 : Int32) (a2 : Int32) (a3 : Int32)  (s0 : zM) {κ : Int32 × zM → Option zO} (hκ : ∀ a, κ a = some ((fun a => ((.inl ((fun q => some (zi q.1)) a), (fun q => [q.2]) a) : zO)) a)) : zZ X [(0, [])] 0 0 5 0 [some (zr 0 0 0), some (zi a1), some (zi a2), some (zi a3), none] [] [s0] (Option.bind (fSe_addTurbine a1 a2 a3 s0) κ) := by
  unfold fSe_addTurbine
  refine zz_aload_n F (i := 0) dX3_addTurbine_0 rfl rfl ?_
  refine zz_getr F dX3_addTurbine_1 wfRX3_11 zCl_3 rfl (⟨zlb rfl, zlb rfl, zlb rfl⟩) rfl (by decide) rfl (r' := 0) (by decide) ?_
  refine zz_aload_n F (i := 0) dX3_addTurbine_4 rfl rfl ?_
  refine zz_getf F dX3_addTurbine_5 wfRX3_56 zCl_3 rfl (⟨zlb rfl, zlb rfl, zlb rfl⟩) rfl (by decide) rfl rfl ?_
  refine zz_ix fun j1 hj1 hinj1 hej1 => zz_aal F dX3_addTurbine_8 rfl (⟨zlb rfl, zlb rfl, zlb rfl⟩) rfl (by decide) rfl hinj1 hej1 rfl ?_
  refine zz_astore F (i := 4) (L' := [some (zr 0 0 0), some (zi a1), some (zi a2), some (zi a3), some (zr 0 7 j1)]) dX3_addTurbine_9 (by decide) rfl rfl ?_
  refine zz_aload F (i := 4) dX3_addTurbine_11 rfl ?_
  refine zz_iload_n F (i := 1) dX3_addTurbine_13 rfl rfl ?_
  refine zz_put F (Ms' := [(zu s0 7 j1 0 a1)]) dX3_addTurbine_14 wpRX3_59 zCl_5 rfl (⟨zlb rfl, zlb rfl, hj1⟩) rfl (by decide) rfl rfl rfl ?_
  refine zz_letm (Mf := fun s0_2 => [s0_2]) fun s0_2 => ?_
  refine zz_aload F (i := 4) dX3_addTurbine_17 rfl ?_
  refine zz_iload_n F (i := 2) dX3_addTurbine_19 rfl rfl ?_
  refine zz_put F (Ms' := [(zu s0_2 7 j1 1 a2)]) dX3_addTurbine_20 wpRX3_62 zCl_5 rfl (⟨zlb rfl, zlb rfl, hj1⟩) rfl (by decide) rfl rfl rfl ?_
  refine zz_letm (Mf := fun s0_3 => [s0_3]) fun s0_3 => ?_
  refine zz_aload F (i := 4) dX3_addTurbine_23 rfl ?_
  refine zz_iload_n F (i := 3) dX3_addTurbine_25 rfl rfl ?_
  refine zz_put F (Ms' := [(zu s0_3 7 j1 2 a3)]) dX3_addTurbine_26 wpRX3_65 zCl_5 rfl (⟨zlb rfl, zlb rfl, hj1⟩) rfl (by decide) rfl rfl rfl ?_
  refine zz_letm (Mf := fun s0_4 => [s0_4]) fun s0_4 => ?_
  refine zz_aload_n F (i := 0) dX3_addTurbine_29 rfl rfl ?_
  refine zz_dup F dX3_addTurbine_30 rfl ?_
  refine zz_getf F dX3_addTurbine_31 wfRX3_56 zCl_3 rfl (⟨zlb rfl, zlb rfl, zlb rfl⟩) rfl (by decide) rfl rfl ?_
  refine zz_iconst F (v := (1 : Int32)) dX3_addTurbine_34 (by decide) ?_
  refine zz_iadd F dX3_addTurbine_35 ?_
  refine zz_put F (Ms' := [(zu s0_4 0 0 5 ((s0_4 0 0 5) + (1 : Int32)))]) dX3_addTurbine_36 wpRX3_56 zCl_3 rfl (⟨zlb rfl, zlb rfl, zlb rfl⟩) rfl (by decide) rfl rfl rfl ?_
  refine zz_letm (Mf := fun s0_5 => [s0_5]) fun s0_5 => ?_
  refine zz_aload_n F (i := 0) dX3_addTurbine_39 rfl rfl ?_
  refine zz_getf F dX3_addTurbine_40 wfRX3_56 zCl_3 rfl (⟨zlb rfl, zlb rfl, zlb rfl⟩) rfl (by decide) rfl rfl ?_
  refine zz_iconst F (v := (1 : Int32)) dX3_addTurbine_43 (by decide) ?_
  refine zz_isub F dX3_addTurbine_44 ?_
  exact zz_ireturn F dX3_addTurbine_45 rfl (hκ _)
theorem zfSe_addTurbine (a1 : Int32) (a2 : Int32) (a3 : Int32)  (s0 : zM) : ∀ a, fSe_addTurbine a1 a2 a3 s0 = some a → zMet yX3_addTurbine cX3_addTurbine 5 (some .int) 0 0 [(0, [])] [zr 0 0 0, zi a1, zi a2, zi a3] [s0] ((fun a => ((.inl ((fun q => some (zi q.1)) a), (fun q => [q.2]) a) : zO)) a) := fun a ha => zMet_of (L0 := [some (zr 0 0 0), some (zi a1), some (zi a2), some (zi a3), none]) (φ := Option.bind (fSe_addTurbine a1 a2 a3 s0) (fun a => some ((fun a => ((.inl ((fun q => some (zi q.1)) a), (fun q => [q.2]) a) : zO)) a))) (by decide) (fun _ => Nat.le_of_ble_eq_true rfl) (zl0 1 rfl) (fun X F => bfSe_addTurbine F a1 a2 a3 s0 (fun _ => rfl)) (by rw [ha]; rfl)

theorem dX9_turbine_0 : decode cX9_turbine 0 = .ok (.aload_n 0, 1) := by decide +kernel
theorem dX9_turbine_1 : decode cX9_turbine 1 = .ok (.iload_n 3, 1) := by decide +kernel
theorem dX9_turbine_2 : decode cX9_turbine 2 = .ok (.invokevirtual 50, 3) := by decide +kernel
theorem dX9_turbine_5 : decode cX9_turbine 5 = .ok (.iload_n 1, 1) := by decide +kernel
theorem dX9_turbine_6 : decode cX9_turbine 6 = .ok (.iconst 0, 1) := by decide +kernel
theorem dX9_turbine_7 : decode cX9_turbine 7 = .ok (.bipush 19, 2) := by decide +kernel
theorem dX9_turbine_9 : decode cX9_turbine 9 = .ok (.invokestatic 26, 3) := by decide +kernel
theorem dX9_turbine_12 : decode cX9_turbine 12 = .ok (.ifCond .ne 13, 3) := by decide +kernel
theorem dX9_turbine_15 : decode cX9_turbine 15 = .ok (.iload_n 2, 1) := by decide +kernel
theorem dX9_turbine_16 : decode cX9_turbine 16 = .ok (.iconst 0, 1) := by decide +kernel
theorem dX9_turbine_17 : decode cX9_turbine 17 = .ok (.bipush 19, 2) := by decide +kernel
theorem dX9_turbine_19 : decode cX9_turbine 19 = .ok (.invokestatic 26, 3) := by decide +kernel
theorem dX9_turbine_22 : decode cX9_turbine 22 = .ok (.ifCond .eq 13, 3) := by decide +kernel
theorem dX9_turbine_25 : decode cX9_turbine 25 = .ok (.new 30, 3) := by decide +kernel
theorem dX9_turbine_28 : decode cX9_turbine 28 = .ok (.dup, 1) := by decide +kernel
theorem dX9_turbine_29 : decode cX9_turbine 29 = .ok (.ldc 54, 2) := by decide +kernel
theorem dX9_turbine_31 : decode cX9_turbine 31 = .ok (.invokespecial 34, 3) := by decide +kernel
theorem dX9_turbine_34 : decode cX9_turbine 34 = .ok (.athrow, 1) := by decide +kernel
theorem dX9_turbine_35 : decode cX9_turbine 35 = .ok (.aload_n 0, 1) := by decide +kernel
theorem dX9_turbine_36 : decode cX9_turbine 36 = .ok (.getfield 10, 3) := by decide +kernel
theorem dX9_turbine_39 : decode cX9_turbine 39 = .ok (.getfield 56, 3) := by decide +kernel
theorem dX9_turbine_42 : decode cX9_turbine 42 = .ok (.bipush 8, 2) := by decide +kernel
theorem dX9_turbine_44 : decode cX9_turbine 44 = .ok (.if_icmp .ge 15, 3) := by decide +kernel
theorem dX9_turbine_47 : decode cX9_turbine 47 = .ok (.aload_n 0, 1) := by decide +kernel
theorem dX9_turbine_48 : decode cX9_turbine 48 = .ok (.getfield 10, 3) := by decide +kernel
theorem dX9_turbine_51 : decode cX9_turbine 51 = .ok (.iload_n 1, 1) := by decide +kernel
theorem dX9_turbine_52 : decode cX9_turbine 52 = .ok (.iload_n 2, 1) := by decide +kernel
theorem dX9_turbine_53 : decode cX9_turbine 53 = .ok (.invokevirtual 59, 3) := by decide +kernel
theorem dX9_turbine_56 : decode cX9_turbine 56 = .ok (.ifCond .eq 13, 3) := by decide +kernel
theorem dX9_turbine_59 : decode cX9_turbine 59 = .ok (.new 41, 3) := by decide +kernel
theorem dX9_turbine_62 : decode cX9_turbine 62 = .ok (.dup, 1) := by decide +kernel
theorem dX9_turbine_63 : decode cX9_turbine 63 = .ok (.ldc 63, 2) := by decide +kernel
theorem dX9_turbine_65 : decode cX9_turbine 65 = .ok (.invokespecial 45, 3) := by decide +kernel
theorem dX9_turbine_68 : decode cX9_turbine 68 = .ok (.athrow, 1) := by decide +kernel
theorem dX9_turbine_69 : decode cX9_turbine 69 = .ok (.aload_n 0, 1) := by decide +kernel
theorem dX9_turbine_70 : decode cX9_turbine 70 = .ok (.getfield 10, 3) := by decide +kernel
theorem dX9_turbine_73 : decode cX9_turbine 73 = .ok (.iload_n 1, 1) := by decide +kernel
theorem dX9_turbine_74 : decode cX9_turbine 74 = .ok (.iload_n 2, 1) := by decide +kernel
theorem dX9_turbine_75 : decode cX9_turbine 75 = .ok (.iload_n 3, 1) := by decide +kernel
theorem dX9_turbine_76 : decode cX9_turbine 76 = .ok (.invokevirtual 65, 3) := by decide +kernel
theorem dX9_turbine_79 : decode cX9_turbine 79 = .ok (.ireturn, 1) := by decide +kernel
theorem wcRX9_50 : Cond.methodLink RX9 50 yX9_checkString ∈ zTg ∧ Cond.instanceMethod yX9_checkString ∈ zTg ∧ Cond.selects RX9 yX9_checkString yX9_checkString ∈ zTg ∧ Cond.initialized RX9 ∈ zTg ∧ Cond.code yX9_checkString cX9_checkString 2 none ∈ zTg := ⟨zm_f 720 (by decide +kernel) rfl, zm_f 722 (by decide +kernel) rfl, zm_f 17 (by decide +kernel) rfl, zm_f 37 (by decide +kernel) rfl, zm_f 723 (by decide +kernel) rfl⟩
theorem wy_yX9_checkString : yX9_checkString.cls = RX9 ∧ yX9_checkString.cls ≠ "java/lang/invoke/MethodHandle" ∧ yX9_checkString.cls ≠ "java/lang/invoke/VarHandle" ∧ (parseMethodDescriptor yX9_checkString.desc).map (fun d => d.parameters.length) = some 1 := by decide +kernel
theorem rel2 : zRel [0, 1, 2, 3] [(2, [1, 2, 3]), (0, []), (0, []), (1, [])] [(2, [1, 2, 3]), (0, []), (0, []), (1, [])] := by unfold zRel; decide
theorem wsRX9_54 : (RX9, 54, "x and y are 0 to 19") ∈ zstr := by decide +kernel
theorem wfRX9_56 : zFl RX9 56 3 5 := ⟨_, rfl, by decide, zm_f 292 (by decide +kernel) rfl⟩
theorem wsRX9_63 : (RX9, 63, "there are 8 TURBINES, or one is there") ∈ zstr := by decide +kernel
theorem wcRX9_59 : Cond.methodLink RX9 59 yX3_isTaken ∈ zTg ∧ Cond.instanceMethod yX3_isTaken ∈ zTg ∧ Cond.selects RX3 yX3_isTaken yX3_isTaken ∈ zTg ∧ Cond.initialized RX3 ∈ zTg ∧ Cond.code yX3_isTaken cX3_isTaken 4 (some .boolean) ∈ zTg := ⟨zm_f 786 (by decide +kernel) rfl, zm_f 376 (by decide +kernel) rfl, zm_f 377 (by decide +kernel) rfl, zm_f 38 (by decide +kernel) rfl, zm_f 378 (by decide +kernel) rfl⟩
theorem wy_yX3_isTaken : yX3_isTaken.cls = RX3 ∧ yX3_isTaken.cls ≠ "java/lang/invoke/MethodHandle" ∧ yX3_isTaken.cls ≠ "java/lang/invoke/VarHandle" ∧ (parseMethodDescriptor yX3_isTaken.desc).map (fun d => d.parameters.length) = some 2 := by decide +kernel
theorem wcRX9_65 : Cond.methodLink RX9 65 yX3_addTurbine ∈ zTg ∧ Cond.instanceMethod yX3_addTurbine ∈ zTg ∧ Cond.selects RX3 yX3_addTurbine yX3_addTurbine ∈ zTg ∧ Cond.initialized RX3 ∈ zTg ∧ Cond.code yX3_addTurbine cX3_addTurbine 5 (some .int) ∈ zTg := ⟨zm_f 788 (by decide +kernel) rfl, zm_f 789 (by decide +kernel) rfl, zm_f 790 (by decide +kernel) rfl, zm_f 38 (by decide +kernel) rfl, zm_f 791 (by decide +kernel) rfl⟩
theorem wy_yX3_addTurbine : yX3_addTurbine.cls = RX3 ∧ yX3_addTurbine.cls ≠ "java/lang/invoke/MethodHandle" ∧ yX3_addTurbine.cls ≠ "java/lang/invoke/VarHandle" ∧ (parseMethodDescriptor yX3_addTurbine.desc).map (fun d => d.parameters.length) = some 3 := by decide +kernel
def fWB_turbine (a1 : Int32) (a2 : Int32) (a3 : Int32) (s0 : zM) (s1 : zM) (s2 : zM) (s3 : zM) : Option ((Int32 × zM) ⊕ (String × zM)) :=
  Option.bind (fWB_checkString a3 s0 s1 s2 s3) (Sum.elim (fun (_ : Unit) =>
  Option.bind (fWB_outside a1 (0 : Int32) (19 : Int32)) fun q2 =>
  if q2 = 0 then
  Option.bind (fWB_outside a2 (0 : Int32) (19 : Int32)) fun q3 =>
    if q3 = 0 then
    if (8 : Int32) ≤ (s1 0 0 5) then
      some (.inr ("java/lang/IllegalStateException", s1))
    else
      Option.bind (fSe_isTaken a1 a2 s1) fun q4 =>
        if q4 = 0 then
        Option.bind (fSe_addTurbine a1 a2 a3 s1) fun q5 =>
          some (.inl (q5.1, q5.2))
      else
        some (.inr ("java/lang/IllegalStateException", s1))
  else
    some (.inr ("java/lang/IllegalArgumentException", s1))
else
  some (.inr ("java/lang/IllegalArgumentException", s1))) (fun b => some (.inr (b, s1))))
set_option maxHeartbeats 4000000 in
set_option maxRecDepth 20000 in
theorem bfWB_turbine {X : zX} (F : zFr X cX9_turbine 4 RX9 (some .int)) (a1 : Int32) (a2 : Int32) (a3 : Int32)  (s0 : zM) (s1 : zM) (s2 : zM) (s3 : zM) {κ : (Int32 × zM) ⊕ (String × zM) → Option zO} (hκ : ∀ a, κ a = some ((zts (fun q => some (zi q.1)) (fun q => [s0, q.2, s2, s3]) (fun b => b.1) (fun b => [s0, b.2, s2, s3])) a)) : zZ X [(2, [1, 2, 3]), (0, []), (0, []), (1, [])] 7 111 4 0 [some (zr 0 0 0), some (zi a1), some (zi a2), some (zi a3)] [] [s0, s1, s2, s3] (Option.bind (fWB_turbine a1 a2 a3 s0 s1 s2 s3) κ) := by
  unfold fWB_turbine
  refine zz_aload_n F (i := 0) dX9_turbine_0 rfl rfl ?_
  refine zz_iload_n F (i := 3) dX9_turbine_1 rfl rfl ?_
  refine zz_bind ?_
  refine zz_callVx F (ρ := [0, 1, 2, 3]) (so := fun _ => []) (Mo := fun _ => [s0, s1, s2, s3]) (Xo := fun _ => [s0, s1, s2, s3]) (zfWB_checkString a3 s0 s1 s2 s3) dX9_turbine_2 wcRX9_50 wy_yX9_checkString rfl ⟨rel2, rfl, rfl, Nat.le_of_ble_eq_true rfl, Nat.le_of_ble_eq_true rfl, Nat.le_of_ble_eq_true rfl⟩ (⟨zlb rfl, zlb rfl, zlb rfl⟩) rfl rfl rfl (fun _ => rfl) (fun _ => rfl) (fun _ => rfl) (fun _ => (hκ _)) fun _ => ?_
  dsimp only [Sum.elim_inl]
  refine zz_iload_n F (i := 1) dX9_turbine_5 rfl rfl ?_
  refine zz_iconst F (v := (0 : Int32)) dX9_turbine_6 (by decide) ?_
  refine zz_bipush F (v := (19 : Int32)) dX9_turbine_7 (by decide) ?_
  refine zz_bind ?_
  refine zz_callSr F (ρ := []) (so := fun q2 => [zi q2]) (Mo := fun q2 => [s0, s1, s2, s3]) (zfWB_outside a1 (0 : Int32) (19 : Int32)) dX9_turbine_9 wcRX9_26 wy_yX9_outside rfl ⟨rel0, rfl, rfl, Nat.le_of_ble_eq_true rfl, Nat.le_of_ble_eq_true rfl, Nat.le_of_ble_eq_true rfl⟩ rfl (fun _ => rfl) (fun _ => rfl) fun q2 => ?_
  refine zz_if_ne F (tgt := 25) dX9_turbine_12 (by decide) (fun h => zz_f h ?_) (fun h => zz_t h ?_)
  · exact zz_throw F (cls := "java/lang/IllegalArgumentException") dX9_turbine_25 dX9_turbine_28 dX9_turbine_29 dX9_turbine_31 dX9_turbine_34 (by decide) wtRX9_30_34k wsRX9_54 wtRX9_30_34g wtRX9_30_34n wtRX9_30_34o (Nat.le_of_ble_eq_true rfl) (Nat.le_of_ble_eq_true rfl) (hκ _)
  · refine zz_iload_n F (i := 2) dX9_turbine_15 rfl rfl ?_
    refine zz_iconst F (v := (0 : Int32)) dX9_turbine_16 (by decide) ?_
    refine zz_bipush F (v := (19 : Int32)) dX9_turbine_17 (by decide) ?_
    refine zz_bind ?_
    refine zz_callSr F (ρ := []) (so := fun q3 => [zi q3]) (Mo := fun q3 => [s0, s1, s2, s3]) (zfWB_outside a2 (0 : Int32) (19 : Int32)) dX9_turbine_19 wcRX9_26 wy_yX9_outside rfl ⟨rel0, rfl, rfl, Nat.le_of_ble_eq_true rfl, Nat.le_of_ble_eq_true rfl, Nat.le_of_ble_eq_true rfl⟩ rfl (fun _ => rfl) (fun _ => rfl) fun q3 => ?_
    refine zz_if_eq F (tgt := 35) dX9_turbine_22 (by decide) (fun h => zz_t h ?_) (fun h => zz_f h ?_)
    · refine zz_aload_n F (i := 0) dX9_turbine_35 rfl rfl ?_
      refine zz_getr F dX9_turbine_36 wfRX9_10 zCl_8 rfl (⟨zlb rfl, zlb rfl, zlb rfl⟩) rfl (by decide) rfl (r' := 1) (by decide) ?_
      refine zz_getf F dX9_turbine_39 wfRX9_56 zCl_3 rfl (⟨zlb rfl, zlb rfl, zlb rfl⟩) rfl (by decide) rfl rfl ?_
      refine zz_bipush F (v := (8 : Int32)) dX9_turbine_42 (by decide) ?_
      refine zz_icmp_ge F (tgt := 59) dX9_turbine_44 (by decide) (fun h => zz_t h ?_) (fun h => zz_f h ?_)
      · exact zz_throw F (cls := "java/lang/IllegalStateException") dX9_turbine_59 dX9_turbine_62 dX9_turbine_63 dX9_turbine_65 dX9_turbine_68 (by decide) wtRX9_41_45k wsRX9_63 wtRX9_41_45g wtRX9_41_45n wtRX9_41_45o (Nat.le_of_ble_eq_true rfl) (Nat.le_of_ble_eq_true rfl) (hκ _)
      · refine zz_aload_n F (i := 0) dX9_turbine_47 rfl rfl ?_
        refine zz_getr F dX9_turbine_48 wfRX9_10 zCl_8 rfl (⟨zlb rfl, zlb rfl, zlb rfl⟩) rfl (by decide) rfl (r' := 1) (by decide) ?_
        refine zz_iload_n F (i := 1) dX9_turbine_51 rfl rfl ?_
        refine zz_iload_n F (i := 2) dX9_turbine_52 rfl rfl ?_
        refine zz_bind ?_
        refine zz_callVr F (ρ := [1]) (so := fun q4 => [zi q4]) (Mo := fun q4 => [s0, s1, s2, s3]) (zfSe_isTaken a1 a2 s1) dX9_turbine_53 wcRX9_59 wy_yX3_isTaken rfl ⟨rel1, rfl, rfl, Nat.le_of_ble_eq_true rfl, Nat.le_of_ble_eq_true rfl, Nat.le_of_ble_eq_true rfl⟩ (⟨zlb rfl, zlb rfl, zlb rfl⟩) rfl rfl rfl (fun _ => rfl) (fun _ => rfl) fun q4 => ?_
        refine zz_if_eq F (tgt := 69) dX9_turbine_56 (by decide) (fun h => zz_t h ?_) (fun h => zz_f h ?_)
        · refine zz_aload_n F (i := 0) dX9_turbine_69 rfl rfl ?_
          refine zz_getr F dX9_turbine_70 wfRX9_10 zCl_8 rfl (⟨zlb rfl, zlb rfl, zlb rfl⟩) rfl (by decide) rfl (r' := 1) (by decide) ?_
          refine zz_iload_n F (i := 1) dX9_turbine_73 rfl rfl ?_
          refine zz_iload_n F (i := 2) dX9_turbine_74 rfl rfl ?_
          refine zz_iload_n F (i := 3) dX9_turbine_75 rfl rfl ?_
          refine zz_bind ?_
          refine zz_callVr F (ρ := [1]) (so := fun q5 => [zi q5.1]) (Mo := fun q5 => [s0, q5.2, s2, s3]) (zfSe_addTurbine a1 a2 a3 s1) dX9_turbine_76 wcRX9_65 wy_yX3_addTurbine rfl ⟨rel1, rfl, rfl, Nat.le_of_ble_eq_true rfl, Nat.le_of_ble_eq_true rfl, Nat.le_of_ble_eq_true rfl⟩ (⟨zlb rfl, zlb rfl, zlb rfl⟩) rfl rfl rfl (fun _ => rfl) (fun _ => rfl) fun q5 => ?_
          exact zz_ireturn F dX9_turbine_79 rfl (hκ _)
        · exact zz_throw F (cls := "java/lang/IllegalStateException") dX9_turbine_59 dX9_turbine_62 dX9_turbine_63 dX9_turbine_65 dX9_turbine_68 (by decide) wtRX9_41_45k wsRX9_63 wtRX9_41_45g wtRX9_41_45n wtRX9_41_45o (Nat.le_of_ble_eq_true rfl) (Nat.le_of_ble_eq_true rfl) (hκ _)
    · exact zz_throw F (cls := "java/lang/IllegalArgumentException") dX9_turbine_25 dX9_turbine_28 dX9_turbine_29 dX9_turbine_31 dX9_turbine_34 (by decide) wtRX9_30_34k wsRX9_54 wtRX9_30_34g wtRX9_30_34n wtRX9_30_34o (Nat.le_of_ble_eq_true rfl) (Nat.le_of_ble_eq_true rfl) (hκ _)
theorem zfWB_turbine (a1 : Int32) (a2 : Int32) (a3 : Int32)  (s0 : zM) (s1 : zM) (s2 : zM) (s3 : zM) : ∀ a, fWB_turbine a1 a2 a3 s0 s1 s2 s3 = some a → zMet yX9_turbine cX9_turbine 4 (some .int) 7 111 [(2, [1, 2, 3]), (0, []), (0, []), (1, [])] [zr 0 0 0, zi a1, zi a2, zi a3] [s0, s1, s2, s3] ((zts (fun q => some (zi q.1)) (fun q => [s0, q.2, s2, s3]) (fun b => b.1) (fun b => [s0, b.2, s2, s3])) a) := fun a ha => zMet_of (L0 := [some (zr 0 0 0), some (zi a1), some (zi a2), some (zi a3)]) (φ := Option.bind (fWB_turbine a1 a2 a3 s0 s1 s2 s3) (fun a => some ((zts (fun q => some (zi q.1)) (fun q => [s0, q.2, s2, s3]) (fun b => b.1) (fun b => [s0, b.2, s2, s3])) a))) (by decide) (fun _ => Nat.le_of_ble_eq_true rfl) (zl0 0 rfl) (fun X F => bfWB_turbine F a1 a2 a3 s0 s1 s2 s3 (fun _ => rfl)) (by rw [ha]; rfl)

theorem dX3_addVessel_0 : decode cX3_addVessel 0 = .ok (.aload_n 0, 1) := by decide +kernel
theorem dX3_addVessel_1 : decode cX3_addVessel 1 = .ok (.getfield 25, 3) := by decide +kernel
theorem dX3_addVessel_4 : decode cX3_addVessel 4 = .ok (.aload_n 0, 1) := by decide +kernel
theorem dX3_addVessel_5 : decode cX3_addVessel 5 = .ok (.getfield 68, 3) := by decide +kernel
theorem dX3_addVessel_8 : decode cX3_addVessel 8 = .ok (.aaload, 1) := by decide +kernel
theorem dX3_addVessel_9 : decode cX3_addVessel 9 = .ok (.iload_n 1, 1) := by decide +kernel
theorem dX3_addVessel_10 : decode cX3_addVessel 10 = .ok (.putfield 71, 3) := by decide +kernel
theorem dX3_addVessel_13 : decode cX3_addVessel 13 = .ok (.aload_n 0, 1) := by decide +kernel
theorem dX3_addVessel_14 : decode cX3_addVessel 14 = .ok (.dup, 1) := by decide +kernel
theorem dX3_addVessel_15 : decode cX3_addVessel 15 = .ok (.getfield 68, 3) := by decide +kernel
theorem dX3_addVessel_18 : decode cX3_addVessel 18 = .ok (.iconst 1, 1) := by decide +kernel
theorem dX3_addVessel_19 : decode cX3_addVessel 19 = .ok (.iadd, 1) := by decide +kernel
theorem dX3_addVessel_20 : decode cX3_addVessel 20 = .ok (.putfield 68, 3) := by decide +kernel
theorem dX3_addVessel_23 : decode cX3_addVessel 23 = .ok (.aload_n 0, 1) := by decide +kernel
theorem dX3_addVessel_24 : decode cX3_addVessel 24 = .ok (.getfield 68, 3) := by decide +kernel
theorem dX3_addVessel_27 : decode cX3_addVessel 27 = .ok (.iconst 1, 1) := by decide +kernel
theorem dX3_addVessel_28 : decode cX3_addVessel 28 = .ok (.isub, 1) := by decide +kernel
theorem dX3_addVessel_29 : decode cX3_addVessel 29 = .ok (.ireturn, 1) := by decide +kernel
theorem wfRX3_25 : zFl RX3 25 3 2 := ⟨_, rfl, by decide, zm_f 284 (by decide +kernel) rfl⟩
theorem wfRX3_68 : zFl RX3 68 3 7 := ⟨_, rfl, by decide, zm_f 295 (by decide +kernel) rfl⟩
theorem wpRX3_71 : zFw RX3 71 6 0 .int := ⟨_, rfl, by decide, zm_f 250 (by decide +kernel) rfl, rfl, by decide +kernel⟩
theorem wpRX3_68 : zFw RX3 68 3 7 .int := ⟨_, rfl, by decide, zm_f 295 (by decide +kernel) rfl, rfl, by decide +kernel⟩
def fSe_addVessel (a1 : Int32) (s0 : zM) : Option (Int32 × zM) :=
  zix (s0 0 0 7) 3 fun j1 =>
  zlet (zu s0 13 j1 0 a1) fun s0_2 =>
  zlet (zu s0_2 0 0 7 ((s0_2 0 0 7) + (1 : Int32))) fun s0_3 =>
  some (((s0_3 0 0 7) - (1 : Int32)), s0_3)
set_option maxHeartbeats 4000000 in
set_option maxRecDepth 20000 in
theorem bfSe_addVessel {X : zX} (F : zFr X cX3_addVessel 2 RX3 (some .int)) (a1 : Int32)  (s0 : zM) {κ : Int32 × zM → Option zO} (hκ : ∀ a, κ a = some ((fun a => ((.inl ((fun q => some (zi q.1)) a), (fun q => [q.2]) a) : zO)) a)) : zZ X [(0, [])] 0 0 2 0 [some (zr 0 0 0), some (zi a1)] [] [s0] (Option.bind (fSe_addVessel a1 s0) κ) := by
  unfold fSe_addVessel
  refine zz_aload_n F (i := 0) dX3_addVessel_0 rfl rfl ?_
  refine zz_getr F dX3_addVessel_1 wfRX3_25 zCl_3 rfl (⟨zlb rfl, zlb rfl, zlb rfl⟩) rfl (by decide) rfl (r' := 0) (by decide) ?_
  refine zz_aload_n F (i := 0) dX3_addVessel_4 rfl rfl ?_
  refine zz_getf F dX3_addVessel_5 wfRX3_68 zCl_3 rfl (⟨zlb rfl, zlb rfl, zlb rfl⟩) rfl (by decide) rfl rfl ?_
  refine zz_ix fun j1 hj1 hinj1 hej1 => zz_aal F dX3_addVessel_8 rfl (⟨zlb rfl, zlb rfl, zlb rfl⟩) rfl (by decide) rfl hinj1 hej1 rfl ?_
  refine zz_iload_n F (i := 1) dX3_addVessel_9 rfl rfl ?_
  refine zz_put F (Ms' := [(zu s0 13 j1 0 a1)]) dX3_addVessel_10 wpRX3_71 zCl_6 rfl (⟨zlb rfl, zlb rfl, hj1⟩) rfl (by decide) rfl rfl rfl ?_
  refine zz_letm (Mf := fun s0_2 => [s0_2]) fun s0_2 => ?_
  refine zz_aload_n F (i := 0) dX3_addVessel_13 rfl rfl ?_
  refine zz_dup F dX3_addVessel_14 rfl ?_
  refine zz_getf F dX3_addVessel_15 wfRX3_68 zCl_3 rfl (⟨zlb rfl, zlb rfl, zlb rfl⟩) rfl (by decide) rfl rfl ?_
  refine zz_iconst F (v := (1 : Int32)) dX3_addVessel_18 (by decide) ?_
  refine zz_iadd F dX3_addVessel_19 ?_
  refine zz_put F (Ms' := [(zu s0_2 0 0 7 ((s0_2 0 0 7) + (1 : Int32)))]) dX3_addVessel_20 wpRX3_68 zCl_3 rfl (⟨zlb rfl, zlb rfl, zlb rfl⟩) rfl (by decide) rfl rfl rfl ?_
  refine zz_letm (Mf := fun s0_3 => [s0_3]) fun s0_3 => ?_
  refine zz_aload_n F (i := 0) dX3_addVessel_23 rfl rfl ?_
  refine zz_getf F dX3_addVessel_24 wfRX3_68 zCl_3 rfl (⟨zlb rfl, zlb rfl, zlb rfl⟩) rfl (by decide) rfl rfl ?_
  refine zz_iconst F (v := (1 : Int32)) dX3_addVessel_27 (by decide) ?_
  refine zz_isub F dX3_addVessel_28 ?_
  exact zz_ireturn F dX3_addVessel_29 rfl (hκ _)
theorem zfSe_addVessel (a1 : Int32)  (s0 : zM) : ∀ a, fSe_addVessel a1 s0 = some a → zMet yX3_addVessel cX3_addVessel 2 (some .int) 0 0 [(0, [])] [zr 0 0 0, zi a1] [s0] ((fun a => ((.inl ((fun q => some (zi q.1)) a), (fun q => [q.2]) a) : zO)) a) := fun a ha => zMet_of (L0 := [some (zr 0 0 0), some (zi a1)]) (φ := Option.bind (fSe_addVessel a1 s0) (fun a => some ((fun a => ((.inl ((fun q => some (zi q.1)) a), (fun q => [q.2]) a) : zO)) a))) (by decide) (fun _ => Nat.le_of_ble_eq_true rfl) (zl0 0 rfl) (fun X F => bfSe_addVessel F a1 s0 (fun _ => rfl)) (by rw [ha]; rfl)

theorem dX9_vessel_0 : decode cX9_vessel 0 = .ok (.iload_n 1, 1) := by decide +kernel
theorem dX9_vessel_1 : decode cX9_vessel 1 = .ok (.iconst 5, 1) := by decide +kernel
theorem dX9_vessel_2 : decode cX9_vessel 2 = .ok (.bipush 40, 2) := by decide +kernel
theorem dX9_vessel_4 : decode cX9_vessel 4 = .ok (.invokestatic 26, 3) := by decide +kernel
theorem dX9_vessel_7 : decode cX9_vessel 7 = .ok (.ifCond .eq 13, 3) := by decide +kernel
theorem dX9_vessel_10 : decode cX9_vessel 10 = .ok (.new 30, 3) := by decide +kernel
theorem dX9_vessel_13 : decode cX9_vessel 13 = .ok (.dup, 1) := by decide +kernel
theorem dX9_vessel_14 : decode cX9_vessel 14 = .ok (.ldc 69, 2) := by decide +kernel
theorem dX9_vessel_16 : decode cX9_vessel 16 = .ok (.invokespecial 34, 3) := by decide +kernel
theorem dX9_vessel_19 : decode cX9_vessel 19 = .ok (.athrow, 1) := by decide +kernel
theorem dX9_vessel_20 : decode cX9_vessel 20 = .ok (.aload_n 0, 1) := by decide +kernel
theorem dX9_vessel_21 : decode cX9_vessel 21 = .ok (.getfield 10, 3) := by decide +kernel
theorem dX9_vessel_24 : decode cX9_vessel 24 = .ok (.getfield 71, 3) := by decide +kernel
theorem dX9_vessel_27 : decode cX9_vessel 27 = .ok (.iconst 3, 1) := by decide +kernel
theorem dX9_vessel_28 : decode cX9_vessel 28 = .ok (.if_icmp .lt 13, 3) := by decide +kernel
theorem dX9_vessel_31 : decode cX9_vessel 31 = .ok (.new 41, 3) := by decide +kernel
theorem dX9_vessel_34 : decode cX9_vessel 34 = .ok (.dup, 1) := by decide +kernel
theorem dX9_vessel_35 : decode cX9_vessel 35 = .ok (.ldc 74, 2) := by decide +kernel
theorem dX9_vessel_37 : decode cX9_vessel 37 = .ok (.invokespecial 45, 3) := by decide +kernel
theorem dX9_vessel_40 : decode cX9_vessel 40 = .ok (.athrow, 1) := by decide +kernel
theorem dX9_vessel_41 : decode cX9_vessel 41 = .ok (.aload_n 0, 1) := by decide +kernel
theorem dX9_vessel_42 : decode cX9_vessel 42 = .ok (.getfield 10, 3) := by decide +kernel
theorem dX9_vessel_45 : decode cX9_vessel 45 = .ok (.iload_n 1, 1) := by decide +kernel
theorem dX9_vessel_46 : decode cX9_vessel 46 = .ok (.invokevirtual 76, 3) := by decide +kernel
theorem dX9_vessel_49 : decode cX9_vessel 49 = .ok (.ireturn, 1) := by decide +kernel
theorem wfRX9_71 : zFl RX9 71 3 7 := ⟨_, rfl, by decide, zm_f 296 (by decide +kernel) rfl⟩
theorem wcRX9_76 : Cond.methodLink RX9 76 yX3_addVessel ∈ zTg ∧ Cond.instanceMethod yX3_addVessel ∈ zTg ∧ Cond.selects RX3 yX3_addVessel yX3_addVessel ∈ zTg ∧ Cond.initialized RX3 ∈ zTg ∧ Cond.code yX3_addVessel cX3_addVessel 2 (some .int) ∈ zTg := ⟨zm_f 801 (by decide +kernel) rfl, zm_f 802 (by decide +kernel) rfl, zm_f 803 (by decide +kernel) rfl, zm_f 38 (by decide +kernel) rfl, zm_f 804 (by decide +kernel) rfl⟩
theorem wy_yX3_addVessel : yX3_addVessel.cls = RX3 ∧ yX3_addVessel.cls ≠ "java/lang/invoke/MethodHandle" ∧ yX3_addVessel.cls ≠ "java/lang/invoke/VarHandle" ∧ (parseMethodDescriptor yX3_addVessel.desc).map (fun d => d.parameters.length) = some 1 := by decide +kernel
theorem wsRX9_74 : (RX9, 74, "there are 3 VESSELS") ∈ zstr := by decide +kernel
theorem wsRX9_69 : (RX9, 69, "a LIMIT of WAVES is 5 to 40") ∈ zstr := by decide +kernel
def fWB_vessel (a1 : Int32) (s0 : zM) (s1 : zM) (s2 : zM) (s3 : zM) : Option ((Int32 × zM) ⊕ (String × zM)) :=
  Option.bind (fWB_outside a1 (5 : Int32) (40 : Int32)) fun q1 =>
  if q1 = 0 then
  if (s1 0 0 7) < (3 : Int32) then
    Option.bind (fSe_addVessel a1 s1) fun q2 =>
      some (.inl (q2.1, q2.2))
  else
    some (.inr ("java/lang/IllegalStateException", s1))
else
  some (.inr ("java/lang/IllegalArgumentException", s1))
set_option maxHeartbeats 4000000 in
set_option maxRecDepth 20000 in
theorem bfWB_vessel {X : zX} (F : zFr X cX9_vessel 2 RX9 (some .int)) (a1 : Int32)  (s0 : zM) (s1 : zM) (s2 : zM) (s3 : zM) {κ : (Int32 × zM) ⊕ (String × zM) → Option zO} (hκ : ∀ a, κ a = some ((zts (fun q => some (zi q.1)) (fun q => [s0, q.2, s2, s3]) (fun b => b.1) (fun b => [s0, b.2, s2, s3])) a)) : zZ X [(2, [1, 2, 3]), (0, []), (0, []), (1, [])] 6 90 2 0 [some (zr 0 0 0), some (zi a1)] [] [s0, s1, s2, s3] (Option.bind (fWB_vessel a1 s0 s1 s2 s3) κ) := by
  unfold fWB_vessel
  refine zz_iload_n F (i := 1) dX9_vessel_0 rfl rfl ?_
  refine zz_iconst F (v := (5 : Int32)) dX9_vessel_1 (by decide) ?_
  refine zz_bipush F (v := (40 : Int32)) dX9_vessel_2 (by decide) ?_
  refine zz_bind ?_
  refine zz_callSr F (ρ := []) (so := fun q1 => [zi q1]) (Mo := fun q1 => [s0, s1, s2, s3]) (zfWB_outside a1 (5 : Int32) (40 : Int32)) dX9_vessel_4 wcRX9_26 wy_yX9_outside rfl ⟨rel0, rfl, rfl, Nat.le_of_ble_eq_true rfl, Nat.le_of_ble_eq_true rfl, Nat.le_of_ble_eq_true rfl⟩ rfl (fun _ => rfl) (fun _ => rfl) fun q1 => ?_
  refine zz_if_eq F (tgt := 20) dX9_vessel_7 (by decide) (fun h => zz_t h ?_) (fun h => zz_f h ?_)
  · refine zz_aload_n F (i := 0) dX9_vessel_20 rfl rfl ?_
    refine zz_getr F dX9_vessel_21 wfRX9_10 zCl_8 rfl (⟨zlb rfl, zlb rfl, zlb rfl⟩) rfl (by decide) rfl (r' := 1) (by decide) ?_
    refine zz_getf F dX9_vessel_24 wfRX9_71 zCl_3 rfl (⟨zlb rfl, zlb rfl, zlb rfl⟩) rfl (by decide) rfl rfl ?_
    refine zz_iconst F (v := (3 : Int32)) dX9_vessel_27 (by decide) ?_
    refine zz_icmp_lt F (tgt := 41) dX9_vessel_28 (by decide) (fun h => zz_t h ?_) (fun h => zz_f h ?_)
    · refine zz_aload_n F (i := 0) dX9_vessel_41 rfl rfl ?_
      refine zz_getr F dX9_vessel_42 wfRX9_10 zCl_8 rfl (⟨zlb rfl, zlb rfl, zlb rfl⟩) rfl (by decide) rfl (r' := 1) (by decide) ?_
      refine zz_iload_n F (i := 1) dX9_vessel_45 rfl rfl ?_
      refine zz_bind ?_
      refine zz_callVr F (ρ := [1]) (so := fun q2 => [zi q2.1]) (Mo := fun q2 => [s0, q2.2, s2, s3]) (zfSe_addVessel a1 s1) dX9_vessel_46 wcRX9_76 wy_yX3_addVessel rfl ⟨rel1, rfl, rfl, Nat.le_of_ble_eq_true rfl, Nat.le_of_ble_eq_true rfl, Nat.le_of_ble_eq_true rfl⟩ (⟨zlb rfl, zlb rfl, zlb rfl⟩) rfl rfl rfl (fun _ => rfl) (fun _ => rfl) fun q2 => ?_
      exact zz_ireturn F dX9_vessel_49 rfl (hκ _)
    · exact zz_throw F (cls := "java/lang/IllegalStateException") dX9_vessel_31 dX9_vessel_34 dX9_vessel_35 dX9_vessel_37 dX9_vessel_40 (by decide) wtRX9_41_45k wsRX9_74 wtRX9_41_45g wtRX9_41_45n wtRX9_41_45o (Nat.le_of_ble_eq_true rfl) (Nat.le_of_ble_eq_true rfl) (hκ _)
  · exact zz_throw F (cls := "java/lang/IllegalArgumentException") dX9_vessel_10 dX9_vessel_13 dX9_vessel_14 dX9_vessel_16 dX9_vessel_19 (by decide) wtRX9_30_34k wsRX9_69 wtRX9_30_34g wtRX9_30_34n wtRX9_30_34o (Nat.le_of_ble_eq_true rfl) (Nat.le_of_ble_eq_true rfl) (hκ _)
theorem zfWB_vessel (a1 : Int32)  (s0 : zM) (s1 : zM) (s2 : zM) (s3 : zM) : ∀ a, fWB_vessel a1 s0 s1 s2 s3 = some a → zMet yX9_vessel cX9_vessel 2 (some .int) 6 90 [(2, [1, 2, 3]), (0, []), (0, []), (1, [])] [zr 0 0 0, zi a1] [s0, s1, s2, s3] ((zts (fun q => some (zi q.1)) (fun q => [s0, q.2, s2, s3]) (fun b => b.1) (fun b => [s0, b.2, s2, s3])) a) := fun a ha => zMet_of (L0 := [some (zr 0 0 0), some (zi a1)]) (φ := Option.bind (fWB_vessel a1 s0 s1 s2 s3) (fun a => some ((zts (fun q => some (zi q.1)) (fun q => [s0, q.2, s2, s3]) (fun b => b.1) (fun b => [s0, b.2, s2, s3])) a))) (by decide) (fun _ => Nat.le_of_ble_eq_true rfl) (zl0 0 rfl) (fun X F => bfWB_vessel F a1 s0 s1 s2 s3 (fun _ => rfl)) (by rw [ha]; rfl)

theorem dX2_put_0 : decode cX2_put 0 = .ok (.iload_n 1, 1) := by decide +kernel
theorem dX2_put_1 : decode cX2_put 1 = .ok (.ifCond .lt 16, 3) := by decide +kernel
theorem dX2_put_4 : decode cX2_put 4 = .ok (.iload_n 1, 1) := by decide +kernel
theorem dX2_put_5 : decode cX2_put 5 = .ok (.bipush 24, 2) := by decide +kernel
theorem dX2_put_7 : decode cX2_put 7 = .ok (.if_icmp .ge 10, 3) := by decide +kernel
theorem dX2_put_10 : decode cX2_put 10 = .ok (.aload_n 0, 1) := by decide +kernel
theorem dX2_put_11 : decode cX2_put 11 = .ok (.getfield 9, 3) := by decide +kernel
theorem dX2_put_14 : decode cX2_put 14 = .ok (.iload_n 1, 1) := by decide +kernel
theorem dX2_put_15 : decode cX2_put 15 = .ok (.iload_n 2, 1) := by decide +kernel
theorem dX2_put_16 : decode cX2_put 16 = .ok (.iastore, 1) := by decide +kernel
theorem dX2_put_17 : decode cX2_put 17 = .ok (.return_, 1) := by decide +kernel
theorem wfRX2_9 : zFl RX2 9 2 0 := ⟨_, rfl, by decide, zm_f 113 (by decide +kernel) rfl⟩
def fLe_put (a1 : Int32) (a2 : Int32) (s0 : zM) : Option (zM) :=
  if a1 < 0 then
  some s0
else
  if (24 : Int32) ≤ a1 then
    some s0
  else
    zix a1 24 fun j1 =>
      zlet (zu s0 6 0 j1 a2) fun s0_2 =>
      some s0_2
set_option maxHeartbeats 4000000 in
set_option maxRecDepth 20000 in
theorem bfLe_put {X : zX} (F : zFr X cX2_put 3 RX2 none) (a1 : Int32) (a2 : Int32)  (s0 : zM) {κ : zM → Option zO} (hκ : ∀ a, κ a = some ((fun a => ((.inl ((fun _ => (none : Option zV)) a), (fun q => [q]) a) : zO)) a)) : zZ X [(0, [])] 0 0 3 0 [some (zr 0 5 0), some (zi a1), some (zi a2)] [] [s0] (Option.bind (fLe_put a1 a2 s0) κ) := by
  unfold fLe_put
  refine zz_iload_n F (i := 1) dX2_put_0 rfl rfl ?_
  refine zz_if_lt F (tgt := 17) dX2_put_1 (by decide) (fun h => zz_t h ?_) (fun h => zz_f h ?_)
  · exact zz_return F dX2_put_17 rfl (hκ _)
  · refine zz_iload_n F (i := 1) dX2_put_4 rfl rfl ?_
    refine zz_bipush F (v := (24 : Int32)) dX2_put_5 (by decide) ?_
    refine zz_icmp_ge F (tgt := 17) dX2_put_7 (by decide) (fun h => zz_t h ?_) (fun h => zz_f h ?_)
    · exact zz_return F dX2_put_17 rfl (hκ _)
    · refine zz_aload_n F (i := 0) dX2_put_10 rfl rfl ?_
      refine zz_getr F dX2_put_11 wfRX2_9 zCl_2 rfl (⟨zlb rfl, zlb rfl, zlb rfl⟩) rfl (by decide) rfl (r' := 0) (by decide) ?_
      refine zz_iload_n F (i := 1) dX2_put_14 rfl rfl ?_
      refine zz_iload_n F (i := 2) dX2_put_15 rfl rfl ?_
      refine zz_ix fun j1 hj1 hinj1 hej1 => zz_ias F (Ms' := [(zu s0 6 0 j1 a2)]) dX2_put_16 rfl (⟨zlb rfl, zlb rfl, zlb rfl⟩) rfl hinj1 hej1 rfl ?_
      refine zz_letm (Mf := fun s0_2 => [s0_2]) fun s0_2 => ?_
      exact zz_return F dX2_put_17 rfl (hκ _)
theorem zfLe_put (a1 : Int32) (a2 : Int32)  (s0 : zM) : ∀ a, fLe_put a1 a2 s0 = some a → zMet yX2_put cX2_put 3 none 0 0 [(0, [])] [zr 0 5 0, zi a1, zi a2] [s0] ((fun a => ((.inl ((fun _ => (none : Option zV)) a), (fun q => [q]) a) : zO)) a) := fun a ha => zMet_of (L0 := [some (zr 0 5 0), some (zi a1), some (zi a2)]) (φ := Option.bind (fLe_put a1 a2 s0) (fun a => some ((fun a => ((.inl ((fun _ => (none : Option zV)) a), (fun q => [q]) a) : zO)) a))) (by decide) (fun _ => Nat.le_of_ble_eq_true rfl) (zl0 0 rfl) (fun X F => bfLe_put F a1 a2 s0 (fun _ => rfl)) (by rw [ha]; rfl)

theorem dX2_nominatedCount_0 : decode cX2_nominatedCount 0 = .ok (.iconst 0, 1) := by decide +kernel
theorem dX2_nominatedCount_1 : decode cX2_nominatedCount 1 = .ok (.istore_n 1, 1) := by decide +kernel
theorem dX2_nominatedCount_2 : decode cX2_nominatedCount 2 = .ok (.iconst 0, 1) := by decide +kernel
theorem dX2_nominatedCount_3 : decode cX2_nominatedCount 3 = .ok (.istore_n 2, 1) := by decide +kernel
theorem dX2_nominatedCount_4 : decode cX2_nominatedCount 4 = .ok (.iload_n 2, 1) := by decide +kernel
theorem dX2_nominatedCount_5 : decode cX2_nominatedCount 5 = .ok (.bipush 24, 2) := by decide +kernel
theorem dX2_nominatedCount_7 : decode cX2_nominatedCount 7 = .ok (.if_icmp .ge 22, 3) := by decide +kernel
theorem dX2_nominatedCount_10 : decode cX2_nominatedCount 10 = .ok (.aload_n 0, 1) := by decide +kernel
theorem dX2_nominatedCount_11 : decode cX2_nominatedCount 11 = .ok (.getfield 9, 3) := by decide +kernel
theorem dX2_nominatedCount_14 : decode cX2_nominatedCount 14 = .ok (.iload_n 2, 1) := by decide +kernel
theorem dX2_nominatedCount_15 : decode cX2_nominatedCount 15 = .ok (.iaload, 1) := by decide +kernel
theorem dX2_nominatedCount_16 : decode cX2_nominatedCount 16 = .ok (.iconst (-1), 1) := by decide +kernel
theorem dX2_nominatedCount_17 : decode cX2_nominatedCount 17 = .ok (.if_icmp .eq 6, 3) := by decide +kernel
theorem dX2_nominatedCount_20 : decode cX2_nominatedCount 20 = .ok (.iinc 1 1, 3) := by decide +kernel
theorem dX2_nominatedCount_23 : decode cX2_nominatedCount 23 = .ok (.iinc 2 1, 3) := by decide +kernel
theorem dX2_nominatedCount_26 : decode cX2_nominatedCount 26 = .ok (.goto (-22), 3) := by decide +kernel
theorem dX2_nominatedCount_29 : decode cX2_nominatedCount 29 = .ok (.iload_n 1, 1) := by decide +kernel
theorem dX2_nominatedCount_30 : decode cX2_nominatedCount 30 = .ok (.ireturn, 1) := by decide +kernel
def fLe_nominatedCount_l4 (s0 : zM) (q1 : Int32 × Int32) : Option ((Int32 × Int32) ⊕ ((Int32))) :=
  if (24 : Int32) ≤ q1.2 then
  some (.inr q1.1)
else
  zix q1.2 24 fun j3 =>
    Option.bind (if (s0 6 0 j3) = (-1 : Int32) then
    some q1.1
  else
    zlet (q1.1 + 1) fun v8 =>
      some v8) fun q4 =>
    zlet (q1.2 + 1) fun v9 =>
    some (.inl (q4, v9))
def fLe_nominatedCount  (s0 : zM) : Option (Int32) :=
  Option.bind (ziter (fLe_nominatedCount_l4 s0) 1000 ((0 : Int32), (0 : Int32))) fun q2 =>
  some q2
set_option maxHeartbeats 4000000 in
set_option maxRecDepth 20000 in
theorem bfLe_nominatedCount_l4 {X : zX} (F : zFr X cX2_nominatedCount 3 RX2 (some .int)) (s0 : zM)  {ψ : (Int32 × Int32) ⊕ ((Int32)) → Option zO} (h1 : ∀ q1 : Int32 × Int32, zZ X [(0, [])] 0 0 3 4 [some (zr 0 5 0), some (zi q1.1), some (zi q1.2)] [] [s0] (ψ (.inl q1))) (h2 : ∀ q2 : Int32, zZ X [(0, [])] 0 0 3 29 [none, some (zi q2), none] [] [s0] (ψ (.inr q2))) (q1 : Int32 × Int32) : zZ X [(0, [])] 0 0 3 4 [some (zr 0 5 0), some (zi q1.1), some (zi q1.2)] [] [s0] (Option.bind (fLe_nominatedCount_l4 s0 q1) ψ) := by
  unfold fLe_nominatedCount_l4
  refine zz_iload_n F (i := 2) dX2_nominatedCount_4 rfl rfl ?_
  refine zz_bipush F (v := (24 : Int32)) dX2_nominatedCount_5 (by decide) ?_
  refine zz_icmp_ge F (tgt := 29) dX2_nominatedCount_7 (by decide) (fun h => zz_t h ?_) (fun h => zz_f h ?_)
  · exact zz_sub (zs_n (zs_k (zs_n zs_z))) (h2 q1.1)
  · refine zz_aload_n F (i := 0) dX2_nominatedCount_10 rfl rfl ?_
    refine zz_getr F dX2_nominatedCount_11 wfRX2_9 zCl_2 rfl (⟨zlb rfl, zlb rfl, zlb rfl⟩) rfl (by decide) rfl (r' := 0) (by decide) ?_
    refine zz_iload_n F (i := 2) dX2_nominatedCount_14 rfl rfl ?_
    refine zz_ix fun j3 hj3 hinj3 hej3 => zz_ial F dX2_nominatedCount_15 rfl (⟨zlb rfl, zlb rfl, zlb rfl⟩) rfl hinj3 hej3 ?_
    refine zz_iconst F (v := (-1 : Int32)) dX2_nominatedCount_16 (by decide) ?_
    refine zz_join (pj := 23) (Lj := fun q4 => [some (zr 0 5 0), some (zi q4), some (zi q1.2)]) (Sj := fun q4 => []) (Mj := fun q4 => [s0]) (fun q4 => ?_) (fun κ6 hj5 => ?_)
    · refine zz_iinc F (i := 2) (v := q1.2 + 1) (L' := [some (zr 0 5 0), some (zi q4), some (zi (q1.2 + 1))]) dX2_nominatedCount_23 rfl (by first | rfl | decide) (by decide) rfl rfl ?_
      refine zz_letl (Lf := fun v9 => [some (zr 0 5 0), some (zi q4), some (zi v9)]) fun v9 => ?_
      refine zz_goto F (tgt := 4) dX2_nominatedCount_26 (by decide) ?_
      exact zz_sub (zs_k (zs_k (zs_k zs_z))) (h1 (q4, v9))
    · refine zz_icmp_eq F (tgt := 23) dX2_nominatedCount_17 (by decide) (fun h => zz_t h ?_) (fun h => zz_f h ?_)
      · exact zz_sub (zs_k (zs_k (zs_k zs_z))) (hj5 q1.1)
      · refine zz_iinc F (i := 1) (v := q1.1 + 1) (L' := [some (zr 0 5 0), some (zi (q1.1 + 1)), some (zi q1.2)]) dX2_nominatedCount_20 rfl (by first | rfl | decide) (by decide) rfl rfl ?_
        refine zz_letl (Lf := fun v8 => [some (zr 0 5 0), some (zi v8), some (zi q1.2)]) fun v8 => ?_
        exact zz_sub (zs_k (zs_k (zs_k zs_z))) (hj5 v8)
set_option maxHeartbeats 4000000 in
set_option maxRecDepth 20000 in
theorem bfLe_nominatedCount {X : zX} (F : zFr X cX2_nominatedCount 3 RX2 (some .int))   (s0 : zM) {κ : Int32 → Option zO} (hκ : ∀ a, κ a = some ((fun a => ((.inl ((fun q => some (zi q)) a), (fun _ => [s0]) a) : zO)) a)) : zZ X [(0, [])] 0 0 3 0 [some (zr 0 5 0), none, none] [] [s0] (Option.bind (fLe_nominatedCount s0) κ) := by
  unfold fLe_nominatedCount
  refine zz_iconst F (v := (0 : Int32)) dX2_nominatedCount_0 (by decide) ?_
  refine zz_istore_n F (i := 1) (L' := [some (zr 0 5 0), some (zi (0 : Int32)), none]) dX2_nominatedCount_1 rfl (by decide) rfl rfl ?_
  refine zz_iconst F (v := (0 : Int32)) dX2_nominatedCount_2 (by decide) ?_
  refine zz_istore_n F (i := 2) (L' := [some (zr 0 5 0), some (zi (0 : Int32)), some (zi (0 : Int32))]) dX2_nominatedCount_3 rfl (by decide) rfl rfl ?_
  refine zz_sub (zs_k (zs_k (zs_k zs_z))) ?_
  refine zz_bind ?_
  refine zz_iter (Lf := fun q1 => [some (zr 0 5 0), some (zi q1.1), some (zi q1.2)]) (Mf := fun q1 => [s0]) (fun q1 _ e10 e11 => bfLe_nominatedCount_l4 F s0  e10 (fun q2 => ?_)  q1) 1000 ((0 : Int32), (0 : Int32))
  rw [e11]
  refine zz_iload_n F (i := 1) dX2_nominatedCount_29 rfl rfl ?_
  exact zz_ireturn F dX2_nominatedCount_30 rfl (hκ _)
theorem zfLe_nominatedCount   (s0 : zM) : ∀ a, fLe_nominatedCount s0 = some a → zMet yX2_nominatedCount cX2_nominatedCount 3 (some .int) 0 0 [(0, [])] [zr 0 5 0] [s0] ((fun a => ((.inl ((fun q => some (zi q)) a), (fun _ => [s0]) a) : zO)) a) := fun a ha => zMet_of (L0 := [some (zr 0 5 0), none, none]) (φ := Option.bind (fLe_nominatedCount s0) (fun a => some ((fun a => ((.inl ((fun q => some (zi q)) a), (fun _ => [s0]) a) : zO)) a))) (by decide) (fun _ => Nat.le_of_ble_eq_true rfl) (zl0 2 rfl) (fun X F => bfLe_nominatedCount F s0 (fun _ => rfl)) (by rw [ha]; rfl)

theorem dX9_nominate_0 : decode cX9_nominate 0 = .ok (.iload_n 1, 1) := by decide +kernel
theorem dX9_nominate_1 : decode cX9_nominate 1 = .ok (.aload_n 0, 1) := by decide +kernel
theorem dX9_nominate_2 : decode cX9_nominate 2 = .ok (.getfield 10, 3) := by decide +kernel
theorem dX9_nominate_5 : decode cX9_nominate 5 = .ok (.getfield 79, 3) := by decide +kernel
theorem dX9_nominate_8 : decode cX9_nominate 8 = .ok (.iconst 1, 1) := by decide +kernel
theorem dX9_nominate_9 : decode cX9_nominate 9 = .ok (.iadd, 1) := by decide +kernel
theorem dX9_nominate_10 : decode cX9_nominate 10 = .ok (.aload_n 0, 1) := by decide +kernel
theorem dX9_nominate_11 : decode cX9_nominate 11 = .ok (.getfield 10, 3) := by decide +kernel
theorem dX9_nominate_14 : decode cX9_nominate 14 = .ok (.getfield 79, 3) := by decide +kernel
theorem dX9_nominate_17 : decode cX9_nominate 17 = .ok (.bipush 24, 2) := by decide +kernel
theorem dX9_nominate_19 : decode cX9_nominate 19 = .ok (.iadd, 1) := by decide +kernel
theorem dX9_nominate_20 : decode cX9_nominate 20 = .ok (.invokestatic 26, 3) := by decide +kernel
theorem dX9_nominate_23 : decode cX9_nominate 23 = .ok (.ifCond .ne 14, 3) := by decide +kernel
theorem dX9_nominate_26 : decode cX9_nominate 26 = .ok (.iload_n 2, 1) := by decide +kernel
theorem dX9_nominate_27 : decode cX9_nominate 27 = .ok (.iconst 0, 1) := by decide +kernel
theorem dX9_nominate_28 : decode cX9_nominate 28 = .ok (.sipush 20000, 3) := by decide +kernel
theorem dX9_nominate_31 : decode cX9_nominate 31 = .ok (.invokestatic 26, 3) := by decide +kernel
theorem dX9_nominate_34 : decode cX9_nominate 34 = .ok (.ifCond .eq 13, 3) := by decide +kernel
theorem dX9_nominate_37 : decode cX9_nominate 37 = .ok (.new 30, 3) := by decide +kernel
theorem dX9_nominate_40 : decode cX9_nominate 40 = .ok (.dup, 1) := by decide +kernel
theorem dX9_nominate_41 : decode cX9_nominate 41 = .ok (.ldc 82, 2) := by decide +kernel
theorem dX9_nominate_43 : decode cX9_nominate 43 = .ok (.invokespecial 34, 3) := by decide +kernel
theorem dX9_nominate_46 : decode cX9_nominate 46 = .ok (.athrow, 1) := by decide +kernel
theorem dX9_nominate_47 : decode cX9_nominate 47 = .ok (.aload_n 0, 1) := by decide +kernel
theorem dX9_nominate_48 : decode cX9_nominate 48 = .ok (.getfield 10, 3) := by decide +kernel
theorem dX9_nominate_51 : decode cX9_nominate 51 = .ok (.getfield 84, 3) := by decide +kernel
theorem dX9_nominate_54 : decode cX9_nominate 54 = .ok (.iload_n 1, 1) := by decide +kernel
theorem dX9_nominate_55 : decode cX9_nominate 55 = .ok (.aload_n 0, 1) := by decide +kernel
theorem dX9_nominate_56 : decode cX9_nominate 56 = .ok (.getfield 10, 3) := by decide +kernel
theorem dX9_nominate_59 : decode cX9_nominate 59 = .ok (.getfield 79, 3) := by decide +kernel
theorem dX9_nominate_62 : decode cX9_nominate 62 = .ok (.isub, 1) := by decide +kernel
theorem dX9_nominate_63 : decode cX9_nominate 63 = .ok (.iconst 1, 1) := by decide +kernel
theorem dX9_nominate_64 : decode cX9_nominate 64 = .ok (.isub, 1) := by decide +kernel
theorem dX9_nominate_65 : decode cX9_nominate 65 = .ok (.iload_n 2, 1) := by decide +kernel
theorem dX9_nominate_66 : decode cX9_nominate 66 = .ok (.invokevirtual 88, 3) := by decide +kernel
theorem dX9_nominate_69 : decode cX9_nominate 69 = .ok (.aload_n 0, 1) := by decide +kernel
theorem dX9_nominate_70 : decode cX9_nominate 70 = .ok (.getfield 10, 3) := by decide +kernel
theorem dX9_nominate_73 : decode cX9_nominate 73 = .ok (.getfield 84, 3) := by decide +kernel
theorem dX9_nominate_76 : decode cX9_nominate 76 = .ok (.invokevirtual 94, 3) := by decide +kernel
theorem dX9_nominate_79 : decode cX9_nominate 79 = .ok (.ireturn, 1) := by decide +kernel
theorem wfRX9_79 : zFl RX9 79 3 8 := ⟨_, rfl, by decide, zm_f 297 (by decide +kernel) rfl⟩
theorem wsRX9_82 : (RX9, 82, "the next 24 HOURS, 0 to 20000") ∈ zstr := by decide +kernel
theorem wfRX9_84 : zFl RX9 84 3 4 := ⟨_, rfl, by decide, zm_f 289 (by decide +kernel) rfl⟩
theorem wcRX9_88 : Cond.methodLink RX9 88 yX2_put ∈ zTg ∧ Cond.instanceMethod yX2_put ∈ zTg ∧ Cond.selects RX2 yX2_put yX2_put ∈ zTg ∧ Cond.initialized RX2 ∈ zTg ∧ Cond.code yX2_put cX2_put 3 none ∈ zTg := ⟨zm_f 813 (by decide +kernel) rfl, zm_f 814 (by decide +kernel) rfl, zm_f 815 (by decide +kernel) rfl, zm_f 40 (by decide +kernel) rfl, zm_f 816 (by decide +kernel) rfl⟩
theorem wy_yX2_put : yX2_put.cls = RX2 ∧ yX2_put.cls ≠ "java/lang/invoke/MethodHandle" ∧ yX2_put.cls ≠ "java/lang/invoke/VarHandle" ∧ (parseMethodDescriptor yX2_put.desc).map (fun d => d.parameters.length) = some 2 := by decide +kernel
theorem wcRX9_94 : Cond.methodLink RX9 94 yX2_nominatedCount ∈ zTg ∧ Cond.instanceMethod yX2_nominatedCount ∈ zTg ∧ Cond.selects RX2 yX2_nominatedCount yX2_nominatedCount ∈ zTg ∧ Cond.initialized RX2 ∈ zTg ∧ Cond.code yX2_nominatedCount cX2_nominatedCount 3 (some .int) ∈ zTg := ⟨zm_f 412 (by decide +kernel) rfl, zm_f 413 (by decide +kernel) rfl, zm_f 414 (by decide +kernel) rfl, zm_f 40 (by decide +kernel) rfl, zm_f 415 (by decide +kernel) rfl⟩
theorem wy_yX2_nominatedCount : yX2_nominatedCount.cls = RX2 ∧ yX2_nominatedCount.cls ≠ "java/lang/invoke/MethodHandle" ∧ yX2_nominatedCount.cls ≠ "java/lang/invoke/VarHandle" ∧ (parseMethodDescriptor yX2_nominatedCount.desc).map (fun d => d.parameters.length) = some 0 := by decide +kernel
def fWB_nominate (a1 : Int32) (a2 : Int32) (s0 : zM) (s1 : zM) (s2 : zM) (s3 : zM) : Option ((Int32 × zM) ⊕ (String × zM)) :=
  Option.bind (fWB_outside a1 ((s1 0 0 8) + (1 : Int32)) ((s1 0 0 8) + (24 : Int32))) fun q1 =>
  if q1 = 0 then
  Option.bind (fWB_outside a2 (0 : Int32) (20000 : Int32)) fun q2 =>
    if q2 = 0 then
    Option.bind (fLe_put ((a1 - (s1 0 0 8)) - (1 : Int32)) a2 s1) fun q3 =>
      Option.bind (fLe_nominatedCount q3) fun q4 =>
      some (.inl (q4, q3))
  else
    some (.inr ("java/lang/IllegalArgumentException", s1))
else
  some (.inr ("java/lang/IllegalArgumentException", s1))
set_option maxHeartbeats 4000000 in
set_option maxRecDepth 20000 in
theorem bfWB_nominate {X : zX} (F : zFr X cX9_nominate 3 RX9 (some .int)) (a1 : Int32) (a2 : Int32)  (s0 : zM) (s1 : zM) (s2 : zM) (s3 : zM) {κ : (Int32 × zM) ⊕ (String × zM) → Option zO} (hκ : ∀ a, κ a = some ((zts (fun q => some (zi q.1)) (fun q => [s0, q.2, s2, s3]) (fun b => b.1) (fun b => [s0, b.2, s2, s3])) a)) : zZ X [(2, [1, 2, 3]), (0, []), (0, []), (1, [])] 6 90 3 0 [some (zr 0 0 0), some (zi a1), some (zi a2)] [] [s0, s1, s2, s3] (Option.bind (fWB_nominate a1 a2 s0 s1 s2 s3) κ) := by
  unfold fWB_nominate
  refine zz_iload_n F (i := 1) dX9_nominate_0 rfl rfl ?_
  refine zz_aload_n F (i := 0) dX9_nominate_1 rfl rfl ?_
  refine zz_getr F dX9_nominate_2 wfRX9_10 zCl_8 rfl (⟨zlb rfl, zlb rfl, zlb rfl⟩) rfl (by decide) rfl (r' := 1) (by decide) ?_
  refine zz_getf F dX9_nominate_5 wfRX9_79 zCl_3 rfl (⟨zlb rfl, zlb rfl, zlb rfl⟩) rfl (by decide) rfl rfl ?_
  refine zz_iconst F (v := (1 : Int32)) dX9_nominate_8 (by decide) ?_
  refine zz_iadd F dX9_nominate_9 ?_
  refine zz_aload_n F (i := 0) dX9_nominate_10 rfl rfl ?_
  refine zz_getr F dX9_nominate_11 wfRX9_10 zCl_8 rfl (⟨zlb rfl, zlb rfl, zlb rfl⟩) rfl (by decide) rfl (r' := 1) (by decide) ?_
  refine zz_getf F dX9_nominate_14 wfRX9_79 zCl_3 rfl (⟨zlb rfl, zlb rfl, zlb rfl⟩) rfl (by decide) rfl rfl ?_
  refine zz_bipush F (v := (24 : Int32)) dX9_nominate_17 (by decide) ?_
  refine zz_iadd F dX9_nominate_19 ?_
  refine zz_bind ?_
  refine zz_callSr F (ρ := []) (so := fun q1 => [zi q1]) (Mo := fun q1 => [s0, s1, s2, s3]) (zfWB_outside a1 ((s1 0 0 8) + (1 : Int32)) ((s1 0 0 8) + (24 : Int32))) dX9_nominate_20 wcRX9_26 wy_yX9_outside rfl ⟨rel0, rfl, rfl, Nat.le_of_ble_eq_true rfl, Nat.le_of_ble_eq_true rfl, Nat.le_of_ble_eq_true rfl⟩ rfl (fun _ => rfl) (fun _ => rfl) fun q1 => ?_
  refine zz_if_ne F (tgt := 37) dX9_nominate_23 (by decide) (fun h => zz_f h ?_) (fun h => zz_t h ?_)
  · exact zz_throw F (cls := "java/lang/IllegalArgumentException") dX9_nominate_37 dX9_nominate_40 dX9_nominate_41 dX9_nominate_43 dX9_nominate_46 (by decide) wtRX9_30_34k wsRX9_82 wtRX9_30_34g wtRX9_30_34n wtRX9_30_34o (Nat.le_of_ble_eq_true rfl) (Nat.le_of_ble_eq_true rfl) (hκ _)
  · refine zz_iload_n F (i := 2) dX9_nominate_26 rfl rfl ?_
    refine zz_iconst F (v := (0 : Int32)) dX9_nominate_27 (by decide) ?_
    refine zz_sipush F (v := (20000 : Int32)) dX9_nominate_28 (by decide) ?_
    refine zz_bind ?_
    refine zz_callSr F (ρ := []) (so := fun q2 => [zi q2]) (Mo := fun q2 => [s0, s1, s2, s3]) (zfWB_outside a2 (0 : Int32) (20000 : Int32)) dX9_nominate_31 wcRX9_26 wy_yX9_outside rfl ⟨rel0, rfl, rfl, Nat.le_of_ble_eq_true rfl, Nat.le_of_ble_eq_true rfl, Nat.le_of_ble_eq_true rfl⟩ rfl (fun _ => rfl) (fun _ => rfl) fun q2 => ?_
    refine zz_if_eq F (tgt := 47) dX9_nominate_34 (by decide) (fun h => zz_t h ?_) (fun h => zz_f h ?_)
    · refine zz_aload_n F (i := 0) dX9_nominate_47 rfl rfl ?_
      refine zz_getr F dX9_nominate_48 wfRX9_10 zCl_8 rfl (⟨zlb rfl, zlb rfl, zlb rfl⟩) rfl (by decide) rfl (r' := 1) (by decide) ?_
      refine zz_getr F dX9_nominate_51 wfRX9_84 zCl_3 rfl (⟨zlb rfl, zlb rfl, zlb rfl⟩) rfl (by decide) rfl (r' := 1) (by decide) ?_
      refine zz_iload_n F (i := 1) dX9_nominate_54 rfl rfl ?_
      refine zz_aload_n F (i := 0) dX9_nominate_55 rfl rfl ?_
      refine zz_getr F dX9_nominate_56 wfRX9_10 zCl_8 rfl (⟨zlb rfl, zlb rfl, zlb rfl⟩) rfl (by decide) rfl (r' := 1) (by decide) ?_
      refine zz_getf F dX9_nominate_59 wfRX9_79 zCl_3 rfl (⟨zlb rfl, zlb rfl, zlb rfl⟩) rfl (by decide) rfl rfl ?_
      refine zz_isub F dX9_nominate_62 ?_
      refine zz_iconst F (v := (1 : Int32)) dX9_nominate_63 (by decide) ?_
      refine zz_isub F dX9_nominate_64 ?_
      refine zz_iload_n F (i := 2) dX9_nominate_65 rfl rfl ?_
      refine zz_bind ?_
      refine zz_callVr F (ρ := [1]) (so := fun q3 => []) (Mo := fun q3 => [s0, q3, s2, s3]) (zfLe_put ((a1 - (s1 0 0 8)) - (1 : Int32)) a2 s1) dX9_nominate_66 wcRX9_88 wy_yX2_put rfl ⟨rel1, rfl, rfl, Nat.le_of_ble_eq_true rfl, Nat.le_of_ble_eq_true rfl, Nat.le_of_ble_eq_true rfl⟩ (⟨zlb rfl, zlb rfl, zlb rfl⟩) rfl rfl rfl (fun _ => rfl) (fun _ => rfl) fun q3 => ?_
      refine zz_aload_n F (i := 0) dX9_nominate_69 rfl rfl ?_
      refine zz_getr F dX9_nominate_70 wfRX9_10 zCl_8 rfl (⟨zlb rfl, zlb rfl, zlb rfl⟩) rfl (by decide) rfl (r' := 1) (by decide) ?_
      refine zz_getr F dX9_nominate_73 wfRX9_84 zCl_3 rfl (⟨zlb rfl, zlb rfl, zlb rfl⟩) rfl (by decide) rfl (r' := 1) (by decide) ?_
      refine zz_bind ?_
      refine zz_callVr F (ρ := [1]) (so := fun q4 => [zi q4]) (Mo := fun q4 => [s0, q3, s2, s3]) (zfLe_nominatedCount q3) dX9_nominate_76 wcRX9_94 wy_yX2_nominatedCount rfl ⟨rel1, rfl, rfl, Nat.le_of_ble_eq_true rfl, Nat.le_of_ble_eq_true rfl, Nat.le_of_ble_eq_true rfl⟩ (⟨zlb rfl, zlb rfl, zlb rfl⟩) rfl rfl rfl (fun _ => rfl) (fun _ => rfl) fun q4 => ?_
      exact zz_ireturn F dX9_nominate_79 rfl (hκ _)
    · exact zz_throw F (cls := "java/lang/IllegalArgumentException") dX9_nominate_37 dX9_nominate_40 dX9_nominate_41 dX9_nominate_43 dX9_nominate_46 (by decide) wtRX9_30_34k wsRX9_82 wtRX9_30_34g wtRX9_30_34n wtRX9_30_34o (Nat.le_of_ble_eq_true rfl) (Nat.le_of_ble_eq_true rfl) (hκ _)
theorem zfWB_nominate (a1 : Int32) (a2 : Int32)  (s0 : zM) (s1 : zM) (s2 : zM) (s3 : zM) : ∀ a, fWB_nominate a1 a2 s0 s1 s2 s3 = some a → zMet yX9_nominate cX9_nominate 3 (some .int) 6 90 [(2, [1, 2, 3]), (0, []), (0, []), (1, [])] [zr 0 0 0, zi a1, zi a2] [s0, s1, s2, s3] ((zts (fun q => some (zi q.1)) (fun q => [s0, q.2, s2, s3]) (fun b => b.1) (fun b => [s0, b.2, s2, s3])) a) := fun a ha => zMet_of (L0 := [some (zr 0 0 0), some (zi a1), some (zi a2)]) (φ := Option.bind (fWB_nominate a1 a2 s0 s1 s2 s3) (fun a => some ((zts (fun q => some (zi q.1)) (fun q => [s0, q.2, s2, s3]) (fun b => b.1) (fun b => [s0, b.2, s2, s3])) a))) (by decide) (fun _ => Nat.le_of_ble_eq_true rfl) (zl0 0 rfl) (fun X F => bfWB_nominate F a1 a2 s0 s1 s2 s3 (fun _ => rfl)) (by rw [ha]; rfl)
