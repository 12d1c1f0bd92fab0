theorem dX9_outside_0 : decode cX9_outside 0 = .ok (.iload_n 0, 1) := by decide +kernel
theorem dX9_outside_1 : decode cX9_outside 1 = .ok (.iload_n 1, 1) := by decide +kernel
theorem dX9_outside_2 : decode cX9_outside 2 = .ok (.if_icmp .lt 8, 3) := by decide +kernel
theorem dX9_outside_5 : decode cX9_outside 5 = .ok (.iload_n 0, 1) := by decide +kernel
theorem dX9_outside_6 : decode cX9_outside 6 = .ok (.iload_n 2, 1) := by decide +kernel
theorem dX9_outside_7 : decode cX9_outside 7 = .ok (.if_icmp .le 7, 3) := by decide +kernel
theorem dX9_outside_10 : decode cX9_outside 10 = .ok (.iconst 1, 1) := by decide +kernel
theorem dX9_outside_11 : decode cX9_outside 11 = .ok (.goto 4, 3) := by decide +kernel
theorem dX9_outside_14 : decode cX9_outside 14 = .ok (.iconst 0, 1) := by decide +kernel
theorem dX9_outside_15 : decode cX9_outside 15 = .ok (.ireturn, 1) := by decide +kernel
def fWB_outside (a0 : Int32) (a1 : Int32) (a2 : Int32)  : Option (Int32) :=
  if a0 < a1 then
  some (1 : Int32)
else
  if a0 ≤ a2 then
    some (0 : Int32)
  else
    some (1 : Int32)
set_option maxHeartbeats 4000000 in
set_option maxRecDepth 20000 in
theorem bfWB_outside {X : zX} (F : zFr X cX9_outside 3 RX9 (some .boolean)) (a0 : Int32) (a1 : Int32) (a2 : Int32)   {κ : Int32 → Option zO} (hκ : ∀ a, κ a = some ((fun a => ((.inl ((fun q => some (zi q)) a), (fun _ => []) a) : zO)) a)) : zZ X [] 0 0 3 0 [some (zi a0), some (zi a1), some (zi a2)] [] [] (Option.bind (fWB_outside a0 a1 a2) κ) := by
  unfold fWB_outside
  refine zz_iload_n F (i := 0) dX9_outside_0 rfl rfl ?_
  refine zz_iload_n F (i := 1) dX9_outside_1 rfl rfl ?_
  refine zz_icmp_lt F (tgt := 10) dX9_outside_2 (by decide) (fun h => zz_t h ?_) (fun h => zz_f h ?_)
  · refine zz_iconst F (v := (1 : Int32)) dX9_outside_10 (by decide) ?_
    refine zz_goto F (tgt := 15) dX9_outside_11 (by decide) ?_
    exact zz_zreturn F dX9_outside_15 rfl rfl (hκ _)
  · refine zz_iload_n F (i := 0) dX9_outside_5 rfl rfl ?_
    refine zz_iload_n F (i := 2) dX9_outside_6 rfl rfl ?_
    refine zz_icmp_le F (tgt := 14) dX9_outside_7 (by decide) (fun h => zz_t h ?_) (fun h => zz_f h ?_)
    · refine zz_iconst F (v := (0 : Int32)) dX9_outside_14 (by decide) ?_
      exact zz_zreturn F dX9_outside_15 rfl rfl (hκ _)
    · refine zz_iconst F (v := (1 : Int32)) dX9_outside_10 (by decide) ?_
      refine zz_goto F (tgt := 15) dX9_outside_11 (by decide) ?_
      exact zz_zreturn F dX9_outside_15 rfl rfl (hκ _)
theorem zfWB_outside (a0 : Int32) (a1 : Int32) (a2 : Int32)   : ∀ a, fWB_outside a0 a1 a2 = some a → zMet yX9_outside cX9_outside 3 (some .boolean) 0 0 [] [zi a0, zi a1, zi a2] [] ((fun a => ((.inl ((fun q => some (zi q)) a), (fun _ => []) a) : zO)) a) := fun a ha => zMet_of (L0 := [some (zi a0), some (zi a1), some (zi a2)]) (φ := Option.bind (fWB_outside a0 a1 a2) (fun a => some ((fun a => ((.inl ((fun q => some (zi q)) a), (fun _ => []) a) : zO)) a))) (by decide) (fun _ => Nat.le_of_ble_eq_true rfl) (zl0 0 rfl) (fun X F => bfWB_outside F a0 a1 a2 (fun _ => rfl)) (by rw [ha]; rfl)

theorem dX3_addString_0 : decode cX3_addString 0 = .ok (.aload_n 0, 1) := by decide +kernel
theorem dX3_addString_1 : decode cX3_addString 1 = .ok (.getfield 19, 3) := by decide +kernel
theorem dX3_addString_4 : decode cX3_addString 4 = .ok (.aload_n 0, 1) := by decide +kernel
theorem dX3_addString_5 : decode cX3_addString 5 = .ok (.getfield 50, 3) := by decide +kernel
theorem dX3_addString_8 : decode cX3_addString 8 = .ok (.aaload, 1) := by decide +kernel
theorem dX3_addString_9 : decode cX3_addString 9 = .ok (.iload_n 1, 1) := by decide +kernel
theorem dX3_addString_10 : decode cX3_addString 10 = .ok (.putfield 53, 3) := by decide +kernel
theorem dX3_addString_13 : decode cX3_addString 13 = .ok (.aload_n 0, 1) := by decide +kernel
theorem dX3_addString_14 : decode cX3_addString 14 = .ok (.dup, 1) := by decide +kernel
theorem dX3_addString_15 : decode cX3_addString 15 = .ok (.getfield 50, 3) := by decide +kernel
theorem dX3_addString_18 : decode cX3_addString 18 = .ok (.iconst 1, 1) := by decide +kernel
theorem dX3_addString_19 : decode cX3_addString 19 = .ok (.iadd, 1) := by decide +kernel
theorem dX3_addString_20 : decode cX3_addString 20 = .ok (.putfield 50, 3) := by decide +kernel
theorem dX3_addString_23 : decode cX3_addString 23 = .ok (.aload_n 0, 1) := by decide +kernel
theorem dX3_addString_24 : decode cX3_addString 24 = .ok (.getfield 50, 3) := by decide +kernel
theorem dX3_addString_27 : decode cX3_addString 27 = .ok (.iconst 1, 1) := by decide +kernel
theorem dX3_addString_28 : decode cX3_addString 28 = .ok (.isub, 1) := by decide +kernel
theorem dX3_addString_29 : decode cX3_addString 29 = .ok (.ireturn, 1) := by decide +kernel
theorem wfRX3_19 : zFl RX3 19 3 1 := ⟨_, rfl, by decide, zm_f 647 (by decide +kernel) rfl⟩
theorem wfRX3_50 : zFl RX3 50 3 6 := ⟨_, rfl, by decide, zm_f 658 (by decide +kernel) rfl⟩
theorem wpRX3_53 : zFw RX3 53 0 0 .int := ⟨_, rfl, by decide, zm_f 597 (by decide +kernel) rfl, rfl, by decide +kernel⟩
theorem wpRX3_50 : zFw RX3 50 3 6 .int := ⟨_, rfl, by decide, zm_f 658 (by decide +kernel) rfl, rfl, by decide +kernel⟩
def fSe_addString (a1 : Int32) (s0 : zM) : Option (Int32 × zM) :=
  zix (s0 0 0 6) 3 fun j1 =>
  zlet (zu s0 12 j1 0 a1) fun s0_2 =>
  zlet (zu s0_2 0 0 6 ((s0_2 0 0 6) + (1 : Int32))) fun s0_3 =>
  some (((s0_3 0 0 6) - (1 : Int32)), s0_3)
set_option maxHeartbeats 4000000 in
set_option maxRecDepth 20000 in
theorem bfSe_addString {X : zX} (F : zFr X cX3_addString 2 RX3 (some .int)) (a1 : Int32)  (s0 : zM) {κ : Int32 × zM → Option zO} (hκ : ∀ a, κ a = some ((fun a => ((.inl ((fun q => some (zi q.1)) a), (fun q => [q.2]) a) : zO)) a)) : zZ X [(0, [])] 0 0 2 0 [some (zr 0 0 0), some (zi a1)] [] [s0] (Option.bind (fSe_addString a1 s0) κ) := by
  unfold fSe_addString
  refine zz_aload_n F (i := 0) dX3_addString_0 rfl rfl ?_
  refine zz_getr F dX3_addString_1 wfRX3_19 zCl_3 rfl (⟨zlb rfl, zlb rfl, zlb rfl⟩) rfl (by decide) rfl (r' := 0) (by decide) ?_
  refine zz_aload_n F (i := 0) dX3_addString_4 rfl rfl ?_
  refine zz_getf F dX3_addString_5 wfRX3_50 zCl_3 rfl (⟨zlb rfl, zlb rfl, zlb rfl⟩) rfl (by decide) rfl rfl ?_
  refine zz_ix fun j1 hj1 hinj1 hej1 => zz_aal F dX3_addString_8 rfl (⟨zlb rfl, zlb rfl, zlb rfl⟩) rfl (by decide) rfl hinj1 hej1 rfl ?_
  refine zz_iload_n F (i := 1) dX3_addString_9 rfl rfl ?_
  refine zz_put F (Ms' := [(zu s0 12 j1 0 a1)]) dX3_addString_10 wpRX3_53 zCl_0 rfl (⟨zlb rfl, zlb rfl, hj1⟩) rfl (by decide) rfl rfl rfl ?_
  refine zz_letm (Mf := fun s0_2 => [s0_2]) fun s0_2 => ?_
  refine zz_aload_n F (i := 0) dX3_addString_13 rfl rfl ?_
  refine zz_dup F dX3_addString_14 rfl ?_
  refine zz_getf F dX3_addString_15 wfRX3_50 zCl_3 rfl (⟨zlb rfl, zlb rfl, zlb rfl⟩) rfl (by decide) rfl rfl ?_
  refine zz_iconst F (v := (1 : Int32)) dX3_addString_18 (by decide) ?_
  refine zz_iadd F dX3_addString_19 ?_
  refine zz_put F (Ms' := [(zu s0_2 0 0 6 ((s0_2 0 0 6) + (1 : Int32)))]) dX3_addString_20 wpRX3_50 zCl_3 rfl (⟨zlb rfl, zlb rfl, zlb rfl⟩) rfl (by decide) rfl rfl rfl ?_
  refine zz_letm (Mf := fun s0_3 => [s0_3]) fun s0_3 => ?_
  refine zz_aload_n F (i := 0) dX3_addString_23 rfl rfl ?_
  refine zz_getf F dX3_addString_24 wfRX3_50 zCl_3 rfl (⟨zlb rfl, zlb rfl, zlb rfl⟩) rfl (by decide) rfl rfl ?_
  refine zz_iconst F (v := (1 : Int32)) dX3_addString_27 (by decide) ?_
  refine zz_isub F dX3_addString_28 ?_
  exact zz_ireturn F dX3_addString_29 rfl (hκ _)
theorem zfSe_addString (a1 : Int32)  (s0 : zM) : ∀ a, fSe_addString a1 s0 = some a → zMet yX3_addString cX3_addString 2 (some .int) 0 0 [(0, [])] [zr 0 0 0, zi a1] [s0] ((fun a => ((.inl ((fun q => some (zi q.1)) a), (fun q => [q.2]) a) : zO)) a) := fun a ha => zMet_of (L0 := [some (zr 0 0 0), some (zi a1)]) (φ := Option.bind (fSe_addString a1 s0) (fun a => some ((fun a => ((.inl ((fun q => some (zi q.1)) a), (fun q => [q.2]) a) : zO)) a))) (by decide) (fun _ => Nat.le_of_ble_eq_true rfl) (zl0 0 rfl) (fun X F => bfSe_addString F a1 s0 (fun _ => rfl)) (by rw [ha]; rfl)

theorem dX9_string_0 : decode cX9_string 0 = .ok (.iload_n 1, 1) := by decide +kernel
theorem dX9_string_1 : decode cX9_string 1 = .ok (.bipush 100, 2) := by decide +kernel
theorem dX9_string_3 : decode cX9_string 3 = .ok (.sipush 9999, 3) := by decide +kernel
theorem dX9_string_6 : decode cX9_string 6 = .ok (.invokestatic 26, 3) := by decide +kernel
theorem dX9_string_9 : decode cX9_string 9 = .ok (.ifCond .eq 13, 3) := by decide +kernel
theorem dX9_string_12 : decode cX9_string 12 = .ok (.new 30, 3) := by decide +kernel
theorem dX9_string_15 : decode cX9_string 15 = .ok (.dup, 1) := by decide +kernel
theorem dX9_string_16 : decode cX9_string 16 = .ok (.ldc 32, 2) := by decide +kernel
theorem dX9_string_18 : decode cX9_string 18 = .ok (.invokespecial 34, 3) := by decide +kernel
theorem dX9_string_21 : decode cX9_string 21 = .ok (.athrow, 1) := by decide +kernel
theorem dX9_string_22 : decode cX9_string 22 = .ok (.aload_n 0, 1) := by decide +kernel
theorem dX9_string_23 : decode cX9_string 23 = .ok (.getfield 10, 3) := by decide +kernel
theorem dX9_string_26 : decode cX9_string 26 = .ok (.getfield 37, 3) := by decide +kernel
theorem dX9_string_29 : decode cX9_string 29 = .ok (.iconst 3, 1) := by decide +kernel
theorem dX9_string_30 : decode cX9_string 30 = .ok (.if_icmp .lt 13, 3) := by decide +kernel
theorem dX9_string_33 : decode cX9_string 33 = .ok (.new 41, 3) := by decide +kernel
theorem dX9_string_36 : decode cX9_string 36 = .ok (.dup, 1) := by decide +kernel
theorem dX9_string_37 : decode cX9_string 37 = .ok (.ldc 43, 2) := by decide +kernel
theorem dX9_string_39 : decode cX9_string 39 = .ok (.invokespecial 45, 3) := by decide +kernel
theorem dX9_string_42 : decode cX9_string 42 = .ok (.athrow, 1) := by decide +kernel
theorem dX9_string_43 : decode cX9_string 43 = .ok (.aload_n 0, 1) := by decide +kernel
theorem dX9_string_44 : decode cX9_string 44 = .ok (.getfield 10, 3) := by decide +kernel
theorem dX9_string_47 : decode cX9_string 47 = .ok (.iload_n 1, 1) := by decide +kernel
theorem dX9_string_48 : decode cX9_string 48 = .ok (.invokevirtual 46, 3) := by decide +kernel
theorem dX9_string_51 : decode cX9_string 51 = .ok (.ireturn, 1) := by decide +kernel
theorem wcRX9_26 : Cond.methodLink RX9 26 yX9_outside ∈ zTg ∧ Cond.static yX9_outside ∈ zTg ∧ Cond.initialized yX9_outside.cls ∈ zTg ∧ Cond.code yX9_outside cX9_outside 3 (some .boolean) ∈ zTg := ⟨zm_f 43 (by decide +kernel) rfl, zm_f 44 (by decide +kernel) rfl, zm_f 21 (by decide +kernel) rfl, zm_f 45 (by decide +kernel) rfl⟩
theorem wy_yX9_outside : yX9_outside.cls ≠ "java/lang/invoke/MethodHandle" ∧ yX9_outside.cls ≠ "java/lang/invoke/VarHandle" ∧ (parseMethodDescriptor yX9_outside.desc).map (fun d => d.parameters.length) = some 3 := by decide +kernel
theorem rel0 : zRel [] [(2, [1, 2, 3]), (0, []), (0, []), (1, [])] [] := by unfold zRel; decide
theorem wfRX9_10 : zFl RX9 10 8 0 := ⟨_, rfl, by decide, zm_f 703 (by decide +kernel) rfl⟩
theorem wfRX9_37 : zFl RX9 37 3 6 := ⟨_, rfl, by decide, zm_f 659 (by decide +kernel) rfl⟩
theorem wcRX9_46 : Cond.methodLink RX9 46 yX3_addString ∈ zTg ∧ Cond.instanceMethod yX3_addString ∈ zTg ∧ Cond.selects RX3 yX3_addString yX3_addString ∈ zTg ∧ Cond.initialized RX3 ∈ zTg ∧ Cond.code yX3_addString cX3_addString 2 (some .int) ∈ zTg := ⟨zm_f 814 (by decide +kernel) rfl, zm_f 815 (by decide +kernel) rfl, zm_f 816 (by decide +kernel) rfl, zm_f 22 (by decide +kernel) rfl, zm_f 817 (by decide +kernel) rfl⟩
theorem wy_yX3_addString : yX3_addString.cls = RX3 ∧ yX3_addString.cls ≠ "java/lang/invoke/MethodHandle" ∧ yX3_addString.cls ≠ "java/lang/invoke/VarHandle" ∧ (parseMethodDescriptor yX3_addString.desc).map (fun d => d.parameters.length) = some 1 := by decide +kernel
theorem rel1 : zRel [1] [(2, [1, 2, 3]), (0, []), (0, []), (1, [])] [(0, [])] := by unfold zRel; decide
theorem wtRX9_41_45k : Cond.classLink RX9 41 "java/lang/IllegalStateException" ∈ zTg ∧ Cond.initialized "java/lang/IllegalStateException" ∈ zTg := ⟨zm_f 798 (by decide +kernel) rfl, zm_f 34 (by decide +kernel) rfl⟩
theorem wtRX9_41_45g : ∀ w ∈ (vx_atS RX9 45 "java/lang/IllegalStateException" ["java/lang/RuntimeException", "java/lang/Exception"]).filter goodWord, w ∈ zTg := by decide +kernel
theorem wtRX9_41_45n : ∀ w ∈ (vx_atS RX9 45 "java/lang/IllegalStateException" ["java/lang/RuntimeException", "java/lang/Exception"]).filter (fun w => !goodWord w), w ∈ zNws := by decide +kernel
theorem wtRX9_41_45o : ∀ w ∈ Cond.classLink RX9 41 "java/lang/IllegalStateException" :: Cond.initialized "java/lang/IllegalStateException" :: vx_atS RX9 45 "java/lang/IllegalStateException" ["java/lang/RuntimeException", "java/lang/Exception"], vx_ot w = true := by decide +kernel
theorem wsRX9_43 : (RX9, 43, "there are 3 STRINGS") ∈ zstr := by decide +kernel
theorem wtRX9_30_34k : Cond.classLink RX9 30 "java/lang/IllegalArgumentException" ∈ zTg ∧ Cond.initialized "java/lang/IllegalArgumentException" ∈ zTg := ⟨zm_f 46 (by decide +kernel) rfl, zm_f 33 (by decide +kernel) rfl⟩
theorem wtRX9_30_34g : ∀ w ∈ (vx_atS RX9 34 "java/lang/IllegalArgumentException" ["java/lang/RuntimeException", "java/lang/Exception"]).filter goodWord, w ∈ zTg := by decide +kernel
theorem wtRX9_30_34n : ∀ w ∈ (vx_atS RX9 34 "java/lang/IllegalArgumentException" ["java/lang/RuntimeException", "java/lang/Exception"]).filter (fun w => !goodWord w), w ∈ zNws := by decide +kernel
theorem wtRX9_30_34o : ∀ w ∈ Cond.classLink RX9 30 "java/lang/IllegalArgumentException" :: Cond.initialized "java/lang/IllegalArgumentException" :: vx_atS RX9 34 "java/lang/IllegalArgumentException" ["java/lang/RuntimeException", "java/lang/Exception"], vx_ot w = true := by decide +kernel
theorem wsRX9_32 : (RX9, 32, "a RATING is 100 to 9999") ∈ zstr := by decide +kernel
def fWB_string (a1 : Int32) (s0 : zM) (s1 : zM) (s2 : zM) (s3 : zM) : Option ((Int32 × zM) ⊕ (String × zM)) :=
  Option.bind (fWB_outside a1 (100 : Int32) (9999 : Int32)) fun q1 =>
  if q1 = 0 then
  if (s1 0 0 6) < (3 : Int32) then
    Option.bind (fSe_addString a1 s1) fun q2 =>
      some (.inl (q2.1, q2.2))
  else
    some (.inr ("java/lang/IllegalStateException", s1))
else
  some (.inr ("java/lang/IllegalArgumentException", s1))
set_option maxHeartbeats 4000000 in
set_option maxRecDepth 20000 in
theorem bfWB_string {X : zX} (F : zFr X cX9_string 2 RX9 (some .int)) (a1 : Int32)  (s0 : zM) (s1 : zM) (s2 : zM) (s3 : zM) {κ : (Int32 × zM) ⊕ (String × zM) → Option zO} (hκ : ∀ a, κ a = some ((zts (fun q => some (zi q.1)) (fun q => [s0, q.2, s2, s3]) (fun b => b.1) (fun b => [s0, b.2, s2, s3])) a)) : zZ X [(2, [1, 2, 3]), (0, []), (0, []), (1, [])] 6 90 2 0 [some (zr 0 0 0), some (zi a1)] [] [s0, s1, s2, s3] (Option.bind (fWB_string a1 s0 s1 s2 s3) κ) := by
  unfold fWB_string
  refine zz_iload_n F (i := 1) dX9_string_0 rfl rfl ?_
  refine zz_bipush F (v := (100 : Int32)) dX9_string_1 (by decide) ?_
  refine zz_sipush F (v := (9999 : Int32)) dX9_string_3 (by decide) ?_
  refine zz_bind ?_
  refine zz_callSr F (ρ := []) (so := fun q1 => [zi q1]) (Mo := fun q1 => [s0, s1, s2, s3]) (zfWB_outside a1 (100 : Int32) (9999 : Int32)) dX9_string_6 wcRX9_26 wy_yX9_outside rfl ⟨rel0, rfl, rfl, Nat.le_of_ble_eq_true rfl, Nat.le_of_ble_eq_true rfl, Nat.le_of_ble_eq_true rfl⟩ rfl (fun _ => rfl) (fun _ => rfl) fun q1 => ?_
  refine zz_if_eq F (tgt := 22) dX9_string_9 (by decide) (fun h => zz_t h ?_) (fun h => zz_f h ?_)
  · refine zz_aload_n F (i := 0) dX9_string_22 rfl rfl ?_
    refine zz_getr F dX9_string_23 wfRX9_10 zCl_8 rfl (⟨zlb rfl, zlb rfl, zlb rfl⟩) rfl (by decide) rfl (r' := 1) (by decide) ?_
    refine zz_getf F dX9_string_26 wfRX9_37 zCl_3 rfl (⟨zlb rfl, zlb rfl, zlb rfl⟩) rfl (by decide) rfl rfl ?_
    refine zz_iconst F (v := (3 : Int32)) dX9_string_29 (by decide) ?_
    refine zz_icmp_lt F (tgt := 43) dX9_string_30 (by decide) (fun h => zz_t h ?_) (fun h => zz_f h ?_)
    · refine zz_aload_n F (i := 0) dX9_string_43 rfl rfl ?_
      refine zz_getr F dX9_string_44 wfRX9_10 zCl_8 rfl (⟨zlb rfl, zlb rfl, zlb rfl⟩) rfl (by decide) rfl (r' := 1) (by decide) ?_
      refine zz_iload_n F (i := 1) dX9_string_47 rfl rfl ?_
      refine zz_bind ?_
      refine zz_callVr F (ρ := [1]) (so := fun q2 => [zi q2.1]) (Mo := fun q2 => [s0, q2.2, s2, s3]) (zfSe_addString a1 s1) dX9_string_48 wcRX9_46 wy_yX3_addString rfl ⟨rel1, rfl, rfl, Nat.le_of_ble_eq_true rfl, Nat.le_of_ble_eq_true rfl, Nat.le_of_ble_eq_true rfl⟩ (⟨zlb rfl, zlb rfl, zlb rfl⟩) rfl rfl rfl (fun _ => rfl) (fun _ => rfl) fun q2 => ?_
      exact zz_ireturn F dX9_string_51 rfl (hκ _)
    · exact zz_throw F (cls := "java/lang/IllegalStateException") dX9_string_33 dX9_string_36 dX9_string_37 dX9_string_39 dX9_string_42 (by decide) wtRX9_41_45k wsRX9_43 wtRX9_41_45g wtRX9_41_45n wtRX9_41_45o (Nat.le_of_ble_eq_true rfl) (Nat.le_of_ble_eq_true rfl) (hκ _)
  · exact zz_throw F (cls := "java/lang/IllegalArgumentException") dX9_string_12 dX9_string_15 dX9_string_16 dX9_string_18 dX9_string_21 (by decide) wtRX9_30_34k wsRX9_32 wtRX9_30_34g wtRX9_30_34n wtRX9_30_34o (Nat.le_of_ble_eq_true rfl) (Nat.le_of_ble_eq_true rfl) (hκ _)
theorem zfWB_string (a1 : Int32)  (s0 : zM) (s1 : zM) (s2 : zM) (s3 : zM) : ∀ a, fWB_string a1 s0 s1 s2 s3 = some a → zMet yX9_string cX9_string 2 (some .int) 6 90 [(2, [1, 2, 3]), (0, []), (0, []), (1, [])] [zr 0 0 0, zi a1] [s0, s1, s2, s3] ((zts (fun q => some (zi q.1)) (fun q => [s0, q.2, s2, s3]) (fun b => b.1) (fun b => [s0, b.2, s2, s3])) a) := fun a ha => zMet_of (L0 := [some (zr 0 0 0), some (zi a1)]) (φ := Option.bind (fWB_string a1 s0 s1 s2 s3) (fun a => some ((zts (fun q => some (zi q.1)) (fun q => [s0, q.2, s2, s3]) (fun b => b.1) (fun b => [s0, b.2, s2, s3])) a))) (by decide) (fun _ => Nat.le_of_ble_eq_true rfl) (zl0 0 rfl) (fun X F => bfWB_string F a1 s0 s1 s2 s3 (fun _ => rfl)) (by rw [ha]; rfl)

theorem dX9_checkString_0 : decode cX9_checkString 0 = .ok (.iload_n 1, 1) := by decide +kernel
theorem dX9_checkString_1 : decode cX9_checkString 1 = .ok (.ifCond .lt 14, 3) := by decide +kernel
theorem dX9_checkString_4 : decode cX9_checkString 4 = .ok (.iload_n 1, 1) := by decide +kernel
theorem dX9_checkString_5 : decode cX9_checkString 5 = .ok (.aload_n 0, 1) := by decide +kernel
theorem dX9_checkString_6 : decode cX9_checkString 6 = .ok (.getfield 10, 3) := by decide +kernel
theorem dX9_checkString_9 : decode cX9_checkString 9 = .ok (.getfield 37, 3) := by decide +kernel
theorem dX9_checkString_12 : decode cX9_checkString 12 = .ok (.if_icmp .lt 14, 3) := by decide +kernel
theorem dX9_checkString_15 : decode cX9_checkString 15 = .ok (.new 238, 3) := by decide +kernel
theorem dX9_checkString_18 : decode cX9_checkString 18 = .ok (.dup, 1) := by decide +kernel
theorem dX9_checkString_19 : decode cX9_checkString 19 = .ok (.ldc_w 364, 3) := by decide +kernel
theorem dX9_checkString_22 : decode cX9_checkString 22 = .ok (.invokespecial 242, 3) := by decide +kernel
theorem dX9_checkString_25 : decode cX9_checkString 25 = .ok (.athrow, 1) := by decide +kernel
theorem dX9_checkString_26 : decode cX9_checkString 26 = .ok (.return_, 1) := by decide +kernel
theorem wtRX9_238_242k : Cond.classLink RX9 238 "java/lang/IndexOutOfBoundsException" ∈ zTg ∧ Cond.initialized "java/lang/IndexOutOfBoundsException" ∈ zTg := ⟨zm_f 283 (by decide +kernel) rfl, zm_f 35 (by decide +kernel) rfl⟩
theorem wtRX9_238_242g : ∀ w ∈ (vx_atS RX9 242 "java/lang/IndexOutOfBoundsException" ["java/lang/RuntimeException", "java/lang/Exception"]).filter goodWord, w ∈ zTg := by decide +kernel
theorem wtRX9_238_242n : ∀ w ∈ (vx_atS RX9 242 "java/lang/IndexOutOfBoundsException" ["java/lang/RuntimeException", "java/lang/Exception"]).filter (fun w => !goodWord w), w ∈ zNws := by decide +kernel
theorem wtRX9_238_242o : ∀ w ∈ Cond.classLink RX9 238 "java/lang/IndexOutOfBoundsException" :: Cond.initialized "java/lang/IndexOutOfBoundsException" :: vx_atS RX9 242 "java/lang/IndexOutOfBoundsException" ["java/lang/RuntimeException", "java/lang/Exception"], vx_ot w = true := by decide +kernel
theorem wsRX9_364 : (RX9, 364, "no such STRING") ∈ zstr := by decide +kernel
def fWB_checkString (a1 : Int32) (s0 : zM) (s1 : zM) (s2 : zM) (s3 : zM) : Option ((Unit) ⊕ (String)) :=
  if a1 < 0 then
  some (.inr "java/lang/IndexOutOfBoundsException")
else
  if a1 < (s1 0 0 6) then
    some (.inl ())
  else
    some (.inr "java/lang/IndexOutOfBoundsException")
set_option maxHeartbeats 4000000 in
set_option maxRecDepth 20000 in
theorem bfWB_checkString {X : zX} (F : zFr X cX9_checkString 2 RX9 none) (a1 : Int32)  (s0 : zM) (s1 : zM) (s2 : zM) (s3 : zM) {κ : (Unit) ⊕ (String) → Option zO} (hκ : ∀ a, κ a = some ((zts (fun _ => (none : Option zV)) (fun _ => [s0, s1, s2, s3]) (fun b => b) (fun _ => [s0, s1, s2, s3])) a)) : zZ X [(2, [1, 2, 3]), (0, []), (0, []), (1, [])] 6 90 2 0 [some (zr 0 0 0), some (zi a1)] [] [s0, s1, s2, s3] (Option.bind (fWB_checkString a1 s0 s1 s2 s3) κ) := by
  unfold fWB_checkString
  refine zz_iload_n F (i := 1) dX9_checkString_0 rfl rfl ?_
  refine zz_if_lt F (tgt := 15) dX9_checkString_1 (by decide) (fun h => zz_t h ?_) (fun h => zz_f h ?_)
  · exact zz_throwW F (cls := "java/lang/IndexOutOfBoundsException") dX9_checkString_15 dX9_checkString_18 dX9_checkString_19 dX9_checkString_22 dX9_checkString_25 (by decide) wtRX9_238_242k wsRX9_364 wtRX9_238_242g wtRX9_238_242n wtRX9_238_242o (Nat.le_of_ble_eq_true rfl) (Nat.le_of_ble_eq_true rfl) (hκ _)
  · refine zz_iload_n F (i := 1) dX9_checkString_4 rfl rfl ?_
    refine zz_aload_n F (i := 0) dX9_checkString_5 rfl rfl ?_
    refine zz_getr F dX9_checkString_6 wfRX9_10 zCl_8 rfl (⟨zlb rfl, zlb rfl, zlb rfl⟩) rfl (by decide) rfl (r' := 1) (by decide) ?_
    refine zz_getf F dX9_checkString_9 wfRX9_37 zCl_3 rfl (⟨zlb rfl, zlb rfl, zlb rfl⟩) rfl (by decide) rfl rfl ?_
    refine zz_icmp_lt F (tgt := 26) dX9_checkString_12 (by decide) (fun h => zz_t h ?_) (fun h => zz_f h ?_)
    · exact zz_return F dX9_checkString_26 rfl (hκ _)
    · exact zz_throwW F (cls := "java/lang/IndexOutOfBoundsException") dX9_checkString_15 dX9_checkString_18 dX9_checkString_19 dX9_checkString_22 dX9_checkString_25 (by decide) wtRX9_238_242k wsRX9_364 wtRX9_238_242g wtRX9_238_242n wtRX9_238_242o (Nat.le_of_ble_eq_true rfl) (Nat.le_of_ble_eq_true rfl) (hκ _)
theorem zfWB_checkString (a1 : Int32)  (s0 : zM) (s1 : zM) (s2 : zM) (s3 : zM) : ∀ a, fWB_checkString a1 s0 s1 s2 s3 = some a → zMet yX9_checkString cX9_checkString 2 none 6 90 [(2, [1, 2, 3]), (0, []), (0, []), (1, [])] [zr 0 0 0, zi a1] [s0, s1, s2, s3] ((zts (fun _ => (none : Option zV)) (fun _ => [s0, s1, s2, s3]) (fun b => b) (fun _ => [s0, s1, s2, s3])) a) := fun a ha => zMet_of (L0 := [some (zr 0 0 0), some (zi a1)]) (φ := Option.bind (fWB_checkString a1 s0 s1 s2 s3) (fun a => some ((zts (fun _ => (none : Option zV)) (fun _ => [s0, s1, s2, s3]) (fun b => b) (fun _ => [s0, s1, s2, s3])) a))) (by decide) (fun _ => Nat.le_of_ble_eq_true rfl) (zl0 0 rfl) (fun X F => bfWB_checkString F a1 s0 s1 s2 s3 (fun _ => rfl)) (by rw [ha]; rfl)

theorem dX3_isTaken_0 : decode cX3_isTaken 0 = .ok (.iconst 0, 1) := by decide +kernel
theorem dX3_isTaken_1 : decode cX3_isTaken 1 = .ok (.istore_n 3, 1) := by decide +kernel
theorem dX3_isTaken_2 : decode cX3_isTaken 2 = .ok (.iload_n 3, 1) := by decide +kernel
theorem dX3_isTaken_3 : decode cX3_isTaken 3 = .ok (.aload_n 0, 1) := by decide +kernel
theorem dX3_isTaken_4 : decode cX3_isTaken 4 = .ok (.getfield 56, 3) := by decide +kernel
theorem dX3_isTaken_7 : decode cX3_isTaken 7 = .ok (.if_icmp .ge 37, 3) := by decide +kernel
theorem dX3_isTaken_10 : decode cX3_isTaken 10 = .ok (.aload_n 0, 1) := by decide +kernel
theorem dX3_isTaken_11 : decode cX3_isTaken 11 = .ok (.getfield 11, 3) := by decide +kernel
theorem dX3_isTaken_14 : decode cX3_isTaken 14 = .ok (.iload_n 3, 1) := by decide +kernel
theorem dX3_isTaken_15 : decode cX3_isTaken 15 = .ok (.aaload, 1) := by decide +kernel
theorem dX3_isTaken_16 : decode cX3_isTaken 16 = .ok (.getfield 59, 3) := by decide +kernel
theorem dX3_isTaken_19 : decode cX3_isTaken 19 = .ok (.iload_n 1, 1) := by decide +kernel
theorem dX3_isTaken_20 : decode cX3_isTaken 20 = .ok (.if_icmp .ne 18, 3) := by decide +kernel
theorem dX3_isTaken_23 : decode cX3_isTaken 23 = .ok (.aload_n 0, 1) := by decide +kernel
theorem dX3_isTaken_24 : decode cX3_isTaken 24 = .ok (.getfield 11, 3) := by decide +kernel
theorem dX3_isTaken_27 : decode cX3_isTaken 27 = .ok (.iload_n 3, 1) := by decide +kernel
theorem dX3_isTaken_28 : decode cX3_isTaken 28 = .ok (.aaload, 1) := by decide +kernel
theorem dX3_isTaken_29 : decode cX3_isTaken 29 = .ok (.getfield 62, 3) := by decide +kernel
theorem dX3_isTaken_32 : decode cX3_isTaken 32 = .ok (.iload_n 2, 1) := by decide +kernel
theorem dX3_isTaken_33 : decode cX3_isTaken 33 = .ok (.if_icmp .ne 5, 3) := by decide +kernel
theorem dX3_isTaken_36 : decode cX3_isTaken 36 = .ok (.iconst 1, 1) := by decide +kernel
theorem dX3_isTaken_37 : decode cX3_isTaken 37 = .ok (.ireturn, 1) := by decide +kernel
theorem dX3_isTaken_38 : decode cX3_isTaken 38 = .ok (.iinc 3 1, 3) := by decide +kernel
theorem dX3_isTaken_41 : decode cX3_isTaken 41 = .ok (.goto (-39), 3) := by decide +kernel
theorem dX3_isTaken_44 : decode cX3_isTaken 44 = .ok (.iconst 0, 1) := by decide +kernel
theorem dX3_isTaken_45 : decode cX3_isTaken 45 = .ok (.ireturn, 1) := by decide +kernel
theorem wfRX3_56 : zFl RX3 56 3 5 := ⟨_, rfl, by decide, zm_f 656 (by decide +kernel) rfl⟩
theorem wfRX3_11 : zFl RX3 11 3 0 := ⟨_, rfl, by decide, zm_f 644 (by decide +kernel) rfl⟩
theorem wfRX3_59 : zFl RX3 59 5 0 := ⟨_, rfl, by decide, zm_f 529 (by decide +kernel) rfl⟩
theorem wfRX3_62 : zFl RX3 62 5 1 := ⟨_, rfl, by decide, zm_f 532 (by decide +kernel) rfl⟩
def fSe_isTaken_l2 (a1 : Int32) (a2 : Int32) (s0 : zM) (q1 : Int32) : Option ((Int32) ⊕ ((Unit) ⊕ (Int32))) :=
  if (s0 0 0 5) ≤ q1 then
  some (.inr (.inl ()))
else
  zix q1 8 fun j3 =>
    if (s0 7 j3 0) = a1 then
    zix q1 8 fun j5 =>
      if (s0 7 j5 1) = a2 then
      some (.inr (.inr (1 : Int32)))
    else
      zlet (q1 + 1) fun v6 =>
        some (.inl v6)
  else
    zlet (q1 + 1) fun v4 =>
      some (.inl v4)
def fSe_isTaken (a1 : Int32) (a2 : Int32) (s0 : zM) : Option (Int32) :=
  Option.bind (ziter (fSe_isTaken_l2 a1 a2 s0) 1000 (0 : Int32)) (Sum.elim (fun _ =>
  some (0 : Int32)) (fun r => some r))
set_option maxHeartbeats 4000000 in
set_option maxRecDepth 20000 in
theorem bfSe_isTaken_l2 {X : zX} (F : zFr X cX3_isTaken 4 RX3 (some .boolean)) (a1 : Int32) (a2 : Int32) (s0 : zM)  {ψ : (Int32) ⊕ ((Unit) ⊕ (Int32)) → Option zO} (h1 : ∀ q1 : Int32, zZ X [(0, [])] 0 0 4 2 [some (zr 0 0 0), some (zi a1), some (zi a2), some (zi q1)] [] [s0] (ψ (.inl q1))) (h2 : ∀ q2 : Unit, zZ X [(0, [])] 0 0 4 44 [none, none, none, none] [] [s0] (ψ (.inr (.inl q2)))) (h3 : ∀ r, ψ (.inr (.inr r)) = some ((fun a => ((.inl ((fun q => some (zi q)) a), (fun _ => [s0]) a) : zO)) r)) (q1 : Int32) : zZ X [(0, [])] 0 0 4 2 [some (zr 0 0 0), some (zi a1), some (zi a2), some (zi q1)] [] [s0] (Option.bind (fSe_isTaken_l2 a1 a2 s0 q1) ψ) := by
  unfold fSe_isTaken_l2
  refine zz_iload_n F (i := 3) dX3_isTaken_2 rfl rfl ?_
  refine zz_aload_n F (i := 0) dX3_isTaken_3 rfl rfl ?_
  refine zz_getf F dX3_isTaken_4 wfRX3_56 zCl_3 rfl (⟨zlb rfl, zlb rfl, zlb rfl⟩) rfl (by decide) rfl rfl ?_
  refine zz_icmp_ge F (tgt := 44) dX3_isTaken_7 (by decide) (fun h => zz_t h ?_) (fun h => zz_f h ?_)
  · exact zz_sub (zs_n (zs_n (zs_n (zs_n zs_z)))) (h2 ())
  · refine zz_aload_n F (i := 0) dX3_isTaken_10 rfl rfl ?_
    refine zz_getr F dX3_isTaken_11 wfRX3_11 zCl_3 rfl (⟨zlb rfl, zlb rfl, zlb rfl⟩) rfl (by decide) rfl (r' := 0) (by decide) ?_
    refine zz_iload_n F (i := 3) dX3_isTaken_14 rfl rfl ?_
    refine zz_ix fun j3 hj3 hinj3 hej3 => zz_aal F dX3_isTaken_15 rfl (⟨zlb rfl, zlb rfl, zlb rfl⟩) rfl (by decide) rfl hinj3 hej3 rfl ?_
    refine zz_getf F dX3_isTaken_16 wfRX3_59 zCl_5 rfl (⟨zlb rfl, zlb rfl, hj3⟩) rfl (by decide) rfl rfl ?_
    refine zz_iload_n F (i := 1) dX3_isTaken_19 rfl rfl ?_
    refine zz_icmp_ne F (tgt := 38) dX3_isTaken_20 (by decide) (fun h => zz_f h ?_) (fun h => zz_t h ?_)
    · refine zz_iinc F (i := 3) (v := q1 + 1) (L' := [some (zr 0 0 0), some (zi a1), some (zi a2), some (zi (q1 + 1))]) dX3_isTaken_38 rfl (by first | rfl | decide) (by decide) rfl rfl ?_
      refine zz_letl (Lf := fun v4 => [some (zr 0 0 0), some (zi a1), some (zi a2), some (zi v4)]) fun v4 => ?_
      refine zz_goto F (tgt := 2) dX3_isTaken_41 (by decide) ?_
      exact zz_sub (zs_k (zs_k (zs_k (zs_k zs_z)))) (h1 v4)
    · refine zz_aload_n F (i := 0) dX3_isTaken_23 rfl rfl ?_
      refine zz_getr F dX3_isTaken_24 wfRX3_11 zCl_3 rfl (⟨zlb rfl, zlb rfl, zlb rfl⟩) rfl (by decide) rfl (r' := 0) (by decide) ?_
      refine zz_iload_n F (i := 3) dX3_isTaken_27 rfl rfl ?_
      refine zz_ix fun j5 hj5 hinj5 hej5 => zz_aal F dX3_isTaken_28 rfl (⟨zlb rfl, zlb rfl, zlb rfl⟩) rfl (by decide) rfl hinj5 hej5 rfl ?_
      refine zz_getf F dX3_isTaken_29 wfRX3_62 zCl_5 rfl (⟨zlb rfl, zlb rfl, hj5⟩) rfl (by decide) rfl rfl ?_
      refine zz_iload_n F (i := 2) dX3_isTaken_32 rfl rfl ?_
      refine zz_icmp_ne F (tgt := 38) dX3_isTaken_33 (by decide) (fun h => zz_f h ?_) (fun h => zz_t h ?_)
      · refine zz_iinc F (i := 3) (v := q1 + 1) (L' := [some (zr 0 0 0), some (zi a1), some (zi a2), some (zi (q1 + 1))]) dX3_isTaken_38 rfl (by first | rfl | decide) (by decide) rfl rfl ?_
        refine zz_letl (Lf := fun v6 => [some (zr 0 0 0), some (zi a1), some (zi a2), some (zi v6)]) fun v6 => ?_
        refine zz_goto F (tgt := 2) dX3_isTaken_41 (by decide) ?_
        exact zz_sub (zs_k (zs_k (zs_k (zs_k zs_z)))) (h1 v6)
      · refine zz_iconst F (v := (1 : Int32)) dX3_isTaken_36 (by decide) ?_
        exact zz_zreturn F dX3_isTaken_37 rfl rfl (h3 _)
set_option maxHeartbeats 4000000 in
set_option maxRecDepth 20000 in
theorem bfSe_isTaken {X : zX} (F : zFr X cX3_isTaken 4 RX3 (some .boolean)) (a1 : Int32) (a2 : Int32)  (s0 : zM) {κ : Int32 → Option zO} (hκ : ∀ a, κ a = some ((fun a => ((.inl ((fun q => some (zi q)) a), (fun _ => [s0]) a) : zO)) a)) : zZ X [(0, [])] 0 0 4 0 [some (zr 0 0 0), some (zi a1), some (zi a2), none] [] [s0] (Option.bind (fSe_isTaken a1 a2 s0) κ) := by
  unfold fSe_isTaken
  refine zz_iconst F (v := (0 : Int32)) dX3_isTaken_0 (by decide) ?_
  refine zz_istore_n F (i := 3) (L' := [some (zr 0 0 0), some (zi a1), some (zi a2), some (zi (0 : Int32))]) dX3_isTaken_1 rfl (by decide) rfl rfl ?_
  refine zz_sub (zs_k (zs_k (zs_k (zs_k zs_z)))) ?_
  refine zz_bind ?_
  refine zz_iter (Lf := fun q1 => [some (zr 0 0 0), some (zi a1), some (zi a2), some (zi q1)]) (Mf := fun q1 => [s0]) (fun q1 _ e7 e8 => bfSe_isTaken_l2 F a1 a2 s0  e7 (fun q2 => ?_) (fun r => ?_) q1) 1000 (0 : Int32)
  · rw [e8]
    dsimp only [Sum.elim_inl]
    refine zz_iconst F (v := (0 : Int32)) dX3_isTaken_44 (by decide) ?_
    exact zz_zreturn F dX3_isTaken_45 rfl rfl (hκ _)
  · exact (e8 _).trans (hκ _)
theorem zfSe_isTaken (a1 : Int32) (a2 : Int32)  (s0 : zM) : ∀ a, fSe_isTaken a1 a2 s0 = some a → zMet yX3_isTaken cX3_isTaken 4 (some .boolean) 0 0 [(0, [])] [zr 0 0 0, zi a1, zi a2] [s0] ((fun a => ((.inl ((fun q => some (zi q)) a), (fun _ => [s0]) a) : zO)) a) := fun a ha => zMet_of (L0 := [some (zr 0 0 0), some (zi a1), some (zi a2), none]) (φ := Option.bind (fSe_isTaken a1 a2 s0) (fun a => some ((fun a => ((.inl ((fun q => some (zi q)) a), (fun _ => [s0]) a) : zO)) a))) (by decide) (fun _ => Nat.le_of_ble_eq_true rfl) (zl0 1 rfl) (fun X F => bfSe_isTaken F a1 a2 s0 (fun _ => rfl)) (by rw [ha]; rfl)

theorem dX3_addTurbine_0 : decode cX3_addTurbine 0 = .ok (.aload_n 0, 1) := by decide +kernel
theorem dX3_addTurbine_1 : decode cX3_addTurbine 1 = .ok (.getfield 11, 3) := by decide +kernel
theorem dX3_addTurbine_4 : decode cX3_addTurbine 4 = .ok (.aload_n 0, 1) := by decide +kernel
theorem dX3_addTurbine_5 : decode cX3_addTurbine 5 = .ok (.getfield 56, 3) := by decide +kernel
theorem dX3_addTurbine_8 : decode cX3_addTurbine 8 = .ok (.aaload, 1) := by decide +kernel
theorem dX3_addTurbine_9 : decode cX3_addTurbine 9 = .ok (.astore 4, 2) := by decide +kernel
theorem dX3_addTurbine_11 : decode cX3_addTurbine 11 = .ok (.aload 4, 2) := by decide +kernel
theorem dX3_addTurbine_13 : decode cX3_addTurbine 13 = .ok (.iload_n 1, 1) := by decide +kernel
theorem dX3_addTurbine_14 : decode cX3_addTurbine 14 = .ok (.putfield 59, 3) := by decide +kernel
theorem dX3_addTurbine_17 : decode cX3_addTurbine 17 = .ok (.aload 4, 2) := by decide +kernel
theorem dX3_addTurbine_19 : decode cX3_addTurbine 19 = .ok (.iload_n 2, 1) := by decide +kernel
theorem dX3_addTurbine_20 : decode cX3_addTurbine 20 = .ok (.putfield 62, 3) := by decide +kernel
theorem dX3_addTurbine_23 : decode cX3_addTurbine 23 = .ok (.aload 4, 2) := by decide +kernel
theorem dX3_addTurbine_25 : decode cX3_addTurbine 25 = .ok (.iload_n 3, 1) := by decide +kernel
theorem dX3_addTurbine_26 : decode cX3_addTurbine 26 = .ok (.putfield 65, 3) := by decide +kernel
theorem dX3_addTurbine_29 : decode cX3_addTurbine 29 = .ok (.aload_n 0, 1) := by decide +kernel
theorem dX3_addTurbine_30 : decode cX3_addTurbine 30 = .ok (.dup, 1) := by decide +kernel
theorem dX3_addTurbine_31 : decode cX3_addTurbine 31 = .ok (.getfield 56, 3) := by decide +kernel
theorem dX3_addTurbine_34 : decode cX3_addTurbine 34 = .ok (.iconst 1, 1) := by decide +kernel
theorem dX3_addTurbine_35 : decode cX3_addTurbine 35 = .ok (.iadd, 1) := by decide +kernel
theorem dX3_addTurbine_36 : decode cX3_addTurbine 36 = .ok (.putfield 56, 3) := by decide +kernel
theorem dX3_addTurbine_39 : decode cX3_addTurbine 39 = .ok (.aload_n 0, 1) := by decide +kernel
theorem dX3_addTurbine_40 : decode cX3_addTurbine 40 = .ok (.getfield 56, 3) := by decide +kernel
theorem dX3_addTurbine_43 : decode cX3_addTurbine 43 = .ok (.iconst 1, 1) := by decide +kernel
theorem dX3_addTurbine_44 : decode cX3_addTurbine 44 = .ok (.isub, 1) := by decide +kernel
theorem dX3_addTurbine_45 : decode cX3_addTurbine 45 = .ok (.ireturn, 1) := by decide +kernel
theorem wpRX3_59 : zFw RX3 59 5 0 .int := ⟨_, rfl, by decide, zm_f 529 (by decide +kernel) rfl, rfl, by decide +kernel⟩
theorem wpRX3_62 : zFw RX3 62 5 1 .int := ⟨_, rfl, by decide, zm_f 532 (by decide +kernel) rfl, rfl, by decide +kernel⟩
theorem wpRX3_65 : zFw RX3 65 5 2 .int := ⟨_, rfl, by decide, zm_f 535 (by decide +kernel) rfl, rfl, by decide +kernel⟩
theorem wpRX3_56 : zFw RX3 56 3 5 .int := ⟨_, rfl, by decide, zm_f 656 (by decide +kernel) rfl, rfl, by decide +kernel⟩
def fSe_addTurbine (a1 : Int32) (a2 : Int32) (a3 : Int32) (s0 : zM) : Option (Int32 × zM) :=
  zix (s0 0 0 5) 8 fun j1 =>
  zlet (zu s0 7 j1 0 a1) fun s0_2 =>
  zlet (zu s0_2 7 j1 1 a2) fun s0_3 =>
  zlet (zu s0_3 7 j1 2 a3) fun s0_4 =>
  zlet (zu s0_4 0 0 5 ((s0_4 0 0 5) + (1 : Int32))) fun s0_5 =>
  some (((s0_5 0 0 5) - (1 : Int32)), s0_5)
set_option maxHeartbeats 4000000 in
set_option maxRecDepth 20000 in
theorem bfSe_addTurbine {X : zX} (F : zFr X cX3_addTurbine 5 RX3 (some .int)) (a1 : Int32) (a2 : Int32) (a3 : Int32)  (s0 : zM) {κ : Int32 × zM → Option zO} (hκ : ∀ a, κ a = some ((fun a => ((.inl ((fun q => some (zi q.1)) a), (fun q => [q.2]) a) : zO)) a)) : zZ X [(0, [])] 0 0 5 0 [some (zr 0 0 0), some (zi a1), some (zi a2), some (zi a3), none] [] [s0] (Option.bind (fSe_addTurbine a1 a2 a3 s0) κ) := by
  unfold fSe_addTurbine
  refine zz_aload_n F (i := 0) dX3_addTurbine_0 rfl rfl ?_
  refine zz_getr F dX3_addTurbine_1 wfRX3_11 zCl_3 rfl (⟨zlb rfl, zlb rfl, zlb rfl⟩) rfl (by decide) rfl (r' := 0) (by decide) ?_
  refine zz_aload_n F (i := 0) dX3_addTurbine_4 rfl rfl ?_
  refine zz_getf F dX3_addTurbine_5 wfRX3_56 zCl_3 rfl (⟨zlb rfl, zlb rfl, zlb rfl⟩) rfl (by decide) rfl rfl ?_
  refine zz_ix fun j1 hj1 hinj1 hej1 => zz_aal F dX3_addTurbine_8 rfl (⟨zlb rfl, zlb rfl, zlb rfl⟩) rfl (by decide) rfl hinj1 hej1 rfl ?_
  refine zz_astore F (i := 4) (L' := [some (zr 0 0 0), some (zi a1), some (zi a2), some (zi a3), some (zr 0 7 j1)]) dX3_addTurbine_9 (by decide) rfl rfl ?_
  refine zz_aload F (i := 4) dX3_addTurbine_11 rfl ?_
  refine zz_iload_n F (i := 1) dX3_addTurbine_13 rfl rfl ?_
  refine zz_put F (Ms' := [(zu s0 7 j1 0 a1)]) dX3_addTurbine_14 wpRX3_59 zCl_5 rfl (⟨zlb rfl, zlb rfl, hj1⟩) rfl (by decide) rfl rfl rfl ?_
  refine zz_letm (Mf := fun s0_2 => [s0_2]) fun s0_2 => ?_
  refine zz_aload F (i := 4) dX3_addTurbine_17 rfl ?_
  refine zz_iload_n F (i := 2) dX3_addTurbine_19 rfl rfl ?_
  refine zz_put F (Ms' := [(zu s0_2 7 j1 1 a2)]) dX3_addTurbine_20 wpRX3_62 zCl_5 rfl (⟨zlb rfl, zlb rfl, hj1⟩) rfl (by decide) rfl rfl rfl ?_
  refine zz_letm (Mf := fun s0_3 => [s0_3]) fun s0_3 => ?_
  refine zz_aload F (i := 4) dX3_addTurbine_23 rfl ?_
  refine zz_iload_n F (i := 3) dX3_addTurbine_25 rfl rfl ?_
  refine zz_put F (Ms' := [(zu s0_3 7 j1 2 a3)]) dX3_addTurbine_26 wpRX3_65 zCl_5 rfl (⟨zlb rfl, zlb rfl, hj1⟩) rfl (by decide) rfl rfl rfl ?_
  refine zz_letm (Mf := fun s0_4 => [s0_4]) fun s0_4 => ?_
  refine zz_aload_n F (i := 0) dX3_addTurbine_29 rfl rfl ?_
  refine zz_dup F dX3_addTurbine_30 rfl ?_
  refine zz_getf F dX3_addTurbine_31 wfRX3_56 zCl_3 rfl (⟨zlb rfl, zlb rfl, zlb rfl⟩) rfl (by decide) rfl rfl ?_
  refine zz_iconst F (v := (1 : Int32)) dX3_addTurbine_34 (by decide) ?_
  refine zz_iadd F dX3_addTurbine_35 ?_
  refine zz_put F (Ms' := [(zu s0_4 0 0 5 ((s0_4 0 0 5) + (1 : Int32)))]) dX3_addTurbine_36 wpRX3_56 zCl_3 rfl (⟨zlb rfl, zlb rfl, zlb rfl⟩) rfl (by decide) rfl rfl rfl ?_
  refine zz_letm (Mf := fun s0_5 => [s0_5]) fun s0_5 => ?_
  refine zz_aload_n F (i := 0) dX3_addTurbine_39 rfl rfl ?_
  refine zz_getf F dX3_addTurbine_40 wfRX3_56 zCl_3 rfl (⟨zlb rfl, zlb rfl, zlb rfl⟩) rfl (by decide) rfl rfl ?_
  refine zz_iconst F (v := (1 : Int32)) dX3_addTurbine_43 (by decide) ?_
  refine zz_isub F dX3_addTurbine_44 ?_
  exact zz_ireturn F dX3_addTurbine_45 rfl (hκ _)
theorem zfSe_addTurbine (a1 : Int32) (a2 : Int32) (a3 : Int32)  (s0 : zM) : ∀ a, fSe_addTurbine a1 a2 a3 s0 = some a → zMet yX3_addTurbine cX3_addTurbine 5 (some .int) 0 0 [(0, [])] [zr 0 0 0, zi a1, zi a2, zi a3] [s0] ((fun a => ((.inl ((fun q => some (zi q.1)) a), (fun q => [q.2]) a) : zO)) a) := fun a ha => zMet_of (L0 := [some (zr 0 0 0), some (zi a1), some (zi a2), some (zi a3), none]) (φ := Option.bind (fSe_addTurbine a1 a2 a3 s0) (fun a => some ((fun a => ((.inl ((fun q => some (zi q.1)) a), (fun q => [q.2]) a) : zO)) a))) (by decide) (fun _ => Nat.le_of_ble_eq_true rfl) (zl0 1 rfl) (fun X F => bfSe_addTurbine F a1 a2 a3 s0 (fun _ => rfl)) (by rw [ha]; rfl)

theorem dX9_turbine_0 : decode cX9_turbine 0 = .ok (.aload_n 0, 1) := by decide +kernel
theorem dX9_turbine_1 : decode cX9_turbine 1 = .ok (.iload_n 3, 1) := by decide +kernel
theorem dX9_turbine_2 : decode cX9_turbine 2 = .ok (.invokevirtual 50, 3) := by decide +kernel
theorem dX9_turbine_5 : decode cX9_turbine 5 = .ok (.iload_n 1, 1) := by decide +kernel
theorem dX9_turbine_6 : decode cX9_turbine 6 = .ok (.iconst 0, 1) := by decide +kernel
theorem dX9_turbine_7 : decode cX9_turbine 7 = .ok (.bipush 19, 2) := by decide +kernel
theorem dX9_turbine_9 : decode cX9_turbine 9 = .ok (.invokestatic 26, 3) := by decide +kernel
theorem dX9_turbine_12 : decode cX9_turbine 12 = .ok (.ifCond .ne 13, 3) := by decide +kernel
theorem dX9_turbine_15 : decode cX9_turbine 15 = .ok (.iload_n 2, 1) := by decide +kernel
theorem dX9_turbine_16 : decode cX9_turbine 16 = .ok (.iconst 0, 1) := by decide +kernel
theorem dX9_turbine_17 : decode cX9_turbine 17 = .ok (.bipush 19, 2) := by decide +kernel
theorem dX9_turbine_19 : decode cX9_turbine 19 = .ok (.invokestatic 26, 3) := by decide +kernel
theorem dX9_turbine_22 : decode cX9_turbine 22 = .ok (.ifCond .eq 13, 3) := by decide +kernel
theorem dX9_turbine_25 : decode cX9_turbine 25 = .ok (.new 30, 3) := by decide +kernel
theorem dX9_turbine_28 : decode cX9_turbine 28 = .ok (.dup, 1) := by decide +kernel
theorem dX9_turbine_29 : decode cX9_turbine 29 = .ok (.ldc 54, 2) := by decide +kernel
theorem dX9_turbine_31 : decode cX9_turbine 31 = .ok (.invokespecial 34, 3) := by decide +kernel
theorem dX9_turbine_34 : decode cX9_turbine 34 = .ok (.athrow, 1) := by decide +kernel
theorem dX9_turbine_35 : decode cX9_turbine 35 = .ok (.aload_n 0, 1) := by decide +kernel
theorem dX9_turbine_36 : decode cX9_turbine 36 = .ok (.getfield 10, 3) := by decide +kernel
theorem dX9_turbine_39 : decode cX9_turbine 39 = .ok (.getfield 56, 3) := by decide +kernel
theorem dX9_turbine_42 : decode cX9_turbine 42 = .ok (.bipush 8, 2) := by decide +kernel
theorem dX9_turbine_44 : decode cX9_turbine 44 = .ok (.if_icmp .ge 15, 3) := by decide +kernel
theorem dX9_turbine_47 : decode cX9_turbine 47 = .ok (.aload_n 0, 1) := by decide +kernel
theorem dX9_turbine_48 : decode cX9_turbine 48 = .ok (.getfield 10, 3) := by decide +kernel
theorem dX9_turbine_51 : decode cX9_turbine 51 = .ok (.iload_n 1, 1) := by decide +kernel
theorem dX9_turbine_52 : decode cX9_turbine 52 = .ok (.iload_n 2, 1) := by decide +kernel
theorem dX9_turbine_53 : decode cX9_turbine 53 = .ok (.invokevirtual 59, 3) := by decide +kernel
theorem dX9_turbine_56 : decode cX9_turbine 56 = .ok (.ifCond .eq 13, 3) := by decide +kernel
theorem dX9_turbine_59 : decode cX9_turbine 59 = .ok (.new 41, 3) := by decide +kernel
theorem dX9_turbine_62 : decode cX9_turbine 62 = .ok (.dup, 1) := by decide +kernel
theorem dX9_turbine_63 : decode cX9_turbine 63 = .ok (.ldc 63, 2) := by decide +kernel
theorem dX9_turbine_65 : decode cX9_turbine 65 = .ok (.invokespecial 45, 3) := by decide +kernel
theorem dX9_turbine_68 : decode cX9_turbine 68 = .ok (.athrow, 1) := by decide +kernel
theorem dX9_turbine_69 : decode cX9_turbine 69 = .ok (.aload_n 0, 1) := by decide +kernel
theorem dX9_turbine_70 : decode cX9_turbine 70 = .ok (.getfield 10, 3) := by decide +kernel
theorem dX9_turbine_73 : decode cX9_turbine 73 = .ok (.iload_n 1, 1) := by decide +kernel
theorem dX9_turbine_74 : decode cX9_turbine 74 = .ok (.iload_n 2, 1) := by decide +kernel
theorem dX9_turbine_75 : decode cX9_turbine 75 = .ok (.iload_n 3, 1) := by decide +kernel
theorem dX9_turbine_76 : decode cX9_turbine 76 = .ok (.invokevirtual 65, 3) := by decide +kernel
theorem dX9_turbine_79 : decode cX9_turbine 79 = .ok (.ireturn, 1) := by decide +kernel
theorem wcRX9_50 : Cond.methodLink RX9 50 yX9_checkString ∈ zTg ∧ Cond.instanceMethod yX9_checkString ∈ zTg ∧ Cond.selects RX9 yX9_checkString yX9_checkString ∈ zTg ∧ Cond.initialized RX9 ∈ zTg ∧ Cond.code yX9_checkString cX9_checkString 2 none ∈ zTg := ⟨zm_f 407 (by decide +kernel) rfl, zm_f 409 (by decide +kernel) rfl, zm_f 15 (by decide +kernel) rfl, zm_f 21 (by decide +kernel) rfl, zm_f 410 (by decide +kernel) rfl⟩
theorem wy_yX9_checkString : yX9_checkString.cls = RX9 ∧ yX9_checkString.cls ≠ "java/lang/invoke/MethodHandle" ∧ yX9_checkString.cls ≠ "java/lang/invoke/VarHandle" ∧ (parseMethodDescriptor yX9_checkString.desc).map (fun d => d.parameters.length) = some 1 := by decide +kernel
theorem rel2 : zRel [0, 1, 2, 3] [(2, [1, 2, 3]), (0, []), (0, []), (1, [])] [(2, [1, 2, 3]), (0, []), (0, []), (1, [])] := by unfold zRel; decide
theorem wsRX9_54 : (RX9, 54, "x and y are 0 to 19") ∈ zstr := by decide +kernel
theorem wfRX9_56 : zFl RX9 56 3 5 := ⟨_, rfl, by decide, zm_f 657 (by decide +kernel) rfl⟩
theorem wsRX9_63 : (RX9, 63, "there are 8 TURBINES, or one is there") ∈ zstr := by decide +kernel
theorem wcRX9_59 : Cond.methodLink RX9 59 yX3_isTaken ∈ zTg ∧ Cond.instanceMethod yX3_isTaken ∈ zTg ∧ Cond.selects RX3 yX3_isTaken yX3_isTaken ∈ zTg ∧ Cond.initialized RX3 ∈ zTg ∧ Cond.code yX3_isTaken cX3_isTaken 4 (some .boolean) ∈ zTg := ⟨zm_f 827 (by decide +kernel) rfl, zm_f 828 (by decide +kernel) rfl, zm_f 829 (by decide +kernel) rfl, zm_f 22 (by decide +kernel) rfl, zm_f 830 (by decide +kernel) rfl⟩
theorem wy_yX3_isTaken : yX3_isTaken.cls = RX3 ∧ yX3_isTaken.cls ≠ "java/lang/invoke/MethodHandle" ∧ yX3_isTaken.cls ≠ "java/lang/invoke/VarHandle" ∧ (parseMethodDescriptor yX3_isTaken.desc).map (fun d => d.parameters.length) = some 2 := by decide +kernel
theorem wcRX9_65 : Cond.methodLink RX9 65 yX3_addTurbine ∈ zTg ∧ Cond.instanceMethod yX3_addTurbine ∈ zTg ∧ Cond.selects RX3 yX3_addTurbine yX3_addTurbine ∈ zTg ∧ Cond.initialized RX3 ∈ zTg ∧ Cond.code yX3_addTurbine cX3_addTurbine 5 (some .int) ∈ zTg := ⟨zm_f 832 (by decide +kernel) rfl, zm_f 833 (by decide +kernel) rfl, zm_f 834 (by decide +kernel) rfl, zm_f 22 (by decide +kernel) rfl, zm_f 835 (by decide +kernel) rfl⟩
theorem wy_yX3_addTurbine : yX3_addTurbine.cls = RX3 ∧ yX3_addTurbine.cls ≠ "java/lang/invoke/MethodHandle" ∧ yX3_addTurbine.cls ≠ "java/lang/invoke/VarHandle" ∧ (parseMethodDescriptor yX3_addTurbine.desc).map (fun d => d.parameters.length) = some 3 := by decide +kernel
def fWB_turbine (a1 : Int32) (a2 : Int32) (a3 : Int32) (s0 : zM) (s1 : zM) (s2 : zM) (s3 : zM) : Option ((Int32 × zM) ⊕ (String × zM)) :=
  Option.bind (fWB_checkString a3 s0 s1 s2 s3) (Sum.elim (fun (_ : Unit) =>
  Option.bind (fWB_outside a1 (0 : Int32) (19 : Int32)) fun q2 =>
  if q2 = 0 then
  Option.bind (fWB_outside a2 (0 : Int32) (19 : Int32)) fun q3 =>
    if q3 = 0 then
    if (8 : Int32) ≤ (s1 0 0 5) then
      some (.inr ("java/lang/IllegalStateException", s1))
    else
      Option.bind (fSe_isTaken a1 a2 s1) fun q4 =>
        if q4 = 0 then
        Option.bind (fSe_addTurbine a1 a2 a3 s1) fun q5 =>
          some (.inl (q5.1, q5.2))
      else
        some (.inr ("java/lang/IllegalStateException", s1))
  else
    some (.inr ("java/lang/IllegalArgumentException", s1))
else
  some (.inr ("java/lang/IllegalArgumentException", s1))) (fun b => some (.inr (b, s1))))
set_option maxHeartbeats 4000000 in
set_option maxRecDepth 20000 in
theorem bfWB_turbine {X : zX} (F : zFr X cX9_turbine 4 RX9 (some .int)) (a1 : Int32) (a2 : Int32) (a3 : Int32)  (s0 : zM) (s1 : zM) (s2 : zM) (s3 : zM) {κ : (Int32 × zM) ⊕ (String × zM) → Option zO} (hκ : ∀ a, κ a = some ((zts (fun q => some (zi q.1)) (fun q => [s0, q.2, s2, s3]) (fun b => b.1) (fun b => [s0, b.2, s2, s3])) a)) : zZ X [(2, [1, 2, 3]), (0, []), (0, []), (1, [])] 7 111 4 0 [some (zr 0 0 0), some (zi a1), some (zi a2), some (zi a3)] [] [s0, s1, s2, s3] (Option.bind (fWB_turbine a1 a2 a3 s0 s1 s2 s3) κ) := by
  unfold fWB_turbine
  refine zz_aload_n F (i := 0) dX9_turbine_0 rfl rfl ?_
  refine zz_iload_n F (i := 3) dX9_turbine_1 rfl rfl ?_
  refine zz_bind ?_
  refine zz_callVx F (ρ := [0, 1, 2, 3]) (so := fun _ => []) (Mo := fun _ => [s0, s1, s2, s3]) (Xo := fun _ => [s0, s1, s2, s3]) (zfWB_checkString a3 s0 s1 s2 s3) dX9_turbine_2 wcRX9_50 wy_yX9_checkString rfl ⟨rel2, rfl, rfl, Nat.le_of_ble_eq_true rfl, Nat.le_of_ble_eq_true rfl, Nat.le_of_ble_eq_true rfl⟩ (⟨zlb rfl, zlb rfl, zlb rfl⟩) rfl rfl rfl (fun _ => rfl) (fun _ => rfl) (fun _ => rfl) (fun _ => (hκ _)) fun _ => ?_
  dsimp only [Sum.elim_inl]
  refine zz_iload_n F (i := 1) dX9_turbine_5 rfl rfl ?_
  refine zz_iconst F (v := (0 : Int32)) dX9_turbine_6 (by decide) ?_
  refine zz_bipush F (v := (19 : Int32)) dX9_turbine_7 (by decide) ?_
  refine zz_bind ?_
  refine zz_callSr F (ρ := []) (so := fun q2 => [zi q2]) (Mo := fun q2 => [s0, s1, s2, s3]) (zfWB_outside a1 (0 : Int32) (19 : Int32)) dX9_turbine_9 wcRX9_26 wy_yX9_outside rfl ⟨rel0, rfl, rfl, Nat.le_of_ble_eq_true rfl, Nat.le_of_ble_eq_true rfl, Nat.le_of_ble_eq_true rfl⟩ rfl (fun _ => rfl) (fun _ => rfl) fun q2 => ?_
  refine zz_if_ne F (tgt := 25) dX9_turbine_12 (by decide) (fun h => zz_f h ?_) (fun h => zz_t h ?_)
  · exact zz_throw F (cls := "java/lang/IllegalArgumentException") dX9_turbine_25 dX9_turbine_28 dX9_turbine_29 dX9_turbine_31 dX9_turbine_34 (by decide) wtRX9_30_34k wsRX9_54 wtRX9_30_34g wtRX9_30_34n wtRX9_30_34o (Nat.le_of_ble_eq_true rfl) (Nat.le_of_ble_eq_true rfl) (hκ _)
  · refine zz_iload_n F (i := 2) dX9_turbine_15 rfl rfl ?_
    refine zz_iconst F (v := (0 : Int32)) dX9_turbine_16 (by decide) ?_
    refine zz_bipush F (v := (19 : Int32)) dX9_turbine_17 (by decide) ?_
    refine zz_bind ?_
    refine zz_callSr F (ρ := []) (so := fun q3 => [zi q3]) (Mo := fun q3 => [s0, s1, s2, s3]) (zfWB_outside a2 (0 : Int32) (19 : Int32)) dX9_turbine_19 wcRX9_26 wy_yX9_outside rfl ⟨rel0, rfl, rfl, Nat.le_of_ble_eq_true rfl, Nat.le_of_ble_eq_true rfl, Nat.le_of_ble_eq_true rfl⟩ rfl (fun _ => rfl) (fun _ => rfl) fun q3 => ?_
    refine zz_if_eq F (tgt := 35) dX9_turbine_22 (by decide) (fun h => zz_t h ?_) (fun h => zz_f h ?_)
    · refine zz_aload_n F (i := 0) dX9_turbine_35 rfl rfl ?_
      refine zz_getr F dX9_turbine_36 wfRX9_10 zCl_8 rfl (⟨zlb rfl, zlb rfl, zlb rfl⟩) rfl (by decide) rfl (r' := 1) (by decide) ?_
      refine zz_getf F dX9_turbine_39 wfRX9_56 zCl_3 rfl (⟨zlb rfl, zlb rfl, zlb rfl⟩) rfl (by decide) rfl rfl ?_
      refine zz_bipush F (v := (8 : Int32)) dX9_turbine_42 (by decide) ?_
      refine zz_icmp_ge F (tgt := 59) dX9_turbine_44 (by decide) (fun h => zz_t h ?_) (fun h => zz_f h ?_)
      · exact zz_throw F (cls := "java/lang/IllegalStateException") dX9_turbine_59 dX9_turbine_62 dX9_turbine_63 dX9_turbine_65 dX9_turbine_68 (by decide) wtRX9_41_45k wsRX9_63 wtRX9_41_45g wtRX9_41_45n wtRX9_41_45o (Nat.le_of_ble_eq_true rfl) (Nat.le_of_ble_eq_true rfl) (hκ _)
      · refine zz_aload_n F (i := 0) dX9_turbine_47 rfl rfl ?_
        refine zz_getr F dX9_turbine_48 wfRX9_10 zCl_8 rfl (⟨zlb rfl, zlb rfl, zlb rfl⟩) rfl (by decide) rfl (r' := 1) (by decide) ?_
        refine zz_iload_n F (i := 1) dX9_turbine_51 rfl rfl ?_
        refine zz_iload_n F (i := 2) dX9_turbine_52 rfl rfl ?_
        refine zz_bind ?_
        refine zz_callVr F (ρ := [1]) (so := fun q4 => [zi q4]) (Mo := fun q4 => [s0, s1, s2, s3]) (zfSe_isTaken a1 a2 s1) dX9_turbine_53 wcRX9_59 wy_yX3_isTaken rfl ⟨rel1, rfl, rfl, Nat.le_of_ble_eq_true rfl, Nat.le_of_ble_eq_true rfl, Nat.le_of_ble_eq_true rfl⟩ (⟨zlb rfl, zlb rfl, zlb rfl⟩) rfl rfl rfl (fun _ => rfl) (fun _ => rfl) fun q4 => ?_
        refine zz_if_eq F (tgt := 69) dX9_turbine_56 (by decide) (fun h => zz_t h ?_) (fun h => zz_f h ?_)
        · refine zz_aload_n F (i := 0) dX9_turbine_69 rfl rfl ?_
          refine zz_getr F dX9_turbine_70 wfRX9_10 zCl_8 rfl (⟨zlb rfl, zlb rfl, zlb rfl⟩) rfl (by decide) rfl (r' := 1) (by decide) ?_
          refine zz_iload_n F (i := 1) dX9_turbine_73 rfl rfl ?_
          refine zz_iload_n F (i := 2) dX9_turbine_74 rfl rfl ?_
          refine zz_iload_n F (i := 3) dX9_turbine_75 rfl rfl ?_
          refine zz_bind ?_
          refine zz_callVr F (ρ := [1]) (so := fun q5 => [zi q5.1]) (Mo := fun q5 => [s0, q5.2, s2, s3]) (zfSe_addTurbine a1 a2 a3 s1) dX9_turbine_76 wcRX9_65 wy_yX3_addTurbine rfl ⟨rel1, rfl, rfl, Nat.le_of_ble_eq_true rfl, Nat.le_of_ble_eq_true rfl, Nat.le_of_ble_eq_true rfl⟩ (⟨zlb rfl, zlb rfl, zlb rfl⟩) rfl rfl rfl (fun _ => rfl) (fun _ => rfl) fun q5 => ?_
          exact zz_ireturn F dX9_turbine_79 rfl (hκ _)
        · exact zz_throw F (cls := "java/lang/IllegalStateException") dX9_turbine_59 dX9_turbine_62 dX9_turbine_63 dX9_turbine_65 dX9_turbine_68 (by decide) wtRX9_41_45k wsRX9_63 wtRX9_41_45g wtRX9_41_45n wtRX9_41_45o (Nat.le_of_ble_eq_true rfl) (Nat.le_of_ble_eq_true rfl) (hκ _)
    · exact zz_throw F (cls := "java/lang/IllegalArgumentException") dX9_turbine_25 dX9_turbine_28 dX9_turbine_29 dX9_turbine_31 dX9_turbine_34 (by decide) wtRX9_30_34k wsRX9_54 wtRX9_30_34g wtRX9_30_34n wtRX9_30_34o (Nat.le_of_ble_eq_true rfl) (Nat.le_of_ble_eq_true rfl) (hκ _)
theorem zfWB_turbine (a1 : Int32) (a2 : Int32) (a3 : Int32)  (s0 : zM) (s1 : zM) (s2 : zM) (s3 : zM) : ∀ a, fWB_turbine a1 a2 a3 s0 s1 s2 s3 = some a → zMet yX9_turbine cX9_turbine 4 (some .int) 7 111 [(2, [1, 2, 3]), (0, []), (0, []), (1, [])] [zr 0 0 0, zi a1, zi a2, zi a3] [s0, s1, s2, s3] ((zts (fun q => some (zi q.1)) (fun q => [s0, q.2, s2, s3]) (fun b => b.1) (fun b => [s0, b.2, s2, s3])) a) := fun a ha => zMet_of (L0 := [some (zr 0 0 0), some (zi a1), some (zi a2), some (zi a3)]) (φ := Option.bind (fWB_turbine a1 a2 a3 s0 s1 s2 s3) (fun a => some ((zts (fun q => some (zi q.1)) (fun q => [s0, q.2, s2, s3]) (fun b => b.1) (fun b => [s0, b.2, s2, s3])) a))) (by decide) (fun _ => Nat.le_of_ble_eq_true rfl) (zl0 0 rfl) (fun X F => bfWB_turbine F a1 a2 a3 s0 s1 s2 s3 (fun _ => rfl)) (by rw [ha]; rfl)

theorem dX8_set_0 : decode cX8_set 0 = .ok (.aload_n 0, 1) := by decide +kernel
theorem dX8_set_1 : decode cX8_set 1 = .ok (.iload_n 1, 1) := by decide +kernel
theorem dX8_set_2 : decode cX8_set 2 = .ok (.putfield 15, 3) := by decide +kernel
theorem dX8_set_5 : decode cX8_set 5 = .ok (.aload_n 0, 1) := by decide +kernel
theorem dX8_set_6 : decode cX8_set 6 = .ok (.iload_n 2, 1) := by decide +kernel
theorem dX8_set_7 : decode cX8_set 7 = .ok (.putfield 18, 3) := by decide +kernel
theorem dX8_set_10 : decode cX8_set 10 = .ok (.aload_n 0, 1) := by decide +kernel
theorem dX8_set_11 : decode cX8_set 11 = .ok (.iload_n 3, 1) := by decide +kernel
theorem dX8_set_12 : decode cX8_set 12 = .ok (.putfield 21, 3) := by decide +kernel
theorem dX8_set_15 : decode cX8_set 15 = .ok (.aload_n 0, 1) := by decide +kernel
theorem dX8_set_16 : decode cX8_set 16 = .ok (.iload 4, 2) := by decide +kernel
theorem dX8_set_18 : decode cX8_set 18 = .ok (.putfield 24, 3) := by decide +kernel
theorem dX8_set_21 : decode cX8_set 21 = .ok (.aload_n 0, 1) := by decide +kernel
theorem dX8_set_22 : decode cX8_set 22 = .ok (.iload 5, 2) := by decide +kernel
theorem dX8_set_24 : decode cX8_set 24 = .ok (.putfield 9, 3) := by decide +kernel
theorem dX8_set_27 : decode cX8_set 27 = .ok (.return_, 1) := by decide +kernel
theorem wpRX8_15 : zFw RX8 15 7 0 .int := ⟨_, rfl, by decide, zm_f 453 (by decide +kernel) rfl, rfl, by decide +kernel⟩
theorem wpRX8_18 : zFw RX8 18 7 1 .int := ⟨_, rfl, by decide, zm_f 455 (by decide +kernel) rfl, rfl, by decide +kernel⟩
theorem wpRX8_21 : zFw RX8 21 7 2 .int := ⟨_, rfl, by decide, zm_f 458 (by decide +kernel) rfl, rfl, by decide +kernel⟩
theorem wpRX8_24 : zFw RX8 24 7 3 .int := ⟨_, rfl, by decide, zm_f 460 (by decide +kernel) rfl, rfl, by decide +kernel⟩
theorem wpRX8_9 : zFw RX8 9 7 4 .int := ⟨_, rfl, by decide, zm_f 463 (by decide +kernel) rfl, rfl, by decide +kernel⟩
def fWe_set (a1 : Int32) (a2 : Int32) (a3 : Int32) (a4 : Int32) (a5 : Int32) (s0 : zM) : Option (zM) :=
  zlet (zu s0 4 0 0 a1) fun s0_1 =>
  zlet (zu s0_1 4 0 1 a2) fun s0_2 =>
  zlet (zu s0_2 4 0 2 a3) fun s0_3 =>
  zlet (zu s0_3 4 0 3 a4) fun s0_4 =>
  zlet (zu s0_4 4 0 4 a5) fun s0_5 =>
  some s0_5
set_option maxHeartbeats 4000000 in
set_option maxRecDepth 20000 in
theorem bfWe_set {X : zX} (F : zFr X cX8_set 6 RX8 none) (a1 : Int32) (a2 : Int32) (a3 : Int32) (a4 : Int32) (a5 : Int32)  (s0 : zM) {κ : zM → Option zO} (hκ : ∀ a, κ a = some ((fun a => ((.inl ((fun _ => (none : Option zV)) a), (fun q => [q]) a) : zO)) a)) : zZ X [(0, [])] 0 0 6 0 [some (zr 0 4 0), some (zi a1), some (zi a2), some (zi a3), some (zi a4), some (zi a5)] [] [s0] (Option.bind (fWe_set a1 a2 a3 a4 a5 s0) κ) := by
  unfold fWe_set
  refine zz_aload_n F (i := 0) dX8_set_0 rfl rfl ?_
  refine zz_iload_n F (i := 1) dX8_set_1 rfl rfl ?_
  refine zz_put F (Ms' := [(zu s0 4 0 0 a1)]) dX8_set_2 wpRX8_15 zCl_7 rfl (⟨zlb rfl, zlb rfl, zlb rfl⟩) rfl (by decide) rfl rfl rfl ?_
  refine zz_letm (Mf := fun s0_1 => [s0_1]) fun s0_1 => ?_
  refine zz_aload_n F (i := 0) dX8_set_5 rfl rfl ?_
  refine zz_iload_n F (i := 2) dX8_set_6 rfl rfl ?_
  refine zz_put F (Ms' := [(zu s0_1 4 0 1 a2)]) dX8_set_7 wpRX8_18 zCl_7 rfl (⟨zlb rfl, zlb rfl, zlb rfl⟩) rfl (by decide) rfl rfl rfl ?_
  refine zz_letm (Mf := fun s0_2 => [s0_2]) fun s0_2 => ?_
  refine zz_aload_n F (i := 0) dX8_set_10 rfl rfl ?_
  refine zz_iload_n F (i := 3) dX8_set_11 rfl rfl ?_
  refine zz_put F (Ms' := [(zu s0_2 4 0 2 a3)]) dX8_set_12 wpRX8_21 zCl_7 rfl (⟨zlb rfl, zlb rfl, zlb rfl⟩) rfl (by decide) rfl rfl rfl ?_
  refine zz_letm (Mf := fun s0_3 => [s0_3]) fun s0_3 => ?_
  refine zz_aload_n F (i := 0) dX8_set_15 rfl rfl ?_
  refine zz_iload F (i := 4) dX8_set_16 rfl ?_
  refine zz_put F (Ms' := [(zu s0_3 4 0 3 a4)]) dX8_set_18 wpRX8_24 zCl_7 rfl (⟨zlb rfl, zlb rfl, zlb rfl⟩) rfl (by decide) rfl rfl rfl ?_
  refine zz_letm (Mf := fun s0_4 => [s0_4]) fun s0_4 => ?_
  refine zz_aload_n F (i := 0) dX8_set_21 rfl rfl ?_
  refine zz_iload F (i := 5) dX8_set_22 rfl ?_
  refine zz_put F (Ms' := [(zu s0_4 4 0 4 a5)]) dX8_set_24 wpRX8_9 zCl_7 rfl (⟨zlb rfl, zlb rfl, zlb rfl⟩) rfl (by decide) rfl rfl rfl ?_
  refine zz_letm (Mf := fun s0_5 => [s0_5]) fun s0_5 => ?_
  exact zz_return F dX8_set_27 rfl (hκ _)
theorem zfWe_set (a1 : Int32) (a2 : Int32) (a3 : Int32) (a4 : Int32) (a5 : Int32)  (s0 : zM) : ∀ a, fWe_set a1 a2 a3 a4 a5 s0 = some a → zMet yX8_set cX8_set 6 none 0 0 [(0, [])] [zr 0 4 0, zi a1, zi a2, zi a3, zi a4, zi a5] [s0] ((fun a => ((.inl ((fun _ => (none : Option zV)) a), (fun q => [q]) a) : zO)) a) := fun a ha => zMet_of (L0 := [some (zr 0 4 0), some (zi a1), some (zi a2), some (zi a3), some (zi a4), some (zi a5)]) (φ := Option.bind (fWe_set a1 a2 a3 a4 a5 s0) (fun a => some ((fun a => ((.inl ((fun _ => (none : Option zV)) a), (fun q => [q]) a) : zO)) a))) (by decide) (fun _ => Nat.le_of_ble_eq_true rfl) (zl0 0 rfl) (fun X F => bfWe_set F a1 a2 a3 a4 a5 s0 (fun _ => rfl)) (by rw [ha]; rfl)

theorem dX5_become_0 : decode cX5_become 0 = .ok (.aload_n 0, 1) := by decide +kernel
theorem dX5_become_1 : decode cX5_become 1 = .ok (.iload_n 1, 1) := by decide +kernel
theorem dX5_become_2 : decode cX5_become 2 = .ok (.putfield 9, 3) := by decide +kernel
theorem dX5_become_5 : decode cX5_become 5 = .ok (.aload_n 0, 1) := by decide +kernel
theorem dX5_become_6 : decode cX5_become 6 = .ok (.iconst 0, 1) := by decide +kernel
theorem dX5_become_7 : decode cX5_become 7 = .ok (.putfield 15, 3) := by decide +kernel
theorem dX5_become_10 : decode cX5_become 10 = .ok (.aload_n 0, 1) := by decide +kernel
theorem dX5_become_11 : decode cX5_become 11 = .ok (.iconst (-1), 1) := by decide +kernel
theorem dX5_become_12 : decode cX5_become 12 = .ok (.putfield 18, 3) := by decide +kernel
theorem dX5_become_15 : decode cX5_become 15 = .ok (.aload_n 0, 1) := by decide +kernel
theorem dX5_become_16 : decode cX5_become 16 = .ok (.iconst (-1), 1) := by decide +kernel
theorem dX5_become_17 : decode cX5_become 17 = .ok (.putfield 21, 3) := by decide +kernel
theorem dX5_become_20 : decode cX5_become 20 = .ok (.return_, 1) := by decide +kernel
theorem wpRX5_9 : zFw RX5 9 5 3 .int := ⟨_, rfl, by decide, zm_f 536 (by decide +kernel) rfl, rfl, by decide +kernel⟩
theorem wpRX5_15 : zFw RX5 15 5 4 .int := ⟨_, rfl, by decide, zm_f 539 (by decide +kernel) rfl, rfl, by decide +kernel⟩
theorem wpRX5_18 : zFw RX5 18 5 5 .int := ⟨_, rfl, by decide, zm_f 541 (by decide +kernel) rfl, rfl, by decide +kernel⟩
theorem wpRX5_21 : zFw RX5 21 5 6 .int := ⟨_, rfl, by decide, zm_f 543 (by decide +kernel) rfl, rfl, by decide +kernel⟩
def fTu_become (i : Nat) (a1 : Int32) (s0 : zM) : Option (zM) :=
  zlet (zu s0 7 i 3 a1) fun s0_1 =>
  zlet (zu s0_1 7 i 4 (0 : Int32)) fun s0_2 =>
  zlet (zu s0_2 7 i 5 (-1 : Int32)) fun s0_3 =>
  zlet (zu s0_3 7 i 6 (-1 : Int32)) fun s0_4 =>
  some s0_4
set_option maxHeartbeats 4000000 in
set_option maxRecDepth 20000 in
theorem bfTu_become {X : zX} (F : zFr X cX5_become 2 RX5 none) (i : Nat) (a1 : Int32) (hi : i < 8) (s0 : zM) {κ : zM → Option zO} (hκ : ∀ a, κ a = some ((fun a => ((.inl ((fun _ => (none : Option zV)) a), (fun q => [q]) a) : zO)) a)) : zZ X [(0, [])] 0 0 2 0 [some (zr 0 7 i), some (zi a1)] [] [s0] (Option.bind (fTu_become i a1 s0) κ) := by
  unfold fTu_become
  refine zz_aload_n F (i := 0) dX5_become_0 rfl rfl ?_
  refine zz_iload_n F (i := 1) dX5_become_1 rfl rfl ?_
  refine zz_put F (Ms' := [(zu s0 7 i 3 a1)]) dX5_become_2 wpRX5_9 zCl_5 rfl (⟨zlb rfl, zlb rfl, hi⟩) rfl (by decide) rfl rfl rfl ?_
  refine zz_letm (Mf := fun s0_1 => [s0_1]) fun s0_1 => ?_
  refine zz_aload_n F (i := 0) dX5_become_5 rfl rfl ?_
  refine zz_iconst F (v := (0 : Int32)) dX5_become_6 (by decide) ?_
  refine zz_put F (Ms' := [(zu s0_1 7 i 4 (0 : Int32))]) dX5_become_7 wpRX5_15 zCl_5 rfl (⟨zlb rfl, zlb rfl, hi⟩) rfl (by decide) rfl rfl rfl ?_
  refine zz_letm (Mf := fun s0_2 => [s0_2]) fun s0_2 => ?_
  refine zz_aload_n F (i := 0) dX5_become_10 rfl rfl ?_
  refine zz_iconst F (v := (-1 : Int32)) dX5_become_11 (by decide) ?_
  refine zz_put F (Ms' := [(zu s0_2 7 i 5 (-1 : Int32))]) dX5_become_12 wpRX5_18 zCl_5 rfl (⟨zlb rfl, zlb rfl, hi⟩) rfl (by decide) rfl rfl rfl ?_
  refine zz_letm (Mf := fun s0_3 => [s0_3]) fun s0_3 => ?_
  refine zz_aload_n F (i := 0) dX5_become_15 rfl rfl ?_
  refine zz_iconst F (v := (-1 : Int32)) dX5_become_16 (by decide) ?_
  refine zz_put F (Ms' := [(zu s0_3 7 i 6 (-1 : Int32))]) dX5_become_17 wpRX5_21 zCl_5 rfl (⟨zlb rfl, zlb rfl, hi⟩) rfl (by decide) rfl rfl rfl ?_
  refine zz_letm (Mf := fun s0_4 => [s0_4]) fun s0_4 => ?_
  exact zz_return F dX5_become_20 rfl (hκ _)
theorem zfTu_become (i : Nat) (a1 : Int32) (hi : i < 8) (s0 : zM) : ∀ a, fTu_become i a1 s0 = some a → zMet yX5_become cX5_become 2 none 0 0 [(0, [])] [zr 0 7 i, zi a1] [s0] ((fun a => ((.inl ((fun _ => (none : Option zV)) a), (fun q => [q]) a) : zO)) a) := fun a ha => zMet_of (L0 := [some (zr 0 7 i), some (zi a1)]) (φ := Option.bind (fTu_become i a1 s0) (fun a => some ((fun a => ((.inl ((fun _ => (none : Option zV)) a), (fun q => [q]) a) : zO)) a))) (by decide) (fun _ => Nat.le_of_ble_eq_true rfl) (zl0 0 rfl) (fun X F => bfTu_become F i a1 hi s0 (fun _ => rfl)) (by rw [ha]; rfl)

theorem dX5_stop_0 : decode cX5_stop 0 = .ok (.aload_n 0, 1) := by decide +kernel
theorem dX5_stop_1 : decode cX5_stop 1 = .ok (.iconst 0, 1) := by decide +kernel
theorem dX5_stop_2 : decode cX5_stop 2 = .ok (.invokevirtual 69, 3) := by decide +kernel
theorem dX5_stop_5 : decode cX5_stop 5 = .ok (.aload_n 0, 1) := by decide +kernel
theorem dX5_stop_6 : decode cX5_stop 6 = .ok (.iload_n 1, 1) := by decide +kernel
theorem dX5_stop_7 : decode cX5_stop 7 = .ok (.putfield 15, 3) := by decide +kernel
theorem dX5_stop_10 : decode cX5_stop 10 = .ok (.return_, 1) := by decide +kernel
theorem wcRX5_69 : Cond.methodLink RX5 69 yX5_become ∈ zTg ∧ Cond.instanceMethod yX5_become ∈ zTg ∧ Cond.selects RX5 yX5_become yX5_become ∈ zTg ∧ Cond.initialized RX5 ∈ zTg ∧ Cond.code yX5_become cX5_become 2 none ∈ zTg := ⟨zm_f 136 (by decide +kernel) rfl, zm_f 137 (by decide +kernel) rfl, zm_f 138 (by decide +kernel) rfl, zm_f 25 (by decide +kernel) rfl, zm_f 139 (by decide +kernel) rfl⟩
theorem wy_yX5_become : yX5_become.cls = RX5 ∧ yX5_become.cls ≠ "java/lang/invoke/MethodHandle" ∧ yX5_become.cls ≠ "java/lang/invoke/VarHandle" ∧ (parseMethodDescriptor yX5_become.desc).map (fun d => d.parameters.length) = some 1 := by decide +kernel
theorem rel3 : zRel [0] [(0, [])] [(0, [])] := by unfold zRel; decide
def fTu_stop (i : Nat) (a1 : Int32) (s0 : zM) : Option (zM) :=
  Option.bind (fTu_become i (0 : Int32) s0) fun q1 =>
  zlet (zu q1 7 i 4 a1) fun s0_2 =>
  some s0_2
set_option maxHeartbeats 4000000 in
set_option maxRecDepth 20000 in
theorem bfTu_stop {X : zX} (F : zFr X cX5_stop 2 RX5 none) (i : Nat) (a1 : Int32) (hi : i < 8) (s0 : zM) {κ : zM → Option zO} (hκ : ∀ a, κ a = some ((fun a => ((.inl ((fun _ => (none : Option zV)) a), (fun q => [q]) a) : zO)) a)) : zZ X [(0, [])] 1 21 2 0 [some (zr 0 7 i), some (zi a1)] [] [s0] (Option.bind (fTu_stop i a1 s0) κ) := by
  unfold fTu_stop
  refine zz_aload_n F (i := 0) dX5_stop_0 rfl rfl ?_
  refine zz_iconst F (v := (0 : Int32)) dX5_stop_1 (by decide) ?_
  refine zz_bind ?_
  refine zz_callVr F (ρ := [0]) (so := fun q1 => []) (Mo := fun q1 => [q1]) (zfTu_become i (0 : Int32) hi s0) dX5_stop_2 wcRX5_69 wy_yX5_become rfl ⟨rel3, rfl, rfl, Nat.le_of_ble_eq_true rfl, Nat.le_of_ble_eq_true rfl, Nat.le_of_ble_eq_true rfl⟩ (⟨zlb rfl, zlb rfl, hi⟩) rfl rfl rfl (fun _ => rfl) (fun _ => rfl) fun q1 => ?_
  refine zz_aload_n F (i := 0) dX5_stop_5 rfl rfl ?_
  refine zz_iload_n F (i := 1) dX5_stop_6 rfl rfl ?_
  refine zz_put F (Ms' := [(zu q1 7 i 4 a1)]) dX5_stop_7 wpRX5_15 zCl_5 rfl (⟨zlb rfl, zlb rfl, hi⟩) rfl (by decide) rfl rfl rfl ?_
  refine zz_letm (Mf := fun s0_2 => [s0_2]) fun s0_2 => ?_
  exact zz_return F dX5_stop_10 rfl (hκ _)
theorem zfTu_stop (i : Nat) (a1 : Int32) (hi : i < 8) (s0 : zM) : ∀ a, fTu_stop i a1 s0 = some a → zMet yX5_stop cX5_stop 2 none 1 21 [(0, [])] [zr 0 7 i, zi a1] [s0] ((fun a => ((.inl ((fun _ => (none : Option zV)) a), (fun q => [q]) a) : zO)) a) := fun a ha => zMet_of (L0 := [some (zr 0 7 i), some (zi a1)]) (φ := Option.bind (fTu_stop i a1 s0) (fun a => some ((fun a => ((.inl ((fun _ => (none : Option zV)) a), (fun q => [q]) a) : zO)) a))) (by decide) (fun _ => Nat.le_of_ble_eq_true rfl) (zl0 0 rfl) (fun X F => bfTu_stop F i a1 hi s0 (fun _ => rfl)) (by rw [ha]; rfl)

theorem dX5_wornPart_0 : decode cX5_wornPart 0 = .ok (.iconst 0, 1) := by decide +kernel
theorem dX5_wornPart_1 : decode cX5_wornPart 1 = .ok (.istore_n 1, 1) := by decide +kernel
theorem dX5_wornPart_2 : decode cX5_wornPart 2 = .ok (.iload_n 1, 1) := by decide +kernel
theorem dX5_wornPart_3 : decode cX5_wornPart 3 = .ok (.iconst 3, 1) := by decide +kernel
theorem dX5_wornPart_4 : decode cX5_wornPart 4 = .ok (.if_icmp .ge 25, 3) := by decide +kernel
theorem dX5_wornPart_7 : decode cX5_wornPart 7 = .ok (.aload_n 0, 1) := by decide +kernel
theorem dX5_wornPart_8 : decode cX5_wornPart 8 = .ok (.getfield 24, 3) := by decide +kernel
theorem dX5_wornPart_11 : decode cX5_wornPart 11 = .ok (.iload_n 1, 1) := by decide +kernel
theorem dX5_wornPart_12 : decode cX5_wornPart 12 = .ok (.iaload, 1) := by decide +kernel
theorem dX5_wornPart_13 : decode cX5_wornPart 13 = .ok (.getstatic 95, 3) := by decide +kernel
theorem dX5_wornPart_16 : decode cX5_wornPart 16 = .ok (.iload_n 1, 1) := by decide +kernel
theorem dX5_wornPart_17 : decode cX5_wornPart 17 = .ok (.iaload, 1) := by decide +kernel
theorem dX5_wornPart_18 : decode cX5_wornPart 18 = .ok (.if_icmp .lt 5, 3) := by decide +kernel
theorem dX5_wornPart_21 : decode cX5_wornPart 21 = .ok (.iload_n 1, 1) := by decide +kernel
theorem dX5_wornPart_22 : decode cX5_wornPart 22 = .ok (.ireturn, 1) := by decide +kernel
theorem dX5_wornPart_23 : decode cX5_wornPart 23 = .ok (.iinc 1 1, 3) := by decide +kernel
theorem dX5_wornPart_26 : decode cX5_wornPart 26 = .ok (.goto (-24), 3) := by decide +kernel
theorem dX5_wornPart_29 : decode cX5_wornPart 29 = .ok (.iconst (-1), 1) := by decide +kernel
theorem dX5_wornPart_30 : decode cX5_wornPart 30 = .ok (.ireturn, 1) := by decide +kernel
theorem wfRX5_24 : zFl RX5 24 5 11 := ⟨_, rfl, by decide, zm_f 554 (by decide +kernel) rfl⟩
theorem wgRX5_95 : Cond.fieldLinkNest RX5 95 "WakeBanks" "WEAR_LIMITS" "[I" "WakeBanks" ∈ zNws := by decide +kernel
def fTu_wornPart_l2 (i : Nat) (s0 : zM) (q1 : Int32) : Option ((Int32) ⊕ ((Unit) ⊕ (Int32))) :=
  if (3 : Int32) ≤ q1 then
  some (.inr (.inl ()))
else
  zix q1 3 fun j3 =>
    zix q1 3 fun j4 =>
    if (s0 8 i j3) < (zk2.getD j4 0) then
    zlet (q1 + 1) fun v5 =>
      some (.inl v5)
  else
    some (.inr (.inr q1))
def fTu_wornPart (i : Nat) (s0 : zM) : Option (Int32) :=
  Option.bind (ziter (fTu_wornPart_l2 i s0) 1000 (0 : Int32)) (Sum.elim (fun _ =>
  some (-1 : Int32)) (fun r => some r))
set_option maxHeartbeats 4000000 in
set_option maxRecDepth 20000 in
theorem bfTu_wornPart_l2 {X : zX} (F : zFr X cX5_wornPart 2 RX5 (some .int)) (i : Nat) (s0 : zM) (hi : i < 8) {ψ : (Int32) ⊕ ((Unit) ⊕ (Int32)) → Option zO} (h1 : ∀ q1 : Int32, zZ X [(0, [])] 0 0 2 2 [some (zr 0 7 i), some (zi q1)] [] [s0] (ψ (.inl q1))) (h2 : ∀ q2 : Unit, zZ X [(0, [])] 0 0 2 29 [none, none] [] [s0] (ψ (.inr (.inl q2)))) (h3 : ∀ r, ψ (.inr (.inr r)) = some ((fun a => ((.inl ((fun q => some (zi q)) a), (fun _ => [s0]) a) : zO)) r)) (q1 : Int32) : zZ X [(0, [])] 0 0 2 2 [some (zr 0 7 i), some (zi q1)] [] [s0] (Option.bind (fTu_wornPart_l2 i s0 q1) ψ) := by
  unfold fTu_wornPart_l2
  refine zz_iload_n F (i := 1) dX5_wornPart_2 rfl rfl ?_
  refine zz_iconst F (v := (3 : Int32)) dX5_wornPart_3 (by decide) ?_
  refine zz_icmp_ge F (tgt := 29) dX5_wornPart_4 (by decide) (fun h => zz_t h ?_) (fun h => zz_f h ?_)
  · exact zz_sub (zs_n (zs_n zs_z)) (h2 ())
  · refine zz_aload_n F (i := 0) dX5_wornPart_7 rfl rfl ?_
    refine zz_getr F dX5_wornPart_8 wfRX5_24 zCl_5 rfl (⟨zlb rfl, zlb rfl, hi⟩) rfl (by decide) rfl (r' := 0) (by decide) ?_
    refine zz_iload_n F (i := 1) dX5_wornPart_11 rfl rfl ?_
    refine zz_ix fun j3 hj3 hinj3 hej3 => zz_ial F dX5_wornPart_12 rfl (⟨zlb rfl, zlb rfl, hi⟩) rfl hinj3 hej3 ?_
    refine zz_getsN F (j := 2) (q := zst2) dX5_wornPart_13 rfl wgRX5_95 ?_
    refine zz_iload_n F (i := 1) dX5_wornPart_16 rfl rfl ?_
    refine zz_ix fun j4 hj4 hinj4 hej4 => zz_tld F (j := 2) (q := zst2) dX5_wornPart_17 rfl rfl hinj4 hej4 ?_
    refine zz_icmp_lt F (tgt := 23) dX5_wornPart_18 (by decide) (fun h => zz_t h ?_) (fun h => zz_f h ?_)
    · refine zz_iinc F (i := 1) (v := q1 + 1) (L' := [some (zr 0 7 i), some (zi (q1 + 1))]) dX5_wornPart_23 rfl (by first | rfl | decide) (by decide) rfl rfl ?_
      refine zz_letl (Lf := fun v5 => [some (zr 0 7 i), some (zi v5)]) fun v5 => ?_
      refine zz_goto F (tgt := 2) dX5_wornPart_26 (by decide) ?_
      exact zz_sub (zs_k (zs_k zs_z)) (h1 v5)
    · refine zz_iload_n F (i := 1) dX5_wornPart_21 rfl rfl ?_
      exact zz_ireturn F dX5_wornPart_22 rfl (h3 _)
set_option maxHeartbeats 4000000 in
set_option maxRecDepth 20000 in
theorem bfTu_wornPart {X : zX} (F : zFr X cX5_wornPart 2 RX5 (some .int)) (i : Nat) (hi : i < 8) (s0 : zM) {κ : Int32 → Option zO} (hκ : ∀ a, κ a = some ((fun a => ((.inl ((fun q => some (zi q)) a), (fun _ => [s0]) a) : zO)) a)) : zZ X [(0, [])] 0 0 2 0 [some (zr 0 7 i), none] [] [s0] (Option.bind (fTu_wornPart i s0) κ) := by
  unfold fTu_wornPart
  refine zz_iconst F (v := (0 : Int32)) dX5_wornPart_0 (by decide) ?_
  refine zz_istore_n F (i := 1) (L' := [some (zr 0 7 i), some (zi (0 : Int32))]) dX5_wornPart_1 rfl (by decide) rfl rfl ?_
  refine zz_sub (zs_k (zs_k zs_z)) ?_
  refine zz_bind ?_
  refine zz_iter (Lf := fun q1 => [some (zr 0 7 i), some (zi q1)]) (Mf := fun q1 => [s0]) (fun q1 _ e6 e7 => bfTu_wornPart_l2 F i s0 hi e6 (fun q2 => ?_) (fun r => ?_) q1) 1000 (0 : Int32)
  · rw [e7]
    dsimp only [Sum.elim_inl]
    refine zz_iconst F (v := (-1 : Int32)) dX5_wornPart_29 (by decide) ?_
    exact zz_ireturn F dX5_wornPart_30 rfl (hκ _)
  · exact (e7 _).trans (hκ _)
theorem zfTu_wornPart (i : Nat) (hi : i < 8) (s0 : zM) : ∀ a, fTu_wornPart i s0 = some a → zMet yX5_wornPart cX5_wornPart 2 (some .int) 0 0 [(0, [])] [zr 0 7 i] [s0] ((fun a => ((.inl ((fun q => some (zi q)) a), (fun _ => [s0]) a) : zO)) a) := fun a ha => zMet_of (L0 := [some (zr 0 7 i), none]) (φ := Option.bind (fTu_wornPart i s0) (fun a => some ((fun a => ((.inl ((fun q => some (zi q)) a), (fun _ => [s0]) a) : zO)) a))) (by decide) (fun _ => Nat.le_of_ble_eq_true rfl) (zl0 1 rfl) (fun X F => bfTu_wornPart F i hi s0 (fun _ => rfl)) (by rw [ha]; rfl)

theorem dX5_fault_0 : decode cX5_fault 0 = .ok (.aload_n 0, 1) := by decide +kernel
theorem dX5_fault_1 : decode cX5_fault 1 = .ok (.iconst 3, 1) := by decide +kernel
theorem dX5_fault_2 : decode cX5_fault 2 = .ok (.invokevirtual 69, 3) := by decide +kernel
theorem dX5_fault_5 : decode cX5_fault 5 = .ok (.aload_n 0, 1) := by decide +kernel
theorem dX5_fault_6 : decode cX5_fault 6 = .ok (.iload_n 1, 1) := by decide +kernel
theorem dX5_fault_7 : decode cX5_fault 7 = .ok (.putfield 18, 3) := by decide +kernel
theorem dX5_fault_10 : decode cX5_fault 10 = .ok (.return_, 1) := by decide +kernel
def fTu_fault (i : Nat) (a1 : Int32) (s0 : zM) : Option (zM) :=
  Option.bind (fTu_become i (3 : Int32) s0) fun q1 =>
  zlet (zu q1 7 i 5 a1) fun s0_2 =>
  some s0_2
set_option maxHeartbeats 4000000 in
set_option maxRecDepth 20000 in
theorem bfTu_fault {X : zX} (F : zFr X cX5_fault 2 RX5 none) (i : Nat) (a1 : Int32) (hi : i < 8) (s0 : zM) {κ : zM → Option zO} (hκ : ∀ a, κ a = some ((fun a => ((.inl ((fun _ => (none : Option zV)) a), (fun q => [q]) a) : zO)) a)) : zZ X [(0, [])] 1 21 2 0 [some (zr 0 7 i), some (zi a1)] [] [s0] (Option.bind (fTu_fault i a1 s0) κ) := by
  unfold fTu_fault
  refine zz_aload_n F (i := 0) dX5_fault_0 rfl rfl ?_
  refine zz_iconst F (v := (3 : Int32)) dX5_fault_1 (by decide) ?_
  refine zz_bind ?_
  refine zz_callVr F (ρ := [0]) (so := fun q1 => []) (Mo := fun q1 => [q1]) (zfTu_become i (3 : Int32) hi s0) dX5_fault_2 wcRX5_69 wy_yX5_become rfl ⟨rel3, rfl, rfl, Nat.le_of_ble_eq_true rfl, Nat.le_of_ble_eq_true rfl, Nat.le_of_ble_eq_true rfl⟩ (⟨zlb rfl, zlb rfl, hi⟩) rfl rfl rfl (fun _ => rfl) (fun _ => rfl) fun q1 => ?_
  refine zz_aload_n F (i := 0) dX5_fault_5 rfl rfl ?_
  refine zz_iload_n F (i := 1) dX5_fault_6 rfl rfl ?_
  refine zz_put F (Ms' := [(zu q1 7 i 5 a1)]) dX5_fault_7 wpRX5_18 zCl_5 rfl (⟨zlb rfl, zlb rfl, hi⟩) rfl (by decide) rfl rfl rfl ?_
  refine zz_letm (Mf := fun s0_2 => [s0_2]) fun s0_2 => ?_
  exact zz_return F dX5_fault_10 rfl (hκ _)
theorem zfTu_fault (i : Nat) (a1 : Int32) (hi : i < 8) (s0 : zM) : ∀ a, fTu_fault i a1 s0 = some a → zMet yX5_fault cX5_fault 2 none 1 21 [(0, [])] [zr 0 7 i, zi a1] [s0] ((fun a => ((.inl ((fun _ => (none : Option zV)) a), (fun q => [q]) a) : zO)) a) := fun a ha => zMet_of (L0 := [some (zr 0 7 i), some (zi a1)]) (φ := Option.bind (fTu_fault i a1 s0) (fun a => some ((fun a => ((.inl ((fun _ => (none : Option zV)) a), (fun q => [q]) a) : zO)) a))) (by decide) (fun _ => Nat.le_of_ble_eq_true rfl) (zl0 0 rfl) (fun X F => bfTu_fault F i a1 hi s0 (fun _ => rfl)) (by rw [ha]; rfl)

theorem dX5_mayStart_0 : decode cX5_mayStart 0 = .ok (.aload_n 0, 1) := by decide +kernel
theorem dX5_mayStart_1 : decode cX5_mayStart 1 = .ok (.getfield 15, 3) := by decide +kernel
theorem dX5_mayStart_4 : decode cX5_mayStart 4 = .ok (.iconst 2, 1) := by decide +kernel
theorem dX5_mayStart_5 : decode cX5_mayStart 5 = .ok (.if_icmp .ne 13, 3) := by decide +kernel
theorem dX5_mayStart_8 : decode cX5_mayStart 8 = .ok (.iload_n 2, 1) := by decide +kernel
theorem dX5_mayStart_9 : decode cX5_mayStart 9 = .ok (.ifCond .ne 7, 3) := by decide +kernel
theorem dX5_mayStart_12 : decode cX5_mayStart 12 = .ok (.iconst 1, 1) := by decide +kernel
theorem dX5_mayStart_13 : decode cX5_mayStart 13 = .ok (.goto 4, 3) := by decide +kernel
theorem dX5_mayStart_16 : decode cX5_mayStart 16 = .ok (.iconst 0, 1) := by decide +kernel
theorem dX5_mayStart_17 : decode cX5_mayStart 17 = .ok (.ireturn, 1) := by decide +kernel
theorem dX5_mayStart_18 : decode cX5_mayStart 18 = .ok (.aload_n 0, 1) := by decide +kernel
theorem dX5_mayStart_19 : decode cX5_mayStart 19 = .ok (.getfield 15, 3) := by decide +kernel
theorem dX5_mayStart_22 : decode cX5_mayStart 22 = .ok (.ifCond .ne 18, 3) := by decide +kernel
theorem dX5_mayStart_25 : decode cX5_mayStart 25 = .ok (.iload_n 1, 1) := by decide +kernel
theorem dX5_mayStart_26 : decode cX5_mayStart 26 = .ok (.iconst 4, 1) := by decide +kernel
theorem dX5_mayStart_27 : decode cX5_mayStart 27 = .ok (.if_icmp .lt 13, 3) := by decide +kernel
theorem dX5_mayStart_30 : decode cX5_mayStart 30 = .ok (.iload_n 1, 1) := by decide +kernel
theorem dX5_mayStart_31 : decode cX5_mayStart 31 = .ok (.bipush 22, 2) := by decide +kernel
theorem dX5_mayStart_33 : decode cX5_mayStart 33 = .ok (.if_icmp .gt 7, 3) := by decide +kernel
theorem dX5_mayStart_36 : decode cX5_mayStart 36 = .ok (.iconst 1, 1) := by decide +kernel
theorem dX5_mayStart_37 : decode cX5_mayStart 37 = .ok (.goto 4, 3) := by decide +kernel
theorem dX5_mayStart_40 : decode cX5_mayStart 40 = .ok (.iconst 0, 1) := by decide +kernel
theorem dX5_mayStart_41 : decode cX5_mayStart 41 = .ok (.ireturn, 1) := by decide +kernel
theorem wfRX5_15 : zFl RX5 15 5 4 := ⟨_, rfl, by decide, zm_f 539 (by decide +kernel) rfl⟩
def fTu_mayStart (i : Nat) (a1 : Int32) (a2 : Int32) (s0 : zM) : Option (Int32) :=
  if (s0 7 i 4) = (2 : Int32) then
  if a2 = 0 then
    some (1 : Int32)
  else
    some (0 : Int32)
else
  if (s0 7 i 4) = 0 then
    if a1 < (4 : Int32) then
      some (0 : Int32)
    else
      if (22 : Int32) < a1 then
        some (0 : Int32)
      else
        some (1 : Int32)
  else
    some (0 : Int32)
set_option maxHeartbeats 4000000 in
set_option maxRecDepth 20000 in
theorem bfTu_mayStart {X : zX} (F : zFr X cX5_mayStart 3 RX5 (some .boolean)) (i : Nat) (a1 : Int32) (a2 : Int32) (hi : i < 8) (s0 : zM) {κ : Int32 → Option zO} (hκ : ∀ a, κ a = some ((fun a => ((.inl ((fun q => some (zi q)) a), (fun _ => [s0]) a) : zO)) a)) : zZ X [(0, [])] 0 0 3 0 [some (zr 0 7 i), some (zi a1), some (zi a2)] [] [s0] (Option.bind (fTu_mayStart i a1 a2 s0) κ) := by
  unfold fTu_mayStart
  refine zz_aload_n F (i := 0) dX5_mayStart_0 rfl rfl ?_
  refine zz_getf F dX5_mayStart_1 wfRX5_15 zCl_5 rfl (⟨zlb rfl, zlb rfl, hi⟩) rfl (by decide) rfl rfl ?_
  refine zz_iconst F (v := (2 : Int32)) dX5_mayStart_4 (by decide) ?_
  refine zz_icmp_ne F (tgt := 18) dX5_mayStart_5 (by decide) (fun h => zz_f h ?_) (fun h => zz_t h ?_)
  · refine zz_aload_n F (i := 0) dX5_mayStart_18 rfl rfl ?_
    refine zz_getf F dX5_mayStart_19 wfRX5_15 zCl_5 rfl (⟨zlb rfl, zlb rfl, hi⟩) rfl (by decide) rfl rfl ?_
    refine zz_if_ne F (tgt := 40) dX5_mayStart_22 (by decide) (fun h => zz_f h ?_) (fun h => zz_t h ?_)
    · refine zz_iconst F (v := (0 : Int32)) dX5_mayStart_40 (by decide) ?_
      exact zz_zreturn F dX5_mayStart_41 rfl rfl (hκ _)
    · refine zz_iload_n F (i := 1) dX5_mayStart_25 rfl rfl ?_
      refine zz_iconst F (v := (4 : Int32)) dX5_mayStart_26 (by decide) ?_
      refine zz_icmp_lt F (tgt := 40) dX5_mayStart_27 (by decide) (fun h => zz_t h ?_) (fun h => zz_f h ?_)
      · refine zz_iconst F (v := (0 : Int32)) dX5_mayStart_40 (by decide) ?_
        exact zz_zreturn F dX5_mayStart_41 rfl rfl (hκ _)
      · refine zz_iload_n F (i := 1) dX5_mayStart_30 rfl rfl ?_
        refine zz_bipush F (v := (22 : Int32)) dX5_mayStart_31 (by decide) ?_
        refine zz_icmp_gt F (tgt := 40) dX5_mayStart_33 (by decide) (fun h => zz_t h ?_) (fun h => zz_f h ?_)
        · refine zz_iconst F (v := (0 : Int32)) dX5_mayStart_40 (by decide) ?_
          exact zz_zreturn F dX5_mayStart_41 rfl rfl (hκ _)
        · refine zz_iconst F (v := (1 : Int32)) dX5_mayStart_36 (by decide) ?_
          refine zz_goto F (tgt := 41) dX5_mayStart_37 (by decide) ?_
          exact zz_zreturn F dX5_mayStart_41 rfl rfl (hκ _)
  · refine zz_iload_n F (i := 2) dX5_mayStart_8 rfl rfl ?_
    refine zz_if_ne F (tgt := 16) dX5_mayStart_9 (by decide) (fun h => zz_f h ?_) (fun h => zz_t h ?_)
    · refine zz_iconst F (v := (0 : Int32)) dX5_mayStart_16 (by decide) ?_
      exact zz_zreturn F dX5_mayStart_17 rfl rfl (hκ _)
    · refine zz_iconst F (v := (1 : Int32)) dX5_mayStart_12 (by decide) ?_
      refine zz_goto F (tgt := 17) dX5_mayStart_13 (by decide) ?_
      exact zz_zreturn F dX5_mayStart_17 rfl rfl (hκ _)
theorem zfTu_mayStart (i : Nat) (a1 : Int32) (a2 : Int32) (hi : i < 8) (s0 : zM) : ∀ a, fTu_mayStart i a1 a2 s0 = some a → zMet yX5_mayStart cX5_mayStart 3 (some .boolean) 0 0 [(0, [])] [zr 0 7 i, zi a1, zi a2] [s0] ((fun a => ((.inl ((fun q => some (zi q)) a), (fun _ => [s0]) a) : zO)) a) := fun a ha => zMet_of (L0 := [some (zr 0 7 i), some (zi a1), some (zi a2)]) (φ := Option.bind (fTu_mayStart i a1 a2 s0) (fun a => some ((fun a => ((.inl ((fun q => some (zi q)) a), (fun _ => [s0]) a) : zO)) a))) (by decide) (fun _ => Nat.le_of_ble_eq_true rfl) (zl0 0 rfl) (fun X F => bfTu_mayStart F i a1 a2 hi s0 (fun _ => rfl)) (by rw [ha]; rfl)

theorem dX5_settle_0 : decode cX5_settle 0 = .ok (.aload_n 1, 1) := by decide +kernel
theorem dX5_settle_1 : decode cX5_settle 1 = .ok (.getfield 73, 3) := by decide +kernel
theorem dX5_settle_4 : decode cX5_settle 4 = .ok (.istore_n 3, 1) := by decide +kernel
theorem dX5_settle_5 : decode cX5_settle 5 = .ok (.aload_n 1, 1) := by decide +kernel
theorem dX5_settle_6 : decode cX5_settle 6 = .ok (.getfield 78, 3) := by decide +kernel
theorem dX5_settle_9 : decode cX5_settle 9 = .ok (.iload_n 2, 1) := by decide +kernel
theorem dX5_settle_10 : decode cX5_settle 10 = .ok (.if_icmp .ge 7, 3) := by decide +kernel
theorem dX5_settle_13 : decode cX5_settle 13 = .ok (.iconst 1, 1) := by decide +kernel
theorem dX5_settle_14 : decode cX5_settle 14 = .ok (.goto 4, 3) := by decide +kernel
theorem dX5_settle_17 : decode cX5_settle 17 = .ok (.iconst 0, 1) := by decide +kernel
theorem dX5_settle_18 : decode cX5_settle 18 = .ok (.istore 4, 2) := by decide +kernel
theorem dX5_settle_20 : decode cX5_settle 20 = .ok (.aload_n 0, 1) := by decide +kernel
theorem dX5_settle_21 : decode cX5_settle 21 = .ok (.getfield 9, 3) := by decide +kernel
theorem dX5_settle_24 : decode cX5_settle 24 = .ok (.iconst 2, 1) := by decide +kernel
theorem dX5_settle_25 : decode cX5_settle 25 = .ok (.if_icmp .ne 16, 3) := by decide +kernel
theorem dX5_settle_28 : decode cX5_settle 28 = .ok (.iload 4, 2) := by decide +kernel
theorem dX5_settle_30 : decode cX5_settle 30 = .ok (.ifCond .eq 11, 3) := by decide +kernel
theorem dX5_settle_33 : decode cX5_settle 33 = .ok (.aload_n 0, 1) := by decide +kernel
theorem dX5_settle_34 : decode cX5_settle 34 = .ok (.iconst 2, 1) := by decide +kernel
theorem dX5_settle_35 : decode cX5_settle 35 = .ok (.invokevirtual 81, 3) := by decide +kernel
theorem dX5_settle_38 : decode cX5_settle 38 = .ok (.goto 95, 3) := by decide +kernel
theorem dX5_settle_41 : decode cX5_settle 41 = .ok (.aload_n 0, 1) := by decide +kernel
theorem dX5_settle_42 : decode cX5_settle 42 = .ok (.getfield 9, 3) := by decide +kernel
theorem dX5_settle_45 : decode cX5_settle 45 = .ok (.iconst 2, 1) := by decide +kernel
theorem dX5_settle_46 : decode cX5_settle 46 = .ok (.if_icmp .ne 22, 3) := by decide +kernel
theorem dX5_settle_49 : decode cX5_settle 49 = .ok (.iload_n 3, 1) := by decide +kernel
theorem dX5_settle_50 : decode cX5_settle 50 = .ok (.iconst 3, 1) := by decide +kernel
theorem dX5_settle_51 : decode cX5_settle 51 = .ok (.if_icmp .lt 9, 3) := by decide +kernel
theorem dX5_settle_54 : decode cX5_settle 54 = .ok (.iload_n 3, 1) := by decide +kernel
theorem dX5_settle_55 : decode cX5_settle 55 = .ok (.bipush 25, 2) := by decide +kernel
theorem dX5_settle_57 : decode cX5_settle 57 = .ok (.if_icmp .le 11, 3) := by decide +kernel
theorem dX5_settle_60 : decode cX5_settle 60 = .ok (.aload_n 0, 1) := by decide +kernel
theorem dX5_settle_61 : decode cX5_settle 61 = .ok (.iconst 0, 1) := by decide +kernel
theorem dX5_settle_62 : decode cX5_settle 62 = .ok (.invokevirtual 81, 3) := by decide +kernel
theorem dX5_settle_65 : decode cX5_settle 65 = .ok (.goto 68, 3) := by decide +kernel
theorem dX5_settle_68 : decode cX5_settle 68 = .ok (.aload_n 0, 1) := by decide +kernel
theorem dX5_settle_69 : decode cX5_settle 69 = .ok (.getfield 9, 3) := by decide +kernel
theorem dX5_settle_72 : decode cX5_settle 72 = .ok (.iconst 2, 1) := by decide +kernel
theorem dX5_settle_73 : decode cX5_settle 73 = .ok (.if_icmp .ne 22, 3) := by decide +kernel
theorem dX5_settle_76 : decode cX5_settle 76 = .ok (.aload_n 0, 1) := by decide +kernel
theorem dX5_settle_77 : decode cX5_settle 77 = .ok (.invokevirtual 84, 3) := by decide +kernel
theorem dX5_settle_80 : decode cX5_settle 80 = .ok (.iconst (-1), 1) := by decide +kernel
theorem dX5_settle_81 : decode cX5_settle 81 = .ok (.if_icmp .eq 14, 3) := by decide +kernel
theorem dX5_settle_84 : decode cX5_settle 84 = .ok (.aload_n 0, 1) := by decide +kernel
theorem dX5_settle_85 : decode cX5_settle 85 = .ok (.aload_n 0, 1) := by decide +kernel
theorem dX5_settle_86 : decode cX5_settle 86 = .ok (.invokevirtual 84, 3) := by decide +kernel
theorem dX5_settle_89 : decode cX5_settle 89 = .ok (.invokevirtual 88, 3) := by decide +kernel
theorem dX5_settle_92 : decode cX5_settle 92 = .ok (.goto 41, 3) := by decide +kernel
theorem dX5_settle_95 : decode cX5_settle 95 = .ok (.aload_n 0, 1) := by decide +kernel
theorem dX5_settle_96 : decode cX5_settle 96 = .ok (.getfield 9, 3) := by decide +kernel
theorem dX5_settle_99 : decode cX5_settle 99 = .ok (.iconst 1, 1) := by decide +kernel
theorem dX5_settle_100 : decode cX5_settle 100 = .ok (.if_icmp .ne 11, 3) := by decide +kernel
theorem dX5_settle_103 : decode cX5_settle 103 = .ok (.aload_n 0, 1) := by decide +kernel
theorem dX5_settle_104 : decode cX5_settle 104 = .ok (.iconst 2, 1) := by decide +kernel
theorem dX5_settle_105 : decode cX5_settle 105 = .ok (.invokevirtual 69, 3) := by decide +kernel
theorem dX5_settle_108 : decode cX5_settle 108 = .ok (.goto 25, 3) := by decide +kernel
theorem dX5_settle_111 : decode cX5_settle 111 = .ok (.aload_n 0, 1) := by decide +kernel
theorem dX5_settle_112 : decode cX5_settle 112 = .ok (.getfield 9, 3) := by decide +kernel
theorem dX5_settle_115 : decode cX5_settle 115 = .ok (.ifCond .ne 18, 3) := by decide +kernel
theorem dX5_settle_118 : decode cX5_settle 118 = .ok (.aload_n 0, 1) := by decide +kernel
theorem dX5_settle_119 : decode cX5_settle 119 = .ok (.iload_n 3, 1) := by decide +kernel
theorem dX5_settle_120 : decode cX5_settle 120 = .ok (.iload 4, 2) := by decide +kernel
theorem dX5_settle_122 : decode cX5_settle 122 = .ok (.invokevirtual 91, 3) := by decide +kernel
theorem dX5_settle_125 : decode cX5_settle 125 = .ok (.ifCond .eq 8, 3) := by decide +kernel
theorem dX5_settle_128 : decode cX5_settle 128 = .ok (.aload_n 0, 1) := by decide +kernel
theorem dX5_settle_129 : decode cX5_settle 129 = .ok (.iconst 1, 1) := by decide +kernel
theorem dX5_settle_130 : decode cX5_settle 130 = .ok (.invokevirtual 69, 3) := by decide +kernel
theorem dX5_settle_133 : decode cX5_settle 133 = .ok (.return_, 1) := by decide +kernel
theorem wfRX5_73 : zFl RX5 73 7 1 := ⟨_, rfl, by decide, zm_f 456 (by decide +kernel) rfl⟩
theorem wfRX5_78 : zFl RX5 78 7 3 := ⟨_, rfl, by decide, zm_f 461 (by decide +kernel) rfl⟩
theorem wfRX5_9 : zFl RX5 9 5 3 := ⟨_, rfl, by decide, zm_f 536 (by decide +kernel) rfl⟩
theorem wcRX5_91 : Cond.methodLink RX5 91 yX5_mayStart ∈ zTg ∧ Cond.instanceMethod yX5_mayStart ∈ zTg ∧ Cond.selects RX5 yX5_mayStart yX5_mayStart ∈ zTg ∧ Cond.initialized RX5 ∈ zTg ∧ Cond.code yX5_mayStart cX5_mayStart 3 (some .boolean) ∈ zTg := ⟨zm_f 151 (by decide +kernel) rfl, zm_f 153 (by decide +kernel) rfl, zm_f 2 (by decide +kernel) rfl, zm_f 25 (by decide +kernel) rfl, zm_f 154 (by decide +kernel) rfl⟩
theorem wy_yX5_mayStart : yX5_mayStart.cls = RX5 ∧ yX5_mayStart.cls ≠ "java/lang/invoke/MethodHandle" ∧ yX5_mayStart.cls ≠ "java/lang/invoke/VarHandle" ∧ (parseMethodDescriptor yX5_mayStart.desc).map (fun d => d.parameters.length) = some 2 := by decide +kernel
theorem wcRX5_84 : Cond.methodLink RX5 84 yX5_wornPart ∈ zTg ∧ Cond.instanceMethod yX5_wornPart ∈ zTg ∧ Cond.selects RX5 yX5_wornPart yX5_wornPart ∈ zTg ∧ Cond.initialized RX5 ∈ zTg ∧ Cond.code yX5_wornPart cX5_wornPart 2 (some .int) ∈ zTg := ⟨zm_f 140 (by decide +kernel) rfl, zm_f 142 (by decide +kernel) rfl, zm_f 1 (by decide +kernel) rfl, zm_f 25 (by decide +kernel) rfl, zm_f 144 (by decide +kernel) rfl⟩
theorem wy_yX5_wornPart : yX5_wornPart.cls = RX5 ∧ yX5_wornPart.cls ≠ "java/lang/invoke/MethodHandle" ∧ yX5_wornPart.cls ≠ "java/lang/invoke/VarHandle" ∧ (parseMethodDescriptor yX5_wornPart.desc).map (fun d => d.parameters.length) = some 0 := by decide +kernel
theorem wcRX5_88 : Cond.methodLink RX5 88 yX5_fault ∈ zTg ∧ Cond.instanceMethod yX5_fault ∈ zTg ∧ Cond.selects RX5 yX5_fault yX5_fault ∈ zTg ∧ Cond.initialized RX5 ∈ zTg ∧ Cond.code yX5_fault cX5_fault 2 none ∈ zTg := ⟨zm_f 147 (by decide +kernel) rfl, zm_f 148 (by decide +kernel) rfl, zm_f 149 (by decide +kernel) rfl, zm_f 25 (by decide +kernel) rfl, zm_f 150 (by decide +kernel) rfl⟩
theorem wy_yX5_fault : yX5_fault.cls = RX5 ∧ yX5_fault.cls ≠ "java/lang/invoke/MethodHandle" ∧ yX5_fault.cls ≠ "java/lang/invoke/VarHandle" ∧ (parseMethodDescriptor yX5_fault.desc).map (fun d => d.parameters.length) = some 1 := by decide +kernel
theorem wcRX5_81 : Cond.methodLink RX5 81 yX5_stop ∈ zTg ∧ Cond.instanceMethod yX5_stop ∈ zTg ∧ Cond.selects RX5 yX5_stop yX5_stop ∈ zTg ∧ Cond.initialized RX5 ∈ zTg ∧ Cond.code yX5_stop cX5_stop 2 none ∈ zTg := ⟨zm_f 132 (by decide +kernel) rfl, zm_f 133 (by decide +kernel) rfl, zm_f 134 (by decide +kernel) rfl, zm_f 25 (by decide +kernel) rfl, zm_f 135 (by decide +kernel) rfl⟩
theorem wy_yX5_stop : yX5_stop.cls = RX5 ∧ yX5_stop.cls ≠ "java/lang/invoke/MethodHandle" ∧ yX5_stop.cls ≠ "java/lang/invoke/VarHandle" ∧ (parseMethodDescriptor yX5_stop.desc).map (fun d => d.parameters.length) = some 1 := by decide +kernel
def fTu_settle (i : Nat) (a2 : Int32) (s0 : zM) : Option (zM) :=
  zlet ((s0 4 0 1)) fun v1 =>
  Option.bind (if a2 ≤ (s0 4 0 3) then
  some (0 : Int32)
else
  some (1 : Int32)) fun q2 =>
  if (s0 7 i 3) = (2 : Int32) then
  if q2 = 0 then
    if (s0 7 i 3) = (2 : Int32) then
      if v1 < (3 : Int32) then
        Option.bind (fTu_stop i (0 : Int32) s0) fun q35 =>
          some q35
      else
        if v1 ≤ (25 : Int32) then
          if (s0 7 i 3) = (2 : Int32) then
            Option.bind (fTu_wornPart i s0) fun q39 =>
              if q39 = (-1 : Int32) then
              if (s0 7 i 3) = (1 : Int32) then
                Option.bind (fTu_become i (2 : Int32) s0) fun q42 =>
                  some q42
              else
                if (s0 7 i 3) = 0 then
                  Option.bind (fTu_mayStart i v1 q2 s0) fun q40 =>
                    if q40 = 0 then
                    some s0
                  else
                    Option.bind (fTu_become i (1 : Int32) s0) fun q41 =>
                      some q41
                else
                  some s0
            else
              Option.bind (fTu_wornPart i s0) fun q43 =>
                Option.bind (fTu_fault i q43 s0) fun q44 =>
                some q44
          else
            if (s0 7 i 3) = (1 : Int32) then
              Option.bind (fTu_become i (2 : Int32) s0) fun q38 =>
                some q38
            else
              if (s0 7 i 3) = 0 then
                Option.bind (fTu_mayStart i v1 q2 s0) fun q36 =>
                  if q36 = 0 then
                  some s0
                else
                  Option.bind (fTu_become i (1 : Int32) s0) fun q37 =>
                    some q37
              else
                some s0
        else
          Option.bind (fTu_stop i (0 : Int32) s0) fun q45 =>
            some q45
    else
      if (s0 7 i 3) = (2 : Int32) then
        Option.bind (fTu_wornPart i s0) fun q29 =>
          if q29 = (-1 : Int32) then
          if (s0 7 i 3) = (1 : Int32) then
            Option.bind (fTu_become i (2 : Int32) s0) fun q32 =>
              some q32
          else
            if (s0 7 i 3) = 0 then
              Option.bind (fTu_mayStart i v1 q2 s0) fun q30 =>
                if q30 = 0 then
                some s0
              else
                Option.bind (fTu_become i (1 : Int32) s0) fun q31 =>
                  some q31
            else
              some s0
        else
          Option.bind (fTu_wornPart i s0) fun q33 =>
            Option.bind (fTu_fault i q33 s0) fun q34 =>
            some q34
      else
        if (s0 7 i 3) = (1 : Int32) then
          Option.bind (fTu_become i (2 : Int32) s0) fun q28 =>
            some q28
        else
          if (s0 7 i 3) = 0 then
            Option.bind (fTu_mayStart i v1 q2 s0) fun q26 =>
              if q26 = 0 then
              some s0
            else
              Option.bind (fTu_become i (1 : Int32) s0) fun q27 =>
                some q27
          else
            some s0
  else
    Option.bind (fTu_stop i (2 : Int32) s0) fun q46 =>
      some q46
else
  if (s0 7 i 3) = (2 : Int32) then
    if v1 < (3 : Int32) then
      Option.bind (fTu_stop i (0 : Int32) s0) fun q15 =>
        some q15
    else
      if v1 ≤ (25 : Int32) then
        if (s0 7 i 3) = (2 : Int32) then
          Option.bind (fTu_wornPart i s0) fun q19 =>
            if q19 = (-1 : Int32) then
            if (s0 7 i 3) = (1 : Int32) then
              Option.bind (fTu_become i (2 : Int32) s0) fun q22 =>
                some q22
            else
              if (s0 7 i 3) = 0 then
                Option.bind (fTu_mayStart i v1 q2 s0) fun q20 =>
                  if q20 = 0 then
                  some s0
                else
                  Option.bind (fTu_become i (1 : Int32) s0) fun q21 =>
                    some q21
              else
                some s0
          else
            Option.bind (fTu_wornPart i s0) fun q23 =>
              Option.bind (fTu_fault i q23 s0) fun q24 =>
              some q24
        else
          if (s0 7 i 3) = (1 : Int32) then
            Option.bind (fTu_become i (2 : Int32) s0) fun q18 =>
              some q18
          else
            if (s0 7 i 3) = 0 then
              Option.bind (fTu_mayStart i v1 q2 s0) fun q16 =>
                if q16 = 0 then
                some s0
              else
                Option.bind (fTu_become i (1 : Int32) s0) fun q17 =>
                  some q17
            else
              some s0
      else
        Option.bind (fTu_stop i (0 : Int32) s0) fun q25 =>
          some q25
  else
    if (s0 7 i 3) = (2 : Int32) then
      Option.bind (fTu_wornPart i s0) fun q9 =>
        if q9 = (-1 : Int32) then
        if (s0 7 i 3) = (1 : Int32) then
          Option.bind (fTu_become i (2 : Int32) s0) fun q12 =>
            some q12
        else
          if (s0 7 i 3) = 0 then
            Option.bind (fTu_mayStart i v1 q2 s0) fun q10 =>
              if q10 = 0 then
              some s0
            else
              Option.bind (fTu_become i (1 : Int32) s0) fun q11 =>
                some q11
          else
            some s0
      else
        Option.bind (fTu_wornPart i s0) fun q13 =>
          Option.bind (fTu_fault i q13 s0) fun q14 =>
          some q14
    else
      if (s0 7 i 3) = (1 : Int32) then
        Option.bind (fTu_become i (2 : Int32) s0) fun q8 =>
          some q8
      else
        if (s0 7 i 3) = 0 then
          Option.bind (fTu_mayStart i v1 q2 s0) fun q6 =>
            if q6 = 0 then
            some s0
          else
            Option.bind (fTu_become i (1 : Int32) s0) fun q7 =>
              some q7
        else
          some s0
set_option maxHeartbeats 4000000 in
set_option maxRecDepth 20000 in
theorem bfTu_settle {X : zX} (F : zFr X cX5_settle 5 RX5 none) (i : Nat) (a2 : Int32) (hi : i < 8) (s0 : zM) {κ : zM → Option zO} (hκ : ∀ a, κ a = some ((fun a => ((.inl ((fun _ => (none : Option zV)) a), (fun q => [q]) a) : zO)) a)) : zZ X [(0, [])] 2 42 5 0 [some (zr 0 7 i), some (zr 0 4 0), some (zi a2), none, none] [] [s0] (Option.bind (fTu_settle i a2 s0) κ) := by
  unfold fTu_settle
  refine zz_aload_n F (i := 1) dX5_settle_0 rfl rfl ?_
  refine zz_getf F dX5_settle_1 wfRX5_73 zCl_7 rfl (⟨zlb rfl, zlb rfl, zlb rfl⟩) rfl (by decide) rfl rfl ?_
  refine zz_istore_n F (i := 3) (L' := [some (zr 0 7 i), some (zr 0 4 0), some (zi a2), some (zi (s0 4 0 1)), none]) dX5_settle_4 rfl (by decide) rfl rfl ?_
  refine zz_letl (Lf := fun v1 => [some (zr 0 7 i), some (zr 0 4 0), some (zi a2), some (zi v1), none]) fun v1 => ?_
  refine zz_aload_n F (i := 1) dX5_settle_5 rfl rfl ?_
  refine zz_getf F dX5_settle_6 wfRX5_78 zCl_7 rfl (⟨zlb rfl, zlb rfl, zlb rfl⟩) rfl (by decide) rfl rfl ?_
  refine zz_iload_n F (i := 2) dX5_settle_9 rfl rfl ?_
  refine zz_join (pj := 18) (Lj := fun q2 => [some (zr 0 7 i), none, none, some (zi v1), none]) (Sj := fun q2 => [zi q2]) (Mj := fun q2 => [s0]) (fun q2 => ?_) (fun κ4 hj3 => ?_)
  · refine zz_istore F (i := 4) (L' := [some (zr 0 7 i), none, none, some (zi v1), some (zi q2)]) dX5_settle_18 (by decide) rfl rfl ?_
    refine zz_aload_n F (i := 0) dX5_settle_20 rfl rfl ?_
    refine zz_getf F dX5_settle_21 wfRX5_9 zCl_5 rfl (⟨zlb rfl, zlb rfl, hi⟩) rfl (by decide) rfl rfl ?_
    refine zz_iconst F (v := (2 : Int32)) dX5_settle_24 (by decide) ?_
    refine zz_icmp_ne F (tgt := 41) dX5_settle_25 (by decide) (fun h => zz_f h ?_) (fun h => zz_t h ?_)
    · refine zz_aload_n F (i := 0) dX5_settle_41 rfl rfl ?_
      refine zz_getf F dX5_settle_42 wfRX5_9 zCl_5 rfl (⟨zlb rfl, zlb rfl, hi⟩) rfl (by decide) rfl rfl ?_
      refine zz_iconst F (v := (2 : Int32)) dX5_settle_45 (by decide) ?_
      refine zz_icmp_ne F (tgt := 68) dX5_settle_46 (by decide) (fun h => zz_f h ?_) (fun h => zz_t h ?_)
      · refine zz_aload_n F (i := 0) dX5_settle_68 rfl rfl ?_
        refine zz_getf F dX5_settle_69 wfRX5_9 zCl_5 rfl (⟨zlb rfl, zlb rfl, hi⟩) rfl (by decide) rfl rfl ?_
        refine zz_iconst F (v := (2 : Int32)) dX5_settle_72 (by decide) ?_
        refine zz_icmp_ne F (tgt := 95) dX5_settle_73 (by decide) (fun h => zz_f h ?_) (fun h => zz_t h ?_)
        · refine zz_aload_n F (i := 0) dX5_settle_95 rfl rfl ?_
          refine zz_getf F dX5_settle_96 wfRX5_9 zCl_5 rfl (⟨zlb rfl, zlb rfl, hi⟩) rfl (by decide) rfl rfl ?_
          refine zz_iconst F (v := (1 : Int32)) dX5_settle_99 (by decide) ?_
          refine zz_icmp_ne F (tgt := 111) dX5_settle_100 (by decide) (fun h => zz_f h ?_) (fun h => zz_t h ?_)
          · refine zz_aload_n F (i := 0) dX5_settle_111 rfl rfl ?_
            refine zz_getf F dX5_settle_112 wfRX5_9 zCl_5 rfl (⟨zlb rfl, zlb rfl, hi⟩) rfl (by decide) rfl rfl ?_
            refine zz_if_ne F (tgt := 133) dX5_settle_115 (by decide) (fun h => zz_f h ?_) (fun h => zz_t h ?_)
            · exact zz_return F dX5_settle_133 rfl (hκ _)
            · refine zz_aload_n F (i := 0) dX5_settle_118 rfl rfl ?_
              refine zz_iload_n F (i := 3) dX5_settle_119 rfl rfl ?_
              refine zz_iload F (i := 4) dX5_settle_120 rfl ?_
              refine zz_bind ?_
              refine zz_callVr F (ρ := [0]) (so := fun q6 => [zi q6]) (Mo := fun q6 => [s0]) (zfTu_mayStart i v1 q2 hi s0) dX5_settle_122 wcRX5_91 wy_yX5_mayStart rfl ⟨rel3, rfl, rfl, Nat.le_of_ble_eq_true rfl, Nat.le_of_ble_eq_true rfl, Nat.le_of_ble_eq_true rfl⟩ (⟨zlb rfl, zlb rfl, hi⟩) rfl rfl rfl (fun _ => rfl) (fun _ => rfl) fun q6 => ?_
              refine zz_if_eq F (tgt := 133) dX5_settle_125 (by decide) (fun h => zz_t h ?_) (fun h => zz_f h ?_)
              · exact zz_return F dX5_settle_133 rfl (hκ _)
              · refine zz_aload_n F (i := 0) dX5_settle_128 rfl rfl ?_
                refine zz_iconst F (v := (1 : Int32)) dX5_settle_129 (by decide) ?_
                refine zz_bind ?_
                refine zz_callVr F (ρ := [0]) (so := fun q7 => []) (Mo := fun q7 => [q7]) (zfTu_become i (1 : Int32) hi s0) dX5_settle_130 wcRX5_69 wy_yX5_become rfl ⟨rel3, rfl, rfl, Nat.le_of_ble_eq_true rfl, Nat.le_of_ble_eq_true rfl, Nat.le_of_ble_eq_true rfl⟩ (⟨zlb rfl, zlb rfl, hi⟩) rfl rfl rfl (fun _ => rfl) (fun _ => rfl) fun q7 => ?_
                exact zz_return F dX5_settle_133 rfl (hκ _)
          · refine zz_aload_n F (i := 0) dX5_settle_103 rfl rfl ?_
            refine zz_iconst F (v := (2 : Int32)) dX5_settle_104 (by decide) ?_
            refine zz_bind ?_
            refine zz_callVr F (ρ := [0]) (so := fun q8 => []) (Mo := fun q8 => [q8]) (zfTu_become i (2 : Int32) hi s0) dX5_settle_105 wcRX5_69 wy_yX5_become rfl ⟨rel3, rfl, rfl, Nat.le_of_ble_eq_true rfl, Nat.le_of_ble_eq_true rfl, Nat.le_of_ble_eq_true rfl⟩ (⟨zlb rfl, zlb rfl, hi⟩) rfl rfl rfl (fun _ => rfl) (fun _ => rfl) fun q8 => ?_
            refine zz_goto F (tgt := 133) dX5_settle_108 (by decide) ?_
            exact zz_return F dX5_settle_133 rfl (hκ _)
        · refine zz_aload_n F (i := 0) dX5_settle_76 rfl rfl ?_
          refine zz_bind ?_
          refine zz_callVr F (ρ := [0]) (so := fun q9 => [zi q9]) (Mo := fun q9 => [s0]) (zfTu_wornPart i hi s0) dX5_settle_77 wcRX5_84 wy_yX5_wornPart rfl ⟨rel3, rfl, rfl, Nat.le_of_ble_eq_true rfl, Nat.le_of_ble_eq_true rfl, Nat.le_of_ble_eq_true rfl⟩ (⟨zlb rfl, zlb rfl, hi⟩) rfl rfl rfl (fun _ => rfl) (fun _ => rfl) fun q9 => ?_
          refine zz_iconst F (v := (-1 : Int32)) dX5_settle_80 (by decide) ?_
          refine zz_icmp_eq F (tgt := 95) dX5_settle_81 (by decide) (fun h => zz_t h ?_) (fun h => zz_f h ?_)
          · refine zz_aload_n F (i := 0) dX5_settle_95 rfl rfl ?_
            refine zz_getf F dX5_settle_96 wfRX5_9 zCl_5 rfl (⟨zlb rfl, zlb rfl, hi⟩) rfl (by decide) rfl rfl ?_
            refine zz_iconst F (v := (1 : Int32)) dX5_settle_99 (by decide) ?_
            refine zz_icmp_ne F (tgt := 111) dX5_settle_100 (by decide) (fun h => zz_f h ?_) (fun h => zz_t h ?_)
            · refine zz_aload_n F (i := 0) dX5_settle_111 rfl rfl ?_
              refine zz_getf F dX5_settle_112 wfRX5_9 zCl_5 rfl (⟨zlb rfl, zlb rfl, hi⟩) rfl (by decide) rfl rfl ?_
              refine zz_if_ne F (tgt := 133) dX5_settle_115 (by decide) (fun h => zz_f h ?_) (fun h => zz_t h ?_)
              · exact zz_return F dX5_settle_133 rfl (hκ _)
              · refine zz_aload_n F (i := 0) dX5_settle_118 rfl rfl ?_
                refine zz_iload_n F (i := 3) dX5_settle_119 rfl rfl ?_
                refine zz_iload F (i := 4) dX5_settle_120 rfl ?_
                refine zz_bind ?_
                refine zz_callVr F (ρ := [0]) (so := fun q10 => [zi q10]) (Mo := fun q10 => [s0]) (zfTu_mayStart i v1 q2 hi s0) dX5_settle_122 wcRX5_91 wy_yX5_mayStart rfl ⟨rel3, rfl, rfl, Nat.le_of_ble_eq_true rfl, Nat.le_of_ble_eq_true rfl, Nat.le_of_ble_eq_true rfl⟩ (⟨zlb rfl, zlb rfl, hi⟩) rfl rfl rfl (fun _ => rfl) (fun _ => rfl) fun q10 => ?_
                refine zz_if_eq F (tgt := 133) dX5_settle_125 (by decide) (fun h => zz_t h ?_) (fun h => zz_f h ?_)
                · exact zz_return F dX5_settle_133 rfl (hκ _)
                · refine zz_aload_n F (i := 0) dX5_settle_128 rfl rfl ?_
                  refine zz_iconst F (v := (1 : Int32)) dX5_settle_129 (by decide) ?_
                  refine zz_bind ?_
                  refine zz_callVr F (ρ := [0]) (so := fun q11 => []) (Mo := fun q11 => [q11]) (zfTu_become i (1 : Int32) hi s0) dX5_settle_130 wcRX5_69 wy_yX5_become rfl ⟨rel3, rfl, rfl, Nat.le_of_ble_eq_true rfl, Nat.le_of_ble_eq_true rfl, Nat.le_of_ble_eq_true rfl⟩ (⟨zlb rfl, zlb rfl, hi⟩) rfl rfl rfl (fun _ => rfl) (fun _ => rfl) fun q11 => ?_
                  exact zz_return F dX5_settle_133 rfl (hκ _)
            · refine zz_aload_n F (i := 0) dX5_settle_103 rfl rfl ?_
              refine zz_iconst F (v := (2 : Int32)) dX5_settle_104 (by decide) ?_
              refine zz_bind ?_
              refine zz_callVr F (ρ := [0]) (so := fun q12 => []) (Mo := fun q12 => [q12]) (zfTu_become i (2 : Int32) hi s0) dX5_settle_105 wcRX5_69 wy_yX5_become rfl ⟨rel3, rfl, rfl, Nat.le_of_ble_eq_true rfl, Nat.le_of_ble_eq_true rfl, Nat.le_of_ble_eq_true rfl⟩ (⟨zlb rfl, zlb rfl, hi⟩) rfl rfl rfl (fun _ => rfl) (fun _ => rfl) fun q12 => ?_
              refine zz_goto F (tgt := 133) dX5_settle_108 (by decide) ?_
              exact zz_return F dX5_settle_133 rfl (hκ _)
          · refine zz_aload_n F (i := 0) dX5_settle_84 rfl rfl ?_
            refine zz_aload_n F (i := 0) dX5_settle_85 rfl rfl ?_
            refine zz_bind ?_
            refine zz_callVr F (ρ := [0]) (so := fun q13 => [zi q13, zr 0 7 i]) (Mo := fun q13 => [s0]) (zfTu_wornPart i hi s0) dX5_settle_86 wcRX5_84 wy_yX5_wornPart rfl ⟨rel3, rfl, rfl, Nat.le_of_ble_eq_true rfl, Nat.le_of_ble_eq_true rfl, Nat.le_of_ble_eq_true rfl⟩ (⟨zlb rfl, zlb rfl, hi⟩) rfl rfl rfl (fun _ => rfl) (fun _ => rfl) fun q13 => ?_
            refine zz_bind ?_
            refine zz_callVr F (ρ := [0]) (so := fun q14 => []) (Mo := fun q14 => [q14]) (zfTu_fault i q13 hi s0) dX5_settle_89 wcRX5_88 wy_yX5_fault rfl ⟨rel3, rfl, rfl, Nat.le_of_ble_eq_true rfl, Nat.le_of_ble_eq_true rfl, Nat.le_of_ble_eq_true rfl⟩ (⟨zlb rfl, zlb rfl, hi⟩) rfl rfl rfl (fun _ => rfl) (fun _ => rfl) fun q14 => ?_
            refine zz_goto F (tgt := 133) dX5_settle_92 (by decide) ?_
            exact zz_return F dX5_settle_133 rfl (hκ _)
      · refine zz_iload_n F (i := 3) dX5_settle_49 rfl rfl ?_
        refine zz_iconst F (v := (3 : Int32)) dX5_settle_50 (by decide) ?_
        refine zz_icmp_lt F (tgt := 60) dX5_settle_51 (by decide) (fun h => zz_t h ?_) (fun h => zz_f h ?_)
        · refine zz_aload_n F (i := 0) dX5_settle_60 rfl rfl ?_
          refine zz_iconst F (v := (0 : Int32)) dX5_settle_61 (by decide) ?_
          refine zz_bind ?_
          refine zz_callVr F (ρ := [0]) (so := fun q15 => []) (Mo := fun q15 => [q15]) (zfTu_stop i (0 : Int32) hi s0) dX5_settle_62 wcRX5_81 wy_yX5_stop rfl ⟨rel3, rfl, rfl, Nat.le_of_ble_eq_true rfl, Nat.le_of_ble_eq_true rfl, Nat.le_of_ble_eq_true rfl⟩ (⟨zlb rfl, zlb rfl, hi⟩) rfl rfl rfl (fun _ => rfl) (fun _ => rfl) fun q15 => ?_
          refine zz_goto F (tgt := 133) dX5_settle_65 (by decide) ?_
          exact zz_return F dX5_settle_133 rfl (hκ _)
        · refine zz_iload_n F (i := 3) dX5_settle_54 rfl rfl ?_
          refine zz_bipush F (v := (25 : Int32)) dX5_settle_55 (by decide) ?_
          refine zz_icmp_le F (tgt := 68) dX5_settle_57 (by decide) (fun h => zz_t h ?_) (fun h => zz_f h ?_)
          · refine zz_aload_n F (i := 0) dX5_settle_68 rfl rfl ?_
            refine zz_getf F dX5_settle_69 wfRX5_9 zCl_5 rfl (⟨zlb rfl, zlb rfl, hi⟩) rfl (by decide) rfl rfl ?_
            refine zz_iconst F (v := (2 : Int32)) dX5_settle_72 (by decide) ?_
            refine zz_icmp_ne F (tgt := 95) dX5_settle_73 (by decide) (fun h => zz_f h ?_) (fun h => zz_t h ?_)
            · refine zz_aload_n F (i := 0) dX5_settle_95 rfl rfl ?_
              refine zz_getf F dX5_settle_96 wfRX5_9 zCl_5 rfl (⟨zlb rfl, zlb rfl, hi⟩) rfl (by decide) rfl rfl ?_
              refine zz_iconst F (v := (1 : Int32)) dX5_settle_99 (by decide) ?_
              refine zz_icmp_ne F (tgt := 111) dX5_settle_100 (by decide) (fun h => zz_f h ?_) (fun h => zz_t h ?_)
              · refine zz_aload_n F (i := 0) dX5_settle_111 rfl rfl ?_
                refine zz_getf F dX5_settle_112 wfRX5_9 zCl_5 rfl (⟨zlb rfl, zlb rfl, hi⟩) rfl (by decide) rfl rfl ?_
                refine zz_if_ne F (tgt := 133) dX5_settle_115 (by decide) (fun h => zz_f h ?_) (fun h => zz_t h ?_)
                · exact zz_return F dX5_settle_133 rfl (hκ _)
                · refine zz_aload_n F (i := 0) dX5_settle_118 rfl rfl ?_
                  refine zz_iload_n F (i := 3) dX5_settle_119 rfl rfl ?_
                  refine zz_iload F (i := 4) dX5_settle_120 rfl ?_
                  refine zz_bind ?_
                  refine zz_callVr F (ρ := [0]) (so := fun q16 => [zi q16]) (Mo := fun q16 => [s0]) (zfTu_mayStart i v1 q2 hi s0) dX5_settle_122 wcRX5_91 wy_yX5_mayStart rfl ⟨rel3, rfl, rfl, Nat.le_of_ble_eq_true rfl, Nat.le_of_ble_eq_true rfl, Nat.le_of_ble_eq_true rfl⟩ (⟨zlb rfl, zlb rfl, hi⟩) rfl rfl rfl (fun _ => rfl) (fun _ => rfl) fun q16 => ?_
                  refine zz_if_eq F (tgt := 133) dX5_settle_125 (by decide) (fun h => zz_t h ?_) (fun h => zz_f h ?_)
                  · exact zz_return F dX5_settle_133 rfl (hκ _)
                  · refine zz_aload_n F (i := 0) dX5_settle_128 rfl rfl ?_
                    refine zz_iconst F (v := (1 : Int32)) dX5_settle_129 (by decide) ?_
                    refine zz_bind ?_
                    refine zz_callVr F (ρ := [0]) (so := fun q17 => []) (Mo := fun q17 => [q17]) (zfTu_become i (1 : Int32) hi s0) dX5_settle_130 wcRX5_69 wy_yX5_become rfl ⟨rel3, rfl, rfl, Nat.le_of_ble_eq_true rfl, Nat.le_of_ble_eq_true rfl, Nat.le_of_ble_eq_true rfl⟩ (⟨zlb rfl, zlb rfl, hi⟩) rfl rfl rfl (fun _ => rfl) (fun _ => rfl) fun q17 => ?_
                    exact zz_return F dX5_settle_133 rfl (hκ _)
              · refine zz_aload_n F (i := 0) dX5_settle_103 rfl rfl ?_
                refine zz_iconst F (v := (2 : Int32)) dX5_settle_104 (by decide) ?_
                refine zz_bind ?_
                refine zz_callVr F (ρ := [0]) (so := fun q18 => []) (Mo := fun q18 => [q18]) (zfTu_become i (2 : Int32) hi s0) dX5_settle_105 wcRX5_69 wy_yX5_become rfl ⟨rel3, rfl, rfl, Nat.le_of_ble_eq_true rfl, Nat.le_of_ble_eq_true rfl, Nat.le_of_ble_eq_true rfl⟩ (⟨zlb rfl, zlb rfl, hi⟩) rfl rfl rfl (fun _ => rfl) (fun _ => rfl) fun q18 => ?_
                refine zz_goto F (tgt := 133) dX5_settle_108 (by decide) ?_
                exact zz_return F dX5_settle_133 rfl (hκ _)
            · refine zz_aload_n F (i := 0) dX5_settle_76 rfl rfl ?_
              refine zz_bind ?_
              refine zz_callVr F (ρ := [0]) (so := fun q19 => [zi q19]) (Mo := fun q19 => [s0]) (zfTu_wornPart i hi s0) dX5_settle_77 wcRX5_84 wy_yX5_wornPart rfl ⟨rel3, rfl, rfl, Nat.le_of_ble_eq_true rfl, Nat.le_of_ble_eq_true rfl, Nat.le_of_ble_eq_true rfl⟩ (⟨zlb rfl, zlb rfl, hi⟩) rfl rfl rfl (fun _ => rfl) (fun _ => rfl) fun q19 => ?_
              refine zz_iconst F (v := (-1 : Int32)) dX5_settle_80 (by decide) ?_
              refine zz_icmp_eq F (tgt := 95) dX5_settle_81 (by decide) (fun h => zz_t h ?_) (fun h => zz_f h ?_)
              · refine zz_aload_n F (i := 0) dX5_settle_95 rfl rfl ?_
                refine zz_getf F dX5_settle_96 wfRX5_9 zCl_5 rfl (⟨zlb rfl, zlb rfl, hi⟩) rfl (by decide) rfl rfl ?_
                refine zz_iconst F (v := (1 : Int32)) dX5_settle_99 (by decide) ?_
                refine zz_icmp_ne F (tgt := 111) dX5_settle_100 (by decide) (fun h => zz_f h ?_) (fun h => zz_t h ?_)
                · refine zz_aload_n F (i := 0) dX5_settle_111 rfl rfl ?_
                  refine zz_getf F dX5_settle_112 wfRX5_9 zCl_5 rfl (⟨zlb rfl, zlb rfl, hi⟩) rfl (by decide) rfl rfl ?_
                  refine zz_if_ne F (tgt := 133) dX5_settle_115 (by decide) (fun h => zz_f h ?_) (fun h => zz_t h ?_)
                  · exact zz_return F dX5_settle_133 rfl (hκ _)
                  · refine zz_aload_n F (i := 0) dX5_settle_118 rfl rfl ?_
                    refine zz_iload_n F (i := 3) dX5_settle_119 rfl rfl ?_
                    refine zz_iload F (i := 4) dX5_settle_120 rfl ?_
                    refine zz_bind ?_
                    refine zz_callVr F (ρ := [0]) (so := fun q20 => [zi q20]) (Mo := fun q20 => [s0]) (zfTu_mayStart i v1 q2 hi s0) dX5_settle_122 wcRX5_91 wy_yX5_mayStart rfl ⟨rel3, rfl, rfl, Nat.le_of_ble_eq_true rfl, Nat.le_of_ble_eq_true rfl, Nat.le_of_ble_eq_true rfl⟩ (⟨zlb rfl, zlb rfl, hi⟩) rfl rfl rfl (fun _ => rfl) (fun _ => rfl) fun q20 => ?_
                    refine zz_if_eq F (tgt := 133) dX5_settle_125 (by decide) (fun h => zz_t h ?_) (fun h => zz_f h ?_)
                    · exact zz_return F dX5_settle_133 rfl (hκ _)
                    · refine zz_aload_n F (i := 0) dX5_settle_128 rfl rfl ?_
                      refine zz_iconst F (v := (1 : Int32)) dX5_settle_129 (by decide) ?_
                      refine zz_bind ?_
                      refine zz_callVr F (ρ := [0]) (so := fun q21 => []) (Mo := fun q21 => [q21]) (zfTu_become i (1 : Int32) hi s0) dX5_settle_130 wcRX5_69 wy_yX5_become rfl ⟨rel3, rfl, rfl, Nat.le_of_ble_eq_true rfl, Nat.le_of_ble_eq_true rfl, Nat.le_of_ble_eq_true rfl⟩ (⟨zlb rfl, zlb rfl, hi⟩) rfl rfl rfl (fun _ => rfl) (fun _ => rfl) fun q21 => ?_
                      exact zz_return F dX5_settle_133 rfl (hκ _)
                · refine zz_aload_n F (i := 0) dX5_settle_103 rfl rfl ?_
                  refine zz_iconst F (v := (2 : Int32)) dX5_settle_104 (by decide) ?_
                  refine zz_bind ?_
                  refine zz_callVr F (ρ := [0]) (so := fun q22 => []) (Mo := fun q22 => [q22]) (zfTu_become i (2 : Int32) hi s0) dX5_settle_105 wcRX5_69 wy_yX5_become rfl ⟨rel3, rfl, rfl, Nat.le_of_ble_eq_true rfl, Nat.le_of_ble_eq_true rfl, Nat.le_of_ble_eq_true rfl⟩ (⟨zlb rfl, zlb rfl, hi⟩) rfl rfl rfl (fun _ => rfl) (fun _ => rfl) fun q22 => ?_
                  refine zz_goto F (tgt := 133) dX5_settle_108 (by decide) ?_
                  exact zz_return F dX5_settle_133 rfl (hκ _)
              · refine zz_aload_n F (i := 0) dX5_settle_84 rfl rfl ?_
                refine zz_aload_n F (i := 0) dX5_settle_85 rfl rfl ?_
                refine zz_bind ?_
                refine zz_callVr F (ρ := [0]) (so := fun q23 => [zi q23, zr 0 7 i]) (Mo := fun q23 => [s0]) (zfTu_wornPart i hi s0) dX5_settle_86 wcRX5_84 wy_yX5_wornPart rfl ⟨rel3, rfl, rfl, Nat.le_of_ble_eq_true rfl, Nat.le_of_ble_eq_true rfl, Nat.le_of_ble_eq_true rfl⟩ (⟨zlb rfl, zlb rfl, hi⟩) rfl rfl rfl (fun _ => rfl) (fun _ => rfl) fun q23 => ?_
                refine zz_bind ?_
                refine zz_callVr F (ρ := [0]) (so := fun q24 => []) (Mo := fun q24 => [q24]) (zfTu_fault i q23 hi s0) dX5_settle_89 wcRX5_88 wy_yX5_fault rfl ⟨rel3, rfl, rfl, Nat.le_of_ble_eq_true rfl, Nat.le_of_ble_eq_true rfl, Nat.le_of_ble_eq_true rfl⟩ (⟨zlb rfl, zlb rfl, hi⟩) rfl rfl rfl (fun _ => rfl) (fun _ => rfl) fun q24 => ?_
                refine zz_goto F (tgt := 133) dX5_settle_92 (by decide) ?_
                exact zz_return F dX5_settle_133 rfl (hκ _)
          · refine zz_aload_n F (i := 0) dX5_settle_60 rfl rfl ?_
            refine zz_iconst F (v := (0 : Int32)) dX5_settle_61 (by decide) ?_
            refine zz_bind ?_
            refine zz_callVr F (ρ := [0]) (so := fun q25 => []) (Mo := fun q25 => [q25]) (zfTu_stop i (0 : Int32) hi s0) dX5_settle_62 wcRX5_81 wy_yX5_stop rfl ⟨rel3, rfl, rfl, Nat.le_of_ble_eq_true rfl, Nat.le_of_ble_eq_true rfl, Nat.le_of_ble_eq_true rfl⟩ (⟨zlb rfl, zlb rfl, hi⟩) rfl rfl rfl (fun _ => rfl) (fun _ => rfl) fun q25 => ?_
            refine zz_goto F (tgt := 133) dX5_settle_65 (by decide) ?_
            exact zz_return F dX5_settle_133 rfl (hκ _)
    · refine zz_iload F (i := 4) dX5_settle_28 rfl ?_
      refine zz_if_eq F (tgt := 41) dX5_settle_30 (by decide) (fun h => zz_t h ?_) (fun h => zz_f h ?_)
      · refine zz_aload_n F (i := 0) dX5_settle_41 rfl rfl ?_
        refine zz_getf F dX5_settle_42 wfRX5_9 zCl_5 rfl (⟨zlb rfl, zlb rfl, hi⟩) rfl (by decide) rfl rfl ?_
        refine zz_iconst F (v := (2 : Int32)) dX5_settle_45 (by decide) ?_
        refine zz_icmp_ne F (tgt := 68) dX5_settle_46 (by decide) (fun h => zz_f h ?_) (fun h => zz_t h ?_)
        · refine zz_aload_n F (i := 0) dX5_settle_68 rfl rfl ?_
          refine zz_getf F dX5_settle_69 wfRX5_9 zCl_5 rfl (⟨zlb rfl, zlb rfl, hi⟩) rfl (by decide) rfl rfl ?_
          refine zz_iconst F (v := (2 : Int32)) dX5_settle_72 (by decide) ?_
          refine zz_icmp_ne F (tgt := 95) dX5_settle_73 (by decide) (fun h => zz_f h ?_) (fun h => zz_t h ?_)
          · refine zz_aload_n F (i := 0) dX5_settle_95 rfl rfl ?_
            refine zz_getf F dX5_settle_96 wfRX5_9 zCl_5 rfl (⟨zlb rfl, zlb rfl, hi⟩) rfl (by decide) rfl rfl ?_
            refine zz_iconst F (v := (1 : Int32)) dX5_settle_99 (by decide) ?_
            refine zz_icmp_ne F (tgt := 111) dX5_settle_100 (by decide) (fun h => zz_f h ?_) (fun h => zz_t h ?_)
            · refine zz_aload_n F (i := 0) dX5_settle_111 rfl rfl ?_
              refine zz_getf F dX5_settle_112 wfRX5_9 zCl_5 rfl (⟨zlb rfl, zlb rfl, hi⟩) rfl (by decide) rfl rfl ?_
              refine zz_if_ne F (tgt := 133) dX5_settle_115 (by decide) (fun h => zz_f h ?_) (fun h => zz_t h ?_)
              · exact zz_return F dX5_settle_133 rfl (hκ _)
              · refine zz_aload_n F (i := 0) dX5_settle_118 rfl rfl ?_
                refine zz_iload_n F (i := 3) dX5_settle_119 rfl rfl ?_
                refine zz_iload F (i := 4) dX5_settle_120 rfl ?_
                refine zz_bind ?_
                refine zz_callVr F (ρ := [0]) (so := fun q26 => [zi q26]) (Mo := fun q26 => [s0]) (zfTu_mayStart i v1 q2 hi s0) dX5_settle_122 wcRX5_91 wy_yX5_mayStart rfl ⟨rel3, rfl, rfl, Nat.le_of_ble_eq_true rfl, Nat.le_of_ble_eq_true rfl, Nat.le_of_ble_eq_true rfl⟩ (⟨zlb rfl, zlb rfl, hi⟩) rfl rfl rfl (fun _ => rfl) (fun _ => rfl) fun q26 => ?_
                refine zz_if_eq F (tgt := 133) dX5_settle_125 (by decide) (fun h => zz_t h ?_) (fun h => zz_f h ?_)
                · exact zz_return F dX5_settle_133 rfl (hκ _)
                · refine zz_aload_n F (i := 0) dX5_settle_128 rfl rfl ?_
                  refine zz_iconst F (v := (1 : Int32)) dX5_settle_129 (by decide) ?_
                  refine zz_bind ?_
                  refine zz_callVr F (ρ := [0]) (so := fun q27 => []) (Mo := fun q27 => [q27]) (zfTu_become i (1 : Int32) hi s0) dX5_settle_130 wcRX5_69 wy_yX5_become rfl ⟨rel3, rfl, rfl, Nat.le_of_ble_eq_true rfl, Nat.le_of_ble_eq_true rfl, Nat.le_of_ble_eq_true rfl⟩ (⟨zlb rfl, zlb rfl, hi⟩) rfl rfl rfl (fun _ => rfl) (fun _ => rfl) fun q27 => ?_
                  exact zz_return F dX5_settle_133 rfl (hκ _)
            · refine zz_aload_n F (i := 0) dX5_settle_103 rfl rfl ?_
              refine zz_iconst F (v := (2 : Int32)) dX5_settle_104 (by decide) ?_
              refine zz_bind ?_
              refine zz_callVr F (ρ := [0]) (so := fun q28 => []) (Mo := fun q28 => [q28]) (zfTu_become i (2 : Int32) hi s0) dX5_settle_105 wcRX5_69 wy_yX5_become rfl ⟨rel3, rfl, rfl, Nat.le_of_ble_eq_true rfl, Nat.le_of_ble_eq_true rfl, Nat.le_of_ble_eq_true rfl⟩ (⟨zlb rfl, zlb rfl, hi⟩) rfl rfl rfl (fun _ => rfl) (fun _ => rfl) fun q28 => ?_
              refine zz_goto F (tgt := 133) dX5_settle_108 (by decide) ?_
              exact zz_return F dX5_settle_133 rfl (hκ _)
          · refine zz_aload_n F (i := 0) dX5_settle_76 rfl rfl ?_
            refine zz_bind ?_
            refine zz_callVr F (ρ := [0]) (so := fun q29 => [zi q29]) (Mo := fun q29 => [s0]) (zfTu_wornPart i hi s0) dX5_settle_77 wcRX5_84 wy_yX5_wornPart rfl ⟨rel3, rfl, rfl, Nat.le_of_ble_eq_true rfl, Nat.le_of_ble_eq_true rfl, Nat.le_of_ble_eq_true rfl⟩ (⟨zlb rfl, zlb rfl, hi⟩) rfl rfl rfl (fun _ => rfl) (fun _ => rfl) fun q29 => ?_
            refine zz_iconst F (v := (-1 : Int32)) dX5_settle_80 (by decide) ?_
            refine zz_icmp_eq F (tgt := 95) dX5_settle_81 (by decide) (fun h => zz_t h ?_) (fun h => zz_f h ?_)
            · refine zz_aload_n F (i := 0) dX5_settle_95 rfl rfl ?_
              refine zz_getf F dX5_settle_96 wfRX5_9 zCl_5 rfl (⟨zlb rfl, zlb rfl, hi⟩) rfl (by decide) rfl rfl ?_
              refine zz_iconst F (v := (1 : Int32)) dX5_settle_99 (by decide) ?_
              refine zz_icmp_ne F (tgt := 111) dX5_settle_100 (by decide) (fun h => zz_f h ?_) (fun h => zz_t h ?_)
              · refine zz_aload_n F (i := 0) dX5_settle_111 rfl rfl ?_
                refine zz_getf F dX5_settle_112 wfRX5_9 zCl_5 rfl (⟨zlb rfl, zlb rfl, hi⟩) rfl (by decide) rfl rfl ?_
                refine zz_if_ne F (tgt := 133) dX5_settle_115 (by decide) (fun h => zz_f h ?_) (fun h => zz_t h ?_)
                · exact zz_return F dX5_settle_133 rfl (hκ _)
                · refine zz_aload_n F (i := 0) dX5_settle_118 rfl rfl ?_
                  refine zz_iload_n F (i := 3) dX5_settle_119 rfl rfl ?_
                  refine zz_iload F (i := 4) dX5_settle_120 rfl ?_
                  refine zz_bind ?_
                  refine zz_callVr F (ρ := [0]) (so := fun q30 => [zi q30]) (Mo := fun q30 => [s0]) (zfTu_mayStart i v1 q2 hi s0) dX5_settle_122 wcRX5_91 wy_yX5_mayStart rfl ⟨rel3, rfl, rfl, Nat.le_of_ble_eq_true rfl, Nat.le_of_ble_eq_true rfl, Nat.le_of_ble_eq_true rfl⟩ (⟨zlb rfl, zlb rfl, hi⟩) rfl rfl rfl (fun _ => rfl) (fun _ => rfl) fun q30 => ?_
                  refine zz_if_eq F (tgt := 133) dX5_settle_125 (by decide) (fun h => zz_t h ?_) (fun h => zz_f h ?_)
                  · exact zz_return F dX5_settle_133 rfl (hκ _)
                  · refine zz_aload_n F (i := 0) dX5_settle_128 rfl rfl ?_
                    refine zz_iconst F (v := (1 : Int32)) dX5_settle_129 (by decide) ?_
                    refine zz_bind ?_
                    refine zz_callVr F (ρ := [0]) (so := fun q31 => []) (Mo := fun q31 => [q31]) (zfTu_become i (1 : Int32) hi s0) dX5_settle_130 wcRX5_69 wy_yX5_become rfl ⟨rel3, rfl, rfl, Nat.le_of_ble_eq_true rfl, Nat.le_of_ble_eq_true rfl, Nat.le_of_ble_eq_true rfl⟩ (⟨zlb rfl, zlb rfl, hi⟩) rfl rfl rfl (fun _ => rfl) (fun _ => rfl) fun q31 => ?_
                    exact zz_return F dX5_settle_133 rfl (hκ _)
              · refine zz_aload_n F (i := 0) dX5_settle_103 rfl rfl ?_
                refine zz_iconst F (v := (2 : Int32)) dX5_settle_104 (by decide) ?_
                refine zz_bind ?_
                refine zz_callVr F (ρ := [0]) (so := fun q32 => []) (Mo := fun q32 => [q32]) (zfTu_become i (2 : Int32) hi s0) dX5_settle_105 wcRX5_69 wy_yX5_become rfl ⟨rel3, rfl, rfl, Nat.le_of_ble_eq_true rfl, Nat.le_of_ble_eq_true rfl, Nat.le_of_ble_eq_true rfl⟩ (⟨zlb rfl, zlb rfl, hi⟩) rfl rfl rfl (fun _ => rfl) (fun _ => rfl) fun q32 => ?_
                refine zz_goto F (tgt := 133) dX5_settle_108 (by decide) ?_
                exact zz_return F dX5_settle_133 rfl (hκ _)
            · refine zz_aload_n F (i := 0) dX5_settle_84 rfl rfl ?_
              refine zz_aload_n F (i := 0) dX5_settle_85 rfl rfl ?_
              refine zz_bind ?_
              refine zz_callVr F (ρ := [0]) (so := fun q33 => [zi q33, zr 0 7 i]) (Mo := fun q33 => [s0]) (zfTu_wornPart i hi s0) dX5_settle_86 wcRX5_84 wy_yX5_wornPart rfl ⟨rel3, rfl, rfl, Nat.le_of_ble_eq_true rfl, Nat.le_of_ble_eq_true rfl, Nat.le_of_ble_eq_true rfl⟩ (⟨zlb rfl, zlb rfl, hi⟩) rfl rfl rfl (fun _ => rfl) (fun _ => rfl) fun q33 => ?_
              refine zz_bind ?_
              refine zz_callVr F (ρ := [0]) (so := fun q34 => []) (Mo := fun q34 => [q34]) (zfTu_fault i q33 hi s0) dX5_settle_89 wcRX5_88 wy_yX5_fault rfl ⟨rel3, rfl, rfl, Nat.le_of_ble_eq_true rfl, Nat.le_of_ble_eq_true rfl, Nat.le_of_ble_eq_true rfl⟩ (⟨zlb rfl, zlb rfl, hi⟩) rfl rfl rfl (fun _ => rfl) (fun _ => rfl) fun q34 => ?_
              refine zz_goto F (tgt := 133) dX5_settle_92 (by decide) ?_
              exact zz_return F dX5_settle_133 rfl (hκ _)
        · refine zz_iload_n F (i := 3) dX5_settle_49 rfl rfl ?_
          refine zz_iconst F (v := (3 : Int32)) dX5_settle_50 (by decide) ?_
          refine zz_icmp_lt F (tgt := 60) dX5_settle_51 (by decide) (fun h => zz_t h ?_) (fun h => zz_f h ?_)
          · refine zz_aload_n F (i := 0) dX5_settle_60 rfl rfl ?_
            refine zz_iconst F (v := (0 : Int32)) dX5_settle_61 (by decide) ?_
            refine zz_bind ?_
            refine zz_callVr F (ρ := [0]) (so := fun q35 => []) (Mo := fun q35 => [q35]) (zfTu_stop i (0 : Int32) hi s0) dX5_settle_62 wcRX5_81 wy_yX5_stop rfl ⟨rel3, rfl, rfl, Nat.le_of_ble_eq_true rfl, Nat.le_of_ble_eq_true rfl, Nat.le_of_ble_eq_true rfl⟩ (⟨zlb rfl, zlb rfl, hi⟩) rfl rfl rfl (fun _ => rfl) (fun _ => rfl) fun q35 => ?_
            refine zz_goto F (tgt := 133) dX5_settle_65 (by decide) ?_
            exact zz_return F dX5_settle_133 rfl (hκ _)
          · refine zz_iload_n F (i := 3) dX5_settle_54 rfl rfl ?_
            refine zz_bipush F (v := (25 : Int32)) dX5_settle_55 (by decide) ?_
            refine zz_icmp_le F (tgt := 68) dX5_settle_57 (by decide) (fun h => zz_t h ?_) (fun h => zz_f h ?_)
            · refine zz_aload_n F (i := 0) dX5_settle_68 rfl rfl ?_
              refine zz_getf F dX5_settle_69 wfRX5_9 zCl_5 rfl (⟨zlb rfl, zlb rfl, hi⟩) rfl (by decide) rfl rfl ?_
              refine zz_iconst F (v := (2 : Int32)) dX5_settle_72 (by decide) ?_
              refine zz_icmp_ne F (tgt := 95) dX5_settle_73 (by decide) (fun h => zz_f h ?_) (fun h => zz_t h ?_)
              · refine zz_aload_n F (i := 0) dX5_settle_95 rfl rfl ?_
                refine zz_getf F dX5_settle_96 wfRX5_9 zCl_5 rfl (⟨zlb rfl, zlb rfl, hi⟩) rfl (by decide) rfl rfl ?_
                refine zz_iconst F (v := (1 : Int32)) dX5_settle_99 (by decide) ?_
                refine zz_icmp_ne F (tgt := 111) dX5_settle_100 (by decide) (fun h => zz_f h ?_) (fun h => zz_t h ?_)
                · refine zz_aload_n F (i := 0) dX5_settle_111 rfl rfl ?_
                  refine zz_getf F dX5_settle_112 wfRX5_9 zCl_5 rfl (⟨zlb rfl, zlb rfl, hi⟩) rfl (by decide) rfl rfl ?_
                  refine zz_if_ne F (tgt := 133) dX5_settle_115 (by decide) (fun h => zz_f h ?_) (fun h => zz_t h ?_)
                  · exact zz_return F dX5_settle_133 rfl (hκ _)
                  · refine zz_aload_n F (i := 0) dX5_settle_118 rfl rfl ?_
                    refine zz_iload_n F (i := 3) dX5_settle_119 rfl rfl ?_
                    refine zz_iload F (i := 4) dX5_settle_120 rfl ?_
                    refine zz_bind ?_
                    refine zz_callVr F (ρ := [0]) (so := fun q36 => [zi q36]) (Mo := fun q36 => [s0]) (zfTu_mayStart i v1 q2 hi s0) dX5_settle_122 wcRX5_91 wy_yX5_mayStart rfl ⟨rel3, rfl, rfl, Nat.le_of_ble_eq_true rfl, Nat.le_of_ble_eq_true rfl, Nat.le_of_ble_eq_true rfl⟩ (⟨zlb rfl, zlb rfl, hi⟩) rfl rfl rfl (fun _ => rfl) (fun _ => rfl) fun q36 => ?_
                    refine zz_if_eq F (tgt := 133) dX5_settle_125 (by decide) (fun h => zz_t h ?_) (fun h => zz_f h ?_)
                    · exact zz_return F dX5_settle_133 rfl (hκ _)
                    · refine zz_aload_n F (i := 0) dX5_settle_128 rfl rfl ?_
                      refine zz_iconst F (v := (1 : Int32)) dX5_settle_129 (by decide) ?_
                      refine zz_bind ?_
                      refine zz_callVr F (ρ := [0]) (so := fun q37 => []) (Mo := fun q37 => [q37]) (zfTu_become i (1 : Int32) hi s0) dX5_settle_130 wcRX5_69 wy_yX5_become rfl ⟨rel3, rfl, rfl, Nat.le_of_ble_eq_true rfl, Nat.le_of_ble_eq_true rfl, Nat.le_of_ble_eq_true rfl⟩ (⟨zlb rfl, zlb rfl, hi⟩) rfl rfl rfl (fun _ => rfl) (fun _ => rfl) fun q37 => ?_
                      exact zz_return F dX5_settle_133 rfl (hκ _)
                · refine zz_aload_n F (i := 0) dX5_settle_103 rfl rfl ?_
                  refine zz_iconst F (v := (2 : Int32)) dX5_settle_104 (by decide) ?_
                  refine zz_bind ?_
                  refine zz_callVr F (ρ := [0]) (so := fun q38 => []) (Mo := fun q38 => [q38]) (zfTu_become i (2 : Int32) hi s0) dX5_settle_105 wcRX5_69 wy_yX5_become rfl ⟨rel3, rfl, rfl, Nat.le_of_ble_eq_true rfl, Nat.le_of_ble_eq_true rfl, Nat.le_of_ble_eq_true rfl⟩ (⟨zlb rfl, zlb rfl, hi⟩) rfl rfl rfl (fun _ => rfl) (fun _ => rfl) fun q38 => ?_
                  refine zz_goto F (tgt := 133) dX5_settle_108 (by decide) ?_
                  exact zz_return F dX5_settle_133 rfl (hκ _)
              · refine zz_aload_n F (i := 0) dX5_settle_76 rfl rfl ?_
                refine zz_bind ?_
                refine zz_callVr F (ρ := [0]) (so := fun q39 => [zi q39]) (Mo := fun q39 => [s0]) (zfTu_wornPart i hi s0) dX5_settle_77 wcRX5_84 wy_yX5_wornPart rfl ⟨rel3, rfl, rfl, Nat.le_of_ble_eq_true rfl, Nat.le_of_ble_eq_true rfl, Nat.le_of_ble_eq_true rfl⟩ (⟨zlb rfl, zlb rfl, hi⟩) rfl rfl rfl (fun _ => rfl) (fun _ => rfl) fun q39 => ?_
                refine zz_iconst F (v := (-1 : Int32)) dX5_settle_80 (by decide) ?_
                refine zz_icmp_eq F (tgt := 95) dX5_settle_81 (by decide) (fun h => zz_t h ?_) (fun h => zz_f h ?_)
                · refine zz_aload_n F (i := 0) dX5_settle_95 rfl rfl ?_
                  refine zz_getf F dX5_settle_96 wfRX5_9 zCl_5 rfl (⟨zlb rfl, zlb rfl, hi⟩) rfl (by decide) rfl rfl ?_
                  refine zz_iconst F (v := (1 : Int32)) dX5_settle_99 (by decide) ?_
                  refine zz_icmp_ne F (tgt := 111) dX5_settle_100 (by decide) (fun h => zz_f h ?_) (fun h => zz_t h ?_)
                  · refine zz_aload_n F (i := 0) dX5_settle_111 rfl rfl ?_
                    refine zz_getf F dX5_settle_112 wfRX5_9 zCl_5 rfl (⟨zlb rfl, zlb rfl, hi⟩) rfl (by decide) rfl rfl ?_
                    refine zz_if_ne F (tgt := 133) dX5_settle_115 (by decide) (fun h => zz_f h ?_) (fun h => zz_t h ?_)
                    · exact zz_return F dX5_settle_133 rfl (hκ _)
                    · refine zz_aload_n F (i := 0) dX5_settle_118 rfl rfl ?_
                      refine zz_iload_n F (i := 3) dX5_settle_119 rfl rfl ?_
                      refine zz_iload F (i := 4) dX5_settle_120 rfl ?_
                      refine zz_bind ?_
                      refine zz_callVr F (ρ := [0]) (so := fun q40 => [zi q40]) (Mo := fun q40 => [s0]) (zfTu_mayStart i v1 q2 hi s0) dX5_settle_122 wcRX5_91 wy_yX5_mayStart rfl ⟨rel3, rfl, rfl, Nat.le_of_ble_eq_true rfl, Nat.le_of_ble_eq_true rfl, Nat.le_of_ble_eq_true rfl⟩ (⟨zlb rfl, zlb rfl, hi⟩) rfl rfl rfl (fun _ => rfl) (fun _ => rfl) fun q40 => ?_
                      refine zz_if_eq F (tgt := 133) dX5_settle_125 (by decide) (fun h => zz_t h ?_) (fun h => zz_f h ?_)
                      · exact zz_return F dX5_settle_133 rfl (hκ _)
                      · refine zz_aload_n F (i := 0) dX5_settle_128 rfl rfl ?_
                        refine zz_iconst F (v := (1 : Int32)) dX5_settle_129 (by decide) ?_
                        refine zz_bind ?_
                        refine zz_callVr F (ρ := [0]) (so := fun q41 => []) (Mo := fun q41 => [q41]) (zfTu_become i (1 : Int32) hi s0) dX5_settle_130 wcRX5_69 wy_yX5_become rfl ⟨rel3, rfl, rfl, Nat.le_of_ble_eq_true rfl, Nat.le_of_ble_eq_true rfl, Nat.le_of_ble_eq_true rfl⟩ (⟨zlb rfl, zlb rfl, hi⟩) rfl rfl rfl (fun _ => rfl) (fun _ => rfl) fun q41 => ?_
                        exact zz_return F dX5_settle_133 rfl (hκ _)
                  · refine zz_aload_n F (i := 0) dX5_settle_103 rfl rfl ?_
                    refine zz_iconst F (v := (2 : Int32)) dX5_settle_104 (by decide) ?_
                    refine zz_bind ?_
                    refine zz_callVr F (ρ := [0]) (so := fun q42 => []) (Mo := fun q42 => [q42]) (zfTu_become i (2 : Int32) hi s0) dX5_settle_105 wcRX5_69 wy_yX5_become rfl ⟨rel3, rfl, rfl, Nat.le_of_ble_eq_true rfl, Nat.le_of_ble_eq_true rfl, Nat.le_of_ble_eq_true rfl⟩ (⟨zlb rfl, zlb rfl, hi⟩) rfl rfl rfl (fun _ => rfl) (fun _ => rfl) fun q42 => ?_
                    refine zz_goto F (tgt := 133) dX5_settle_108 (by decide) ?_
                    exact zz_return F dX5_settle_133 rfl (hκ _)
                · refine zz_aload_n F (i := 0) dX5_settle_84 rfl rfl ?_
                  refine zz_aload_n F (i := 0) dX5_settle_85 rfl rfl ?_
                  refine zz_bind ?_
                  refine zz_callVr F (ρ := [0]) (so := fun q43 => [zi q43, zr 0 7 i]) (Mo := fun q43 => [s0]) (zfTu_wornPart i hi s0) dX5_settle_86 wcRX5_84 wy_yX5_wornPart rfl ⟨rel3, rfl, rfl, Nat.le_of_ble_eq_true rfl, Nat.le_of_ble_eq_true rfl, Nat.le_of_ble_eq_true rfl⟩ (⟨zlb rfl, zlb rfl, hi⟩) rfl rfl rfl (fun _ => rfl) (fun _ => rfl) fun q43 => ?_
                  refine zz_bind ?_
                  refine zz_callVr F (ρ := [0]) (so := fun q44 => []) (Mo := fun q44 => [q44]) (zfTu_fault i q43 hi s0) dX5_settle_89 wcRX5_88 wy_yX5_fault rfl ⟨rel3, rfl, rfl, Nat.le_of_ble_eq_true rfl, Nat.le_of_ble_eq_true rfl, Nat.le_of_ble_eq_true rfl⟩ (⟨zlb rfl, zlb rfl, hi⟩) rfl rfl rfl (fun _ => rfl) (fun _ => rfl) fun q44 => ?_
                  refine zz_goto F (tgt := 133) dX5_settle_92 (by decide) ?_
                  exact zz_return F dX5_settle_133 rfl (hκ _)
            · refine zz_aload_n F (i := 0) dX5_settle_60 rfl rfl ?_
              refine zz_iconst F (v := (0 : Int32)) dX5_settle_61 (by decide) ?_
              refine zz_bind ?_
              refine zz_callVr F (ρ := [0]) (so := fun q45 => []) (Mo := fun q45 => [q45]) (zfTu_stop i (0 : Int32) hi s0) dX5_settle_62 wcRX5_81 wy_yX5_stop rfl ⟨rel3, rfl, rfl, Nat.le_of_ble_eq_true rfl, Nat.le_of_ble_eq_true rfl, Nat.le_of_ble_eq_true rfl⟩ (⟨zlb rfl, zlb rfl, hi⟩) rfl rfl rfl (fun _ => rfl) (fun _ => rfl) fun q45 => ?_
              refine zz_goto F (tgt := 133) dX5_settle_65 (by decide) ?_
              exact zz_return F dX5_settle_133 rfl (hκ _)
      · refine zz_aload_n F (i := 0) dX5_settle_33 rfl rfl ?_
        refine zz_iconst F (v := (2 : Int32)) dX5_settle_34 (by decide) ?_
        refine zz_bind ?_
        refine zz_callVr F (ρ := [0]) (so := fun q46 => []) (Mo := fun q46 => [q46]) (zfTu_stop i (2 : Int32) hi s0) dX5_settle_35 wcRX5_81 wy_yX5_stop rfl ⟨rel3, rfl, rfl, Nat.le_of_ble_eq_true rfl, Nat.le_of_ble_eq_true rfl, Nat.le_of_ble_eq_true rfl⟩ (⟨zlb rfl, zlb rfl, hi⟩) rfl rfl rfl (fun _ => rfl) (fun _ => rfl) fun q46 => ?_
        refine zz_goto F (tgt := 133) dX5_settle_38 (by decide) ?_
        exact zz_return F dX5_settle_133 rfl (hκ _)
  · refine zz_icmp_ge F (tgt := 17) dX5_settle_10 (by decide) (fun h => zz_t h ?_) (fun h => zz_f h ?_)
    · refine zz_iconst F (v := (0 : Int32)) dX5_settle_17 (by decide) ?_
      exact zz_sub (zs_k (zs_n (zs_n (zs_k (zs_k zs_z))))) (hj3 (0 : Int32))
    · refine zz_iconst F (v := (1 : Int32)) dX5_settle_13 (by decide) ?_
      refine zz_goto F (tgt := 18) dX5_settle_14 (by decide) ?_
      exact zz_sub (zs_k (zs_n (zs_n (zs_k (zs_k zs_z))))) (hj3 (1 : Int32))
theorem zfTu_settle (i : Nat) (a2 : Int32) (hi : i < 8) (s0 : zM) : ∀ a, fTu_settle i a2 s0 = some a → zMet yX5_settle cX5_settle 5 none 2 42 [(0, [])] [zr 0 7 i, zr 0 4 0, zi a2] [s0] ((fun a => ((.inl ((fun _ => (none : Option zV)) a), (fun q => [q]) a) : zO)) a) := fun a ha => zMet_of (L0 := [some (zr 0 7 i), some (zr 0 4 0), some (zi a2), none, none]) (φ := Option.bind (fTu_settle i a2 s0) (fun a => some ((fun a => ((.inl ((fun _ => (none : Option zV)) a), (fun q => [q]) a) : zO)) a))) (by decide) (fun _ => Nat.le_of_ble_eq_true rfl) (zl0 2 rfl) (fun X F => bfTu_settle F i a2 hi s0 (fun _ => rfl)) (by rw [ha]; rfl)
