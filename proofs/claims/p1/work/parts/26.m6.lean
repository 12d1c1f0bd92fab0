theorem dX3_isDaylight_0 : decode cX3_isDaylight 0 = .ok (.aload_n 0, 1) := by decide +kernel
theorem dX3_isDaylight_1 : decode cX3_isDaylight 1 = .ok (.getfield 74, 3) := by decide +kernel
theorem dX3_isDaylight_4 : decode cX3_isDaylight 4 = .ok (.bipush 24, 2) := by decide +kernel
theorem dX3_isDaylight_6 : decode cX3_isDaylight 6 = .ok (.irem, 1) := by decide +kernel
theorem dX3_isDaylight_7 : decode cX3_isDaylight 7 = .ok (.istore_n 1, 1) := by decide +kernel
theorem dX3_isDaylight_8 : decode cX3_isDaylight 8 = .ok (.iload_n 1, 1) := by decide +kernel
theorem dX3_isDaylight_9 : decode cX3_isDaylight 9 = .ok (.bipush 7, 2) := by decide +kernel
theorem dX3_isDaylight_11 : decode cX3_isDaylight 11 = .ok (.if_icmp .lt 13, 3) := by decide +kernel
theorem dX3_isDaylight_14 : decode cX3_isDaylight 14 = .ok (.iload_n 1, 1) := by decide +kernel
theorem dX3_isDaylight_15 : decode cX3_isDaylight 15 = .ok (.bipush 18, 2) := by decide +kernel
theorem dX3_isDaylight_17 : decode cX3_isDaylight 17 = .ok (.if_icmp .gt 7, 3) := by decide +kernel
theorem dX3_isDaylight_20 : decode cX3_isDaylight 20 = .ok (.iconst 1, 1) := by decide +kernel
theorem dX3_isDaylight_21 : decode cX3_isDaylight 21 = .ok (.goto 4, 3) := by decide +kernel
theorem dX3_isDaylight_24 : decode cX3_isDaylight 24 = .ok (.iconst 0, 1) := by decide +kernel
theorem dX3_isDaylight_25 : decode cX3_isDaylight 25 = .ok (.ireturn, 1) := by decide +kernel
def fSe_isDaylight  (s0 : zM) : Option (Int32) :=
  zlet (((s0 0 0 8) % (24 : Int32))) fun v1 =>
  if v1 < (7 : Int32) then
  some (0 : Int32)
else
  if (18 : Int32) < v1 then
    some (0 : Int32)
  else
    some (1 : Int32)
set_option maxHeartbeats 4000000 in
set_option maxRecDepth 20000 in
theorem bfSe_isDaylight {X : zX} (F : zFr X cX3_isDaylight 2 RX3 (some .boolean))   (s0 : zM) {κ : Int32 → Option zO} (hκ : ∀ a, κ a = some ((fun a => ((.inl ((fun q => some (zi q)) a), (fun _ => [s0]) a) : zO)) a)) : zZ X [(0, [])] 0 0 2 0 [some (zr 0 0 0), none] [] [s0] (Option.bind (fSe_isDaylight s0) κ) := by
  unfold fSe_isDaylight
  refine zz_aload_n F (i := 0) dX3_isDaylight_0 rfl rfl ?_
  refine zz_getf F dX3_isDaylight_1 wfRX3_74 zCl_3 rfl (⟨zlb rfl, zlb rfl, zlb rfl⟩) rfl (by decide) rfl rfl ?_
  refine zz_bipush F (v := (24 : Int32)) dX3_isDaylight_4 (by decide) ?_
  refine zz_irem F dX3_isDaylight_6 (by decide) ?_
  refine zz_istore_n F (i := 1) (L' := [some (zr 0 0 0), some (zi ((s0 0 0 8) % (24 : Int32)))]) dX3_isDaylight_7 rfl (by decide) rfl rfl ?_
  refine zz_letl (Lf := fun v1 => [some (zr 0 0 0), some (zi v1)]) fun v1 => ?_
  refine zz_iload_n F (i := 1) dX3_isDaylight_8 rfl rfl ?_
  refine zz_bipush F (v := (7 : Int32)) dX3_isDaylight_9 (by decide) ?_
  refine zz_icmp_lt F (tgt := 24) dX3_isDaylight_11 (by decide) (fun h => zz_t h ?_) (fun h => zz_f h ?_)
  · refine zz_iconst F (v := (0 : Int32)) dX3_isDaylight_24 (by decide) ?_
    exact zz_zreturn F dX3_isDaylight_25 rfl rfl (hκ _)
  · refine zz_iload_n F (i := 1) dX3_isDaylight_14 rfl rfl ?_
    refine zz_bipush F (v := (18 : Int32)) dX3_isDaylight_15 (by decide) ?_
    refine zz_icmp_gt F (tgt := 24) dX3_isDaylight_17 (by decide) (fun h => zz_t h ?_) (fun h => zz_f h ?_)
    · refine zz_iconst F (v := (0 : Int32)) dX3_isDaylight_24 (by decide) ?_
      exact zz_zreturn F dX3_isDaylight_25 rfl rfl (hκ _)
    · refine zz_iconst F (v := (1 : Int32)) dX3_isDaylight_20 (by decide) ?_
      refine zz_goto F (tgt := 25) dX3_isDaylight_21 (by decide) ?_
      exact zz_zreturn F dX3_isDaylight_25 rfl rfl (hκ _)
theorem zfSe_isDaylight   (s0 : zM) : ∀ a, fSe_isDaylight s0 = some a → zMet yX3_isDaylight cX3_isDaylight 2 (some .boolean) 0 0 [(0, [])] [zr 0 0 0] [s0] ((fun a => ((.inl ((fun q => some (zi q)) a), (fun _ => [s0]) a) : zO)) a) := fun a ha => zMet_of (L0 := [some (zr 0 0 0), none]) (φ := Option.bind (fSe_isDaylight s0) (fun a => some ((fun a => ((.inl ((fun q => some (zi q)) a), (fun _ => [s0]) a) : zO)) a))) (by decide) (fun _ => Nat.le_of_ble_eq_true rfl) (zl0 1 rfl) (fun X F => bfSe_isDaylight F s0 (fun _ => rfl)) (by rw [ha]; rfl)

theorem dX6_climbTo_0 : decode cX6_climbTo 0 = .ok (.iload_n 1, 1) := by decide +kernel
theorem dX6_climbTo_1 : decode cX6_climbTo 1 = .ok (.ifCond .lt 8, 3) := by decide +kernel
theorem dX6_climbTo_4 : decode cX6_climbTo 4 = .ok (.iload_n 1, 1) := by decide +kernel
theorem dX6_climbTo_5 : decode cX6_climbTo 5 = .ok (.iconst 3, 1) := by decide +kernel
theorem dX6_climbTo_6 : decode cX6_climbTo 6 = .ok (.if_icmp .lt 4, 3) := by decide +kernel
theorem dX6_climbTo_9 : decode cX6_climbTo 9 = .ok (.return_, 1) := by decide +kernel
theorem dX6_climbTo_10 : decode cX6_climbTo 10 = .ok (.aload_n 0, 1) := by decide +kernel
theorem dX6_climbTo_11 : decode cX6_climbTo 11 = .ok (.iconst 1, 1) := by decide +kernel
theorem dX6_climbTo_12 : decode cX6_climbTo 12 = .ok (.putfield 21, 3) := by decide +kernel
theorem dX6_climbTo_15 : decode cX6_climbTo 15 = .ok (.aload_n 0, 1) := by decide +kernel
theorem dX6_climbTo_16 : decode cX6_climbTo 16 = .ok (.iload_n 1, 1) := by decide +kernel
theorem dX6_climbTo_17 : decode cX6_climbTo 17 = .ok (.putfield 15, 3) := by decide +kernel
theorem dX6_climbTo_20 : decode cX6_climbTo 20 = .ok (.aload_n 0, 1) := by decide +kernel
theorem dX6_climbTo_21 : decode cX6_climbTo 21 = .ok (.getstatic 31, 3) := by decide +kernel
theorem dX6_climbTo_24 : decode cX6_climbTo 24 = .ok (.iload_n 1, 1) := by decide +kernel
theorem dX6_climbTo_25 : decode cX6_climbTo 25 = .ok (.iaload, 1) := by decide +kernel
theorem dX6_climbTo_26 : decode cX6_climbTo 26 = .ok (.putfield 25, 3) := by decide +kernel
theorem dX6_climbTo_29 : decode cX6_climbTo 29 = .ok (.return_, 1) := by decide +kernel
theorem wpRX6_21 : zFw RX6 21 6 2 .boolean := ⟨_, rfl, by decide, zm_f 255 (by decide +kernel) rfl, rfl, by decide +kernel⟩
theorem wgRX6_31 : Cond.fieldLinkNest RX6 31 "WakeBanks" "WORK_HOURS" "[I" "WakeBanks" ∈ zNws := by decide +kernel
def fVe_climbTo (i : Nat) (a1 : Int32) (s0 : zM) : Option (zM) :=
  if a1 < 0 then
  some s0
else
  if a1 < (3 : Int32) then
    zlet (zu s0 13 i 2 (1 : Int32)) fun s0_1 =>
      zlet (zu s0_1 13 i 3 a1) fun s0_2 =>
      zix a1 3 fun j3 =>
      zlet (zu s0_2 13 i 4 (zk3.getD j3 0)) fun s0_4 =>
      some s0_4
  else
    some s0
set_option maxHeartbeats 4000000 in
set_option maxRecDepth 20000 in
theorem bfVe_climbTo {X : zX} (F : zFr X cX6_climbTo 2 RX6 none) (i : Nat) (a1 : Int32) (hi : i < 3) (s0 : zM) {κ : zM → Option zO} (hκ : ∀ a, κ a = some ((fun a => ((.inl ((fun _ => (none : Option zV)) a), (fun q => [q]) a) : zO)) a)) : zZ X [(0, [])] 0 0 2 0 [some (zr 0 13 i), some (zi a1)] [] [s0] (Option.bind (fVe_climbTo i a1 s0) κ) := by
  unfold fVe_climbTo
  refine zz_iload_n F (i := 1) dX6_climbTo_0 rfl rfl ?_
  refine zz_if_lt F (tgt := 9) dX6_climbTo_1 (by decide) (fun h => zz_t h ?_) (fun h => zz_f h ?_)
  · exact zz_return F dX6_climbTo_9 rfl (hκ _)
  · refine zz_iload_n F (i := 1) dX6_climbTo_4 rfl rfl ?_
    refine zz_iconst F (v := (3 : Int32)) dX6_climbTo_5 (by decide) ?_
    refine zz_icmp_lt F (tgt := 10) dX6_climbTo_6 (by decide) (fun h => zz_t h ?_) (fun h => zz_f h ?_)
    · refine zz_aload_n F (i := 0) dX6_climbTo_10 rfl rfl ?_
      refine zz_iconst F (v := (1 : Int32)) dX6_climbTo_11 (by decide) ?_
      refine zz_putb F (Ms' := [(zu s0 13 i 2 (1 : Int32))]) dX6_climbTo_12 wpRX6_21 zCl_6 rfl (⟨zlb rfl, zlb rfl, hi⟩) rfl (by decide) rfl rfl (by decide) rfl ?_
      refine zz_letm (Mf := fun s0_1 => [s0_1]) fun s0_1 => ?_
      refine zz_aload_n F (i := 0) dX6_climbTo_15 rfl rfl ?_
      refine zz_iload_n F (i := 1) dX6_climbTo_16 rfl rfl ?_
      refine zz_put F (Ms' := [(zu s0_1 13 i 3 a1)]) dX6_climbTo_17 wpRX6_15 zCl_6 rfl (⟨zlb rfl, zlb rfl, hi⟩) rfl (by decide) rfl rfl rfl ?_
      refine zz_letm (Mf := fun s0_2 => [s0_2]) fun s0_2 => ?_
      refine zz_aload_n F (i := 0) dX6_climbTo_20 rfl rfl ?_
      refine zz_getsN F (j := 3) (q := zst3) dX6_climbTo_21 rfl wgRX6_31 ?_
      refine zz_iload_n F (i := 1) dX6_climbTo_24 rfl rfl ?_
      refine zz_ix fun j3 hj3 hinj3 hej3 => zz_tld F (j := 3) (q := zst3) dX6_climbTo_25 rfl rfl hinj3 hej3 ?_
      refine zz_put F (Ms' := [(zu s0_2 13 i 4 (zk3.getD j3 0))]) dX6_climbTo_26 wpRX6_25 zCl_6 rfl (⟨zlb rfl, zlb rfl, hi⟩) rfl (by decide) rfl rfl rfl ?_
      refine zz_letm (Mf := fun s0_4 => [s0_4]) fun s0_4 => ?_
      exact zz_return F dX6_climbTo_29 rfl (hκ _)
    · exact zz_return F dX6_climbTo_9 rfl (hκ _)
theorem zfVe_climbTo (i : Nat) (a1 : Int32) (hi : i < 3) (s0 : zM) : ∀ a, fVe_climbTo i a1 s0 = some a → zMet yX6_climbTo cX6_climbTo 2 none 0 0 [(0, [])] [zr 0 13 i, zi a1] [s0] ((fun a => ((.inl ((fun _ => (none : Option zV)) a), (fun q => [q]) a) : zO)) a) := fun a ha => zMet_of (L0 := [some (zr 0 13 i), some (zi a1)]) (φ := Option.bind (fVe_climbTo i a1 s0) (fun a => some ((fun a => ((.inl ((fun _ => (none : Option zV)) a), (fun q => [q]) a) : zO)) a))) (by decide) (fun _ => Nat.le_of_ble_eq_true rfl) (zl0 0 rfl) (fun X F => bfVe_climbTo F i a1 hi s0 (fun _ => rfl)) (by rw [ha]; rfl)

theorem dX9_climb_0 : decode cX9_climb 0 = .ok (.aload_n 0, 1) := by decide +kernel
theorem dX9_climb_1 : decode cX9_climb 1 = .ok (.iload_n 1, 1) := by decide +kernel
theorem dX9_climb_2 : decode cX9_climb 2 = .ok (.invokevirtual 147, 3) := by decide +kernel
theorem dX9_climb_5 : decode cX9_climb 5 = .ok (.iload_n 2, 1) := by decide +kernel
theorem dX9_climb_6 : decode cX9_climb 6 = .ok (.invokestatic 185, 3) := by decide +kernel
theorem dX9_climb_9 : decode cX9_climb 9 = .ok (.aload_n 0, 1) := by decide +kernel
theorem dX9_climb_10 : decode cX9_climb 10 = .ok (.getfield 10, 3) := by decide +kernel
theorem dX9_climb_13 : decode cX9_climb 13 = .ok (.getfield 150, 3) := by decide +kernel
theorem dX9_climb_16 : decode cX9_climb 16 = .ok (.iload_n 1, 1) := by decide +kernel
theorem dX9_climb_17 : decode cX9_climb 17 = .ok (.aaload, 1) := by decide +kernel
theorem dX9_climb_18 : decode cX9_climb 18 = .ok (.astore_n 3, 1) := by decide +kernel
theorem dX9_climb_19 : decode cX9_climb 19 = .ok (.aload_n 0, 1) := by decide +kernel
theorem dX9_climb_20 : decode cX9_climb 20 = .ok (.getfield 10, 3) := by decide +kernel
theorem dX9_climb_23 : decode cX9_climb 23 = .ok (.aload_n 3, 1) := by decide +kernel
theorem dX9_climb_24 : decode cX9_climb 24 = .ok (.getfield 165, 3) := by decide +kernel
theorem dX9_climb_27 : decode cX9_climb 27 = .ok (.invokevirtual 168, 3) := by decide +kernel
theorem dX9_climb_30 : decode cX9_climb 30 = .ok (.ifCond .ne 5, 3) := by decide +kernel
theorem dX9_climb_33 : decode cX9_climb 33 = .ok (.iconst 1, 1) := by decide +kernel
theorem dX9_climb_34 : decode cX9_climb 34 = .ok (.ireturn, 1) := by decide +kernel
theorem dX9_climb_35 : decode cX9_climb 35 = .ok (.aload_n 3, 1) := by decide +kernel
theorem dX9_climb_36 : decode cX9_climb 36 = .ok (.getfield 154, 3) := by decide +kernel
theorem dX9_climb_39 : decode cX9_climb 39 = .ok (.ifCond .eq 5, 3) := by decide +kernel
theorem dX9_climb_42 : decode cX9_climb 42 = .ok (.iconst 2, 1) := by decide +kernel
theorem dX9_climb_43 : decode cX9_climb 43 = .ok (.ireturn, 1) := by decide +kernel
theorem dX9_climb_44 : decode cX9_climb 44 = .ok (.aload_n 0, 1) := by decide +kernel
theorem dX9_climb_45 : decode cX9_climb 45 = .ok (.getfield 10, 3) := by decide +kernel
theorem dX9_climb_48 : decode cX9_climb 48 = .ok (.getfield 118, 3) := by decide +kernel
theorem dX9_climb_51 : decode cX9_climb 51 = .ok (.aload_n 3, 1) := by decide +kernel
theorem dX9_climb_52 : decode cX9_climb 52 = .ok (.getfield 165, 3) := by decide +kernel
theorem dX9_climb_55 : decode cX9_climb 55 = .ok (.aaload, 1) := by decide +kernel
theorem dX9_climb_56 : decode cX9_climb 56 = .ok (.getfield 177, 3) := by decide +kernel
theorem dX9_climb_59 : decode cX9_climb 59 = .ok (.iload_n 1, 1) := by decide +kernel
theorem dX9_climb_60 : decode cX9_climb 60 = .ok (.if_icmp .eq 5, 3) := by decide +kernel
theorem dX9_climb_63 : decode cX9_climb 63 = .ok (.iconst 3, 1) := by decide +kernel
theorem dX9_climb_64 : decode cX9_climb 64 = .ok (.ireturn, 1) := by decide +kernel
theorem dX9_climb_65 : decode cX9_climb 65 = .ok (.aload_n 0, 1) := by decide +kernel
theorem dX9_climb_66 : decode cX9_climb 66 = .ok (.getfield 10, 3) := by decide +kernel
theorem dX9_climb_69 : decode cX9_climb 69 = .ok (.getfield 100, 3) := by decide +kernel
theorem dX9_climb_72 : decode cX9_climb 72 = .ok (.getfield 188, 3) := by decide +kernel
theorem dX9_climb_75 : decode cX9_climb 75 = .ok (.aload_n 3, 1) := by decide +kernel
theorem dX9_climb_76 : decode cX9_climb 76 = .ok (.getfield 191, 3) := by decide +kernel
theorem dX9_climb_79 : decode cX9_climb 79 = .ok (.if_icmp .le 5, 3) := by decide +kernel
theorem dX9_climb_82 : decode cX9_climb 82 = .ok (.iconst 4, 1) := by decide +kernel
theorem dX9_climb_83 : decode cX9_climb 83 = .ok (.ireturn, 1) := by decide +kernel
theorem dX9_climb_84 : decode cX9_climb 84 = .ok (.aload_n 0, 1) := by decide +kernel
theorem dX9_climb_85 : decode cX9_climb 85 = .ok (.getfield 10, 3) := by decide +kernel
theorem dX9_climb_88 : decode cX9_climb 88 = .ok (.invokevirtual 194, 3) := by decide +kernel
theorem dX9_climb_91 : decode cX9_climb 91 = .ok (.ifCond .ne 5, 3) := by decide +kernel
theorem dX9_climb_94 : decode cX9_climb 94 = .ok (.iconst 5, 1) := by decide +kernel
theorem dX9_climb_95 : decode cX9_climb 95 = .ok (.ireturn, 1) := by decide +kernel
theorem dX9_climb_96 : decode cX9_climb 96 = .ok (.aload_n 3, 1) := by decide +kernel
theorem dX9_climb_97 : decode cX9_climb 97 = .ok (.iload_n 2, 1) := by decide +kernel
theorem dX9_climb_98 : decode cX9_climb 98 = .ok (.invokevirtual 197, 3) := by decide +kernel
theorem dX9_climb_101 : decode cX9_climb 101 = .ok (.iconst 0, 1) := by decide +kernel
theorem dX9_climb_102 : decode cX9_climb 102 = .ok (.ireturn, 1) := by decide +kernel
theorem wcRX9_185 : Cond.methodLink RX9 185 yX9_checkPart ∈ zTg ∧ Cond.static yX9_checkPart ∈ zTg ∧ Cond.initialized yX9_checkPart.cls ∈ zTg ∧ Cond.code yX9_checkPart cX9_checkPart 1 none ∈ zTg := ⟨zm_f 536 (by decide +kernel) rfl, zm_f 537 (by decide +kernel) rfl, zm_f 37 (by decide +kernel) rfl, zm_f 538 (by decide +kernel) rfl⟩
theorem wy_yX9_checkPart : yX9_checkPart.cls ≠ "java/lang/invoke/MethodHandle" ∧ yX9_checkPart.cls ≠ "java/lang/invoke/VarHandle" ∧ (parseMethodDescriptor yX9_checkPart.desc).map (fun d => d.parameters.length) = some 1 := by decide +kernel
theorem wfRX9_188 : zFl RX9 188 7 2 := ⟨_, rfl, by decide, zm_f 89 (by decide +kernel) rfl⟩
theorem wfRX9_191 : zFl RX9 191 6 0 := ⟨_, rfl, by decide, zm_f 251 (by decide +kernel) rfl⟩
theorem wcRX9_194 : Cond.methodLink RX9 194 yX3_isDaylight ∈ zTg ∧ Cond.instanceMethod yX3_isDaylight ∈ zTg ∧ Cond.selects RX3 yX3_isDaylight yX3_isDaylight ∈ zTg ∧ Cond.initialized RX3 ∈ zTg ∧ Cond.code yX3_isDaylight cX3_isDaylight 2 (some .boolean) ∈ zTg := ⟨zm_f 892 (by decide +kernel) rfl, zm_f 893 (by decide +kernel) rfl, zm_f 894 (by decide +kernel) rfl, zm_f 38 (by decide +kernel) rfl, zm_f 895 (by decide +kernel) rfl⟩
theorem wy_yX3_isDaylight : yX3_isDaylight.cls = RX3 ∧ yX3_isDaylight.cls ≠ "java/lang/invoke/MethodHandle" ∧ yX3_isDaylight.cls ≠ "java/lang/invoke/VarHandle" ∧ (parseMethodDescriptor yX3_isDaylight.desc).map (fun d => d.parameters.length) = some 0 := by decide +kernel
theorem wcRX9_197 : Cond.methodLink RX9 197 yX6_climbTo ∈ zTg ∧ Cond.instanceMethod yX6_climbTo ∈ zTg ∧ Cond.selects RX6 yX6_climbTo yX6_climbTo ∈ zTg ∧ Cond.initialized RX6 ∈ zTg ∧ Cond.code yX6_climbTo cX6_climbTo 2 none ∈ zTg := ⟨zm_f 896 (by decide +kernel) rfl, zm_f 897 (by decide +kernel) rfl, zm_f 898 (by decide +kernel) rfl, zm_f 44 (by decide +kernel) rfl, zm_f 899 (by decide +kernel) rfl⟩
theorem wy_yX6_climbTo : yX6_climbTo.cls = RX6 ∧ yX6_climbTo.cls ≠ "java/lang/invoke/MethodHandle" ∧ yX6_climbTo.cls ≠ "java/lang/invoke/VarHandle" ∧ (parseMethodDescriptor yX6_climbTo.desc).map (fun d => d.parameters.length) = some 1 := by decide +kernel
def fWB_climb (a1 : Int32) (a2 : Int32) (s0 : zM) (s1 : zM) (s2 : zM) (s3 : zM) : Option ((Int32 × zM) ⊕ (String × zM)) :=
  Option.bind (fWB_checkVessel a1 s0 s1 s2 s3) (Sum.elim (fun (_ : Unit) =>
  Option.bind (fWB_checkPart a2) (Sum.elim (fun (_ : Unit) =>
  zix a1 3 fun j3 =>
  Option.bind (fSe_hasTurbine (s1 13 j3 1) s1) fun q4 =>
  if q4 = 0 then
  some (.inl ((1 : Int32), s1))
else
  if (s1 13 j3 2 &&& 1) = 0 then
    zix (s1 13 j3 1) 8 fun j5 =>
      if (s1 7 j5 6) = a1 then
      if (s1 4 0 2) ≤ (s1 13 j3 0) then
        Option.bind (fSe_isDaylight s1) fun q6 =>
          if q6 = 0 then
          some (.inl ((5 : Int32), s1))
        else
          Option.bind (fVe_climbTo j3 a2 s1) fun q7 =>
            some (.inl ((0 : Int32), q7))
      else
        some (.inl ((4 : Int32), s1))
    else
      some (.inl ((3 : Int32), s1))
  else
    some (.inl ((2 : Int32), s1))) (fun b => some (.inr (b, s1))))) (fun b => some (.inr (b, s1))))
set_option maxHeartbeats 4000000 in
set_option maxRecDepth 20000 in
theorem bfWB_climb {X : zX} (F : zFr X cX9_climb 4 RX9 (some .int)) (a1 : Int32) (a2 : Int32)  (s0 : zM) (s1 : zM) (s2 : zM) (s3 : zM) {κ : (Int32 × zM) ⊕ (String × zM) → Option zO} (hκ : ∀ a, κ a = some ((zts (fun q => some (zi q.1)) (fun q => [s0, q.2, s2, s3]) (fun b => b.1) (fun b => [s0, b.2, s2, s3])) a)) : zZ X [(2, [1, 2, 3]), (0, []), (0, []), (1, [])] 7 111 4 0 [some (zr 0 0 0), some (zi a1), some (zi a2), none] [] [s0, s1, s2, s3] (Option.bind (fWB_climb a1 a2 s0 s1 s2 s3) κ) := by
  unfold fWB_climb
  refine zz_aload_n F (i := 0) dX9_climb_0 rfl rfl ?_
  refine zz_iload_n F (i := 1) dX9_climb_1 rfl rfl ?_
  refine zz_bind ?_
  refine zz_callVx F (ρ := [0, 1, 2, 3]) (so := fun _ => []) (Mo := fun _ => [s0, s1, s2, s3]) (Xo := fun _ => [s0, s1, s2, s3]) (zfWB_checkVessel a1 s0 s1 s2 s3) dX9_climb_2 wcRX9_147 wy_yX9_checkVessel rfl ⟨rel2, rfl, rfl, Nat.le_of_ble_eq_true rfl, Nat.le_of_ble_eq_true rfl, Nat.le_of_ble_eq_true rfl⟩ (⟨zlb rfl, zlb rfl, zlb rfl⟩) rfl rfl rfl (fun _ => rfl) (fun _ => rfl) (fun _ => rfl) (fun _ => (hκ _)) fun _ => ?_
  dsimp only [Sum.elim_inl]
  refine zz_iload_n F (i := 2) dX9_climb_5 rfl rfl ?_
  refine zz_bind ?_
  refine zz_callSx F (ρ := []) (so := fun _ => []) (Mo := fun _ => [s0, s1, s2, s3]) (Xo := fun _ => [s0, s1, s2, s3]) (zfWB_checkPart a2) dX9_climb_6 wcRX9_185 wy_yX9_checkPart rfl ⟨rel0, rfl, rfl, Nat.le_of_ble_eq_true rfl, Nat.le_of_ble_eq_true rfl, Nat.le_of_ble_eq_true rfl⟩ rfl (fun _ => rfl) (fun _ => rfl) (fun _ => rfl) (fun _ => (hκ _)) fun _ => ?_
  dsimp only [Sum.elim_inl]
  refine zz_aload_n F (i := 0) dX9_climb_9 rfl rfl ?_
  refine zz_getr F dX9_climb_10 wfRX9_10 zCl_8 rfl (⟨zlb rfl, zlb rfl, zlb rfl⟩) rfl (by decide) rfl (r' := 1) (by decide) ?_
  refine zz_getr F dX9_climb_13 wfRX9_150 zCl_3 rfl (⟨zlb rfl, zlb rfl, zlb rfl⟩) rfl (by decide) rfl (r' := 1) (by decide) ?_
  refine zz_iload_n F (i := 1) dX9_climb_16 rfl rfl ?_
  refine zz_ix fun j3 hj3 hinj3 hej3 => zz_aal F dX9_climb_17 rfl (⟨zlb rfl, zlb rfl, zlb rfl⟩) rfl (by decide) rfl hinj3 hej3 rfl ?_
  refine zz_astore_n F (i := 3) (L' := [some (zr 0 0 0), some (zi a1), some (zi a2), some (zr 1 13 j3)]) dX9_climb_18 rfl (by decide) rfl rfl ?_
  refine zz_aload_n F (i := 0) dX9_climb_19 rfl rfl ?_
  refine zz_getr F dX9_climb_20 wfRX9_10 zCl_8 rfl (⟨zlb rfl, zlb rfl, zlb rfl⟩) rfl (by decide) rfl (r' := 1) (by decide) ?_
  refine zz_aload_n F (i := 3) dX9_climb_23 rfl rfl ?_
  refine zz_getf F dX9_climb_24 wfRX9_165 zCl_6 rfl (⟨zlb rfl, zlb rfl, hj3⟩) rfl (by decide) rfl rfl ?_
  refine zz_bind ?_
  refine zz_callVr F (ρ := [1]) (so := fun q4 => [zi q4]) (Mo := fun q4 => [s0, s1, s2, s3]) (zfSe_hasTurbine (s1 13 j3 1) s1) dX9_climb_27 wcRX9_168 wy_yX3_hasTurbine rfl ⟨rel1, rfl, rfl, Nat.le_of_ble_eq_true rfl, Nat.le_of_ble_eq_true rfl, Nat.le_of_ble_eq_true rfl⟩ (⟨zlb rfl, zlb rfl, zlb rfl⟩) rfl rfl rfl (fun _ => rfl) (fun _ => rfl) fun q4 => ?_
  refine zz_if_ne F (tgt := 35) dX9_climb_30 (by decide) (fun h => zz_f h ?_) (fun h => zz_t h ?_)
  · refine zz_aload_n F (i := 3) dX9_climb_35 rfl rfl ?_
    refine zz_getb F dX9_climb_36 wfRX9_154 zCl_6 rfl (⟨zlb rfl, zlb rfl, hj3⟩) rfl (by decide) rfl rfl ?_
    refine zz_if_eq F (tgt := 44) dX9_climb_39 (by decide) (fun h => zz_t h ?_) (fun h => zz_f h ?_)
    · refine zz_aload_n F (i := 0) dX9_climb_44 rfl rfl ?_
      refine zz_getr F dX9_climb_45 wfRX9_10 zCl_8 rfl (⟨zlb rfl, zlb rfl, zlb rfl⟩) rfl (by decide) rfl (r' := 1) (by decide) ?_
      refine zz_getr F dX9_climb_48 wfRX9_118 zCl_3 rfl (⟨zlb rfl, zlb rfl, zlb rfl⟩) rfl (by decide) rfl (r' := 1) (by decide) ?_
      refine zz_aload_n F (i := 3) dX9_climb_51 rfl rfl ?_
      refine zz_getf F dX9_climb_52 wfRX9_165 zCl_6 rfl (⟨zlb rfl, zlb rfl, hj3⟩) rfl (by decide) rfl rfl ?_
      refine zz_ix fun j5 hj5 hinj5 hej5 => zz_aal F dX9_climb_55 rfl (⟨zlb rfl, zlb rfl, zlb rfl⟩) rfl (by decide) rfl hinj5 hej5 rfl ?_
      refine zz_getf F dX9_climb_56 wfRX9_177 zCl_5 rfl (⟨zlb rfl, zlb rfl, hj5⟩) rfl (by decide) rfl rfl ?_
      refine zz_iload_n F (i := 1) dX9_climb_59 rfl rfl ?_
      refine zz_icmp_eq F (tgt := 65) dX9_climb_60 (by decide) (fun h => zz_t h ?_) (fun h => zz_f h ?_)
      · refine zz_aload_n F (i := 0) dX9_climb_65 rfl rfl ?_
        refine zz_getr F dX9_climb_66 wfRX9_10 zCl_8 rfl (⟨zlb rfl, zlb rfl, zlb rfl⟩) rfl (by decide) rfl (r' := 1) (by decide) ?_
        refine zz_getr F dX9_climb_69 wfRX9_100 zCl_3 rfl (⟨zlb rfl, zlb rfl, zlb rfl⟩) rfl (by decide) rfl (r' := 1) (by decide) ?_
        refine zz_getf F dX9_climb_72 wfRX9_188 zCl_7 rfl (⟨zlb rfl, zlb rfl, zlb rfl⟩) rfl (by decide) rfl rfl ?_
        refine zz_aload_n F (i := 3) dX9_climb_75 rfl rfl ?_
        refine zz_getf F dX9_climb_76 wfRX9_191 zCl_6 rfl (⟨zlb rfl, zlb rfl, hj3⟩) rfl (by decide) rfl rfl ?_
        refine zz_icmp_le F (tgt := 84) dX9_climb_79 (by decide) (fun h => zz_t h ?_) (fun h => zz_f h ?_)
        · refine zz_aload_n F (i := 0) dX9_climb_84 rfl rfl ?_
          refine zz_getr F dX9_climb_85 wfRX9_10 zCl_8 rfl (⟨zlb rfl, zlb rfl, zlb rfl⟩) rfl (by decide) rfl (r' := 1) (by decide) ?_
          refine zz_bind ?_
          refine zz_callVr F (ρ := [1]) (so := fun q6 => [zi q6]) (Mo := fun q6 => [s0, s1, s2, s3]) (zfSe_isDaylight s1) dX9_climb_88 wcRX9_194 wy_yX3_isDaylight rfl ⟨rel1, rfl, rfl, Nat.le_of_ble_eq_true rfl, Nat.le_of_ble_eq_true rfl, Nat.le_of_ble_eq_true rfl⟩ (⟨zlb rfl, zlb rfl, zlb rfl⟩) rfl rfl rfl (fun _ => rfl) (fun _ => rfl) fun q6 => ?_
          refine zz_if_ne F (tgt := 96) dX9_climb_91 (by decide) (fun h => zz_f h ?_) (fun h => zz_t h ?_)
          · refine zz_aload_n F (i := 3) dX9_climb_96 rfl rfl ?_
            refine zz_iload_n F (i := 2) dX9_climb_97 rfl rfl ?_
            refine zz_bind ?_
            refine zz_callVr F (ρ := [1]) (so := fun q7 => []) (Mo := fun q7 => [s0, q7, s2, s3]) (zfVe_climbTo j3 a2 hj3 s1) dX9_climb_98 wcRX9_197 wy_yX6_climbTo rfl ⟨rel1, rfl, rfl, Nat.le_of_ble_eq_true rfl, Nat.le_of_ble_eq_true rfl, Nat.le_of_ble_eq_true rfl⟩ (⟨zlb rfl, zlb rfl, hj3⟩) rfl rfl rfl (fun _ => rfl) (fun _ => rfl) fun q7 => ?_
            refine zz_iconst F (v := (0 : Int32)) dX9_climb_101 (by decide) ?_
            exact zz_ireturn F dX9_climb_102 rfl (hκ _)
          · refine zz_iconst F (v := (5 : Int32)) dX9_climb_94 (by decide) ?_
            exact zz_ireturn F dX9_climb_95 rfl (hκ _)
        · refine zz_iconst F (v := (4 : Int32)) dX9_climb_82 (by decide) ?_
          exact zz_ireturn F dX9_climb_83 rfl (hκ _)
      · refine zz_iconst F (v := (3 : Int32)) dX9_climb_63 (by decide) ?_
        exact zz_ireturn F dX9_climb_64 rfl (hκ _)
    · refine zz_iconst F (v := (2 : Int32)) dX9_climb_42 (by decide) ?_
      exact zz_ireturn F dX9_climb_43 rfl (hκ _)
  · refine zz_iconst F (v := (1 : Int32)) dX9_climb_33 (by decide) ?_
    exact zz_ireturn F dX9_climb_34 rfl (hκ _)
theorem zfWB_climb (a1 : Int32) (a2 : Int32)  (s0 : zM) (s1 : zM) (s2 : zM) (s3 : zM) : ∀ a, fWB_climb a1 a2 s0 s1 s2 s3 = some a → zMet yX9_climb cX9_climb 4 (some .int) 7 111 [(2, [1, 2, 3]), (0, []), (0, []), (1, [])] [zr 0 0 0, zi a1, zi a2] [s0, s1, s2, s3] ((zts (fun q => some (zi q.1)) (fun q => [s0, q.2, s2, s3]) (fun b => b.1) (fun b => [s0, b.2, s2, s3])) a) := fun a ha => zMet_of (L0 := [some (zr 0 0 0), some (zi a1), some (zi a2), none]) (φ := Option.bind (fWB_climb a1 a2 s0 s1 s2 s3) (fun a => some ((zts (fun q => some (zi q.1)) (fun q => [s0, q.2, s2, s3]) (fun b => b.1) (fun b => [s0, b.2, s2, s3])) a))) (by decide) (fun _ => Nat.le_of_ble_eq_true rfl) (zl0 1 rfl) (fun X F => bfWB_climb F a1 a2 s0 s1 s2 s3 (fun _ => rfl)) (by rw [ha]; rfl)

theorem dX6_comeBack_0 : decode cX6_comeBack 0 = .ok (.aload_n 0, 1) := by decide +kernel
theorem dX6_comeBack_1 : decode cX6_comeBack 1 = .ok (.getfield 25, 3) := by decide +kernel
theorem dX6_comeBack_4 : decode cX6_comeBack 4 = .ok (.istore_n 1, 1) := by decide +kernel
theorem dX6_comeBack_5 : decode cX6_comeBack 5 = .ok (.aload_n 0, 1) := by decide +kernel
theorem dX6_comeBack_6 : decode cX6_comeBack 6 = .ok (.iconst 0, 1) := by decide +kernel
theorem dX6_comeBack_7 : decode cX6_comeBack 7 = .ok (.putfield 21, 3) := by decide +kernel
theorem dX6_comeBack_10 : decode cX6_comeBack 10 = .ok (.aload_n 0, 1) := by decide +kernel
theorem dX6_comeBack_11 : decode cX6_comeBack 11 = .ok (.iconst (-1), 1) := by decide +kernel
theorem dX6_comeBack_12 : decode cX6_comeBack 12 = .ok (.putfield 15, 3) := by decide +kernel
theorem dX6_comeBack_15 : decode cX6_comeBack 15 = .ok (.aload_n 0, 1) := by decide +kernel
theorem dX6_comeBack_16 : decode cX6_comeBack 16 = .ok (.iconst 0, 1) := by decide +kernel
theorem dX6_comeBack_17 : decode cX6_comeBack 17 = .ok (.putfield 25, 3) := by decide +kernel
theorem dX6_comeBack_20 : decode cX6_comeBack 20 = .ok (.iload_n 1, 1) := by decide +kernel
theorem dX6_comeBack_21 : decode cX6_comeBack 21 = .ok (.ireturn, 1) := by decide +kernel
def fVe_comeBack (i : Nat) (s0 : zM) : Option (Int32 × zM) :=
  zlet ((s0 13 i 4)) fun v1 =>
  zlet (zu s0 13 i 2 (0 : Int32)) fun s0_2 =>
  zlet (zu s0_2 13 i 3 (-1 : Int32)) fun s0_3 =>
  zlet (zu s0_3 13 i 4 (0 : Int32)) fun s0_4 =>
  some (v1, s0_4)
set_option maxHeartbeats 4000000 in
set_option maxRecDepth 20000 in
theorem bfVe_comeBack {X : zX} (F : zFr X cX6_comeBack 2 RX6 (some .int)) (i : Nat) (hi : i < 3) (s0 : zM) {κ : Int32 × zM → Option zO} (hκ : ∀ a, κ a = some ((fun a => ((.inl ((fun q => some (zi q.1)) a), (fun q => [q.2]) a) : zO)) a)) : zZ X [(0, [])] 0 0 2 0 [some (zr 0 13 i), none] [] [s0] (Option.bind (fVe_comeBack i s0) κ) := by
  unfold fVe_comeBack
  refine zz_aload_n F (i := 0) dX6_comeBack_0 rfl rfl ?_
  refine zz_getf F dX6_comeBack_1 wfRX6_25 zCl_6 rfl (⟨zlb rfl, zlb rfl, hi⟩) rfl (by decide) rfl rfl ?_
  refine zz_istore_n F (i := 1) (L' := [some (zr 0 13 i), some (zi (s0 13 i 4))]) dX6_comeBack_4 rfl (by decide) rfl rfl ?_
  refine zz_letl (Lf := fun v1 => [some (zr 0 13 i), some (zi v1)]) fun v1 => ?_
  refine zz_aload_n F (i := 0) dX6_comeBack_5 rfl rfl ?_
  refine zz_iconst F (v := (0 : Int32)) dX6_comeBack_6 (by decide) ?_
  refine zz_putb F (Ms' := [(zu s0 13 i 2 (0 : Int32))]) dX6_comeBack_7 wpRX6_21 zCl_6 rfl (⟨zlb rfl, zlb rfl, hi⟩) rfl (by decide) rfl rfl (by decide) rfl ?_
  refine zz_letm (Mf := fun s0_2 => [s0_2]) fun s0_2 => ?_
  refine zz_aload_n F (i := 0) dX6_comeBack_10 rfl rfl ?_
  refine zz_iconst F (v := (-1 : Int32)) dX6_comeBack_11 (by decide) ?_
  refine zz_put F (Ms' := [(zu s0_2 13 i 3 (-1 : Int32))]) dX6_comeBack_12 wpRX6_15 zCl_6 rfl (⟨zlb rfl, zlb rfl, hi⟩) rfl (by decide) rfl rfl rfl ?_
  refine zz_letm (Mf := fun s0_3 => [s0_3]) fun s0_3 => ?_
  refine zz_aload_n F (i := 0) dX6_comeBack_15 rfl rfl ?_
  refine zz_iconst F (v := (0 : Int32)) dX6_comeBack_16 (by decide) ?_
  refine zz_put F (Ms' := [(zu s0_3 13 i 4 (0 : Int32))]) dX6_comeBack_17 wpRX6_25 zCl_6 rfl (⟨zlb rfl, zlb rfl, hi⟩) rfl (by decide) rfl rfl rfl ?_
  refine zz_letm (Mf := fun s0_4 => [s0_4]) fun s0_4 => ?_
  refine zz_iload_n F (i := 1) dX6_comeBack_20 rfl rfl ?_
  exact zz_ireturn F dX6_comeBack_21 rfl (hκ _)
theorem zfVe_comeBack (i : Nat) (hi : i < 3) (s0 : zM) : ∀ a, fVe_comeBack i s0 = some a → zMet yX6_comeBack cX6_comeBack 2 (some .int) 0 0 [(0, [])] [zr 0 13 i] [s0] ((fun a => ((.inl ((fun q => some (zi q.1)) a), (fun q => [q.2]) a) : zO)) a) := fun a ha => zMet_of (L0 := [some (zr 0 13 i), none]) (φ := Option.bind (fVe_comeBack i s0) (fun a => some ((fun a => ((.inl ((fun q => some (zi q.1)) a), (fun q => [q.2]) a) : zO)) a))) (by decide) (fun _ => Nat.le_of_ble_eq_true rfl) (zl0 1 rfl) (fun X F => bfVe_comeBack F i hi s0 (fun _ => rfl)) (by rw [ha]; rfl)

theorem dX9_down_0 : decode cX9_down 0 = .ok (.aload_n 0, 1) := by decide +kernel
theorem dX9_down_1 : decode cX9_down 1 = .ok (.iload_n 1, 1) := by decide +kernel
theorem dX9_down_2 : decode cX9_down 2 = .ok (.invokevirtual 147, 3) := by decide +kernel
theorem dX9_down_5 : decode cX9_down 5 = .ok (.aload_n 0, 1) := by decide +kernel
theorem dX9_down_6 : decode cX9_down 6 = .ok (.getfield 10, 3) := by decide +kernel
theorem dX9_down_9 : decode cX9_down 9 = .ok (.getfield 150, 3) := by decide +kernel
theorem dX9_down_12 : decode cX9_down 12 = .ok (.iload_n 1, 1) := by decide +kernel
theorem dX9_down_13 : decode cX9_down 13 = .ok (.aaload, 1) := by decide +kernel
theorem dX9_down_14 : decode cX9_down 14 = .ok (.astore_n 2, 1) := by decide +kernel
theorem dX9_down_15 : decode cX9_down 15 = .ok (.aload_n 2, 1) := by decide +kernel
theorem dX9_down_16 : decode cX9_down 16 = .ok (.getfield 154, 3) := by decide +kernel
theorem dX9_down_19 : decode cX9_down 19 = .ok (.ifCond .eq 20, 3) := by decide +kernel
theorem dX9_down_22 : decode cX9_down 22 = .ok (.aload_n 0, 1) := by decide +kernel
theorem dX9_down_23 : decode cX9_down 23 = .ok (.getfield 10, 3) := by decide +kernel
theorem dX9_down_26 : decode cX9_down 26 = .ok (.getfield 100, 3) := by decide +kernel
theorem dX9_down_29 : decode cX9_down 29 = .ok (.getfield 188, 3) := by decide +kernel
theorem dX9_down_32 : decode cX9_down 32 = .ok (.aload_n 2, 1) := by decide +kernel
theorem dX9_down_33 : decode cX9_down 33 = .ok (.getfield 191, 3) := by decide +kernel
theorem dX9_down_36 : decode cX9_down 36 = .ok (.if_icmp .le 13, 3) := by decide +kernel
theorem dX9_down_39 : decode cX9_down 39 = .ok (.new 41, 3) := by decide +kernel
theorem dX9_down_42 : decode cX9_down 42 = .ok (.dup, 1) := by decide +kernel
theorem dX9_down_43 : decode cX9_down 43 = .ok (.ldc 200, 2) := by decide +kernel
theorem dX9_down_45 : decode cX9_down 45 = .ok (.invokespecial 45, 3) := by decide +kernel
theorem dX9_down_48 : decode cX9_down 48 = .ok (.athrow, 1) := by decide +kernel
theorem dX9_down_49 : decode cX9_down 49 = .ok (.aload_n 2, 1) := by decide +kernel
theorem dX9_down_50 : decode cX9_down 50 = .ok (.invokevirtual 202, 3) := by decide +kernel
theorem dX9_down_53 : decode cX9_down 53 = .ok (.ireturn, 1) := by decide +kernel
theorem wsRX9_200 : (RX9, 200, "its crew is on no TURBINE, or the WAVE is too high") ∈ zstr := by decide +kernel
theorem wcRX9_202 : Cond.methodLink RX9 202 yX6_comeBack ∈ zTg ∧ Cond.instanceMethod yX6_comeBack ∈ zTg ∧ Cond.selects RX6 yX6_comeBack yX6_comeBack ∈ zTg ∧ Cond.initialized RX6 ∈ zTg ∧ Cond.code yX6_comeBack cX6_comeBack 2 (some .int) ∈ zTg := ⟨zm_f 910 (by decide +kernel) rfl, zm_f 911 (by decide +kernel) rfl, zm_f 912 (by decide +kernel) rfl, zm_f 44 (by decide +kernel) rfl, zm_f 913 (by decide +kernel) rfl⟩
theorem wy_yX6_comeBack : yX6_comeBack.cls = RX6 ∧ yX6_comeBack.cls ≠ "java/lang/invoke/MethodHandle" ∧ yX6_comeBack.cls ≠ "java/lang/invoke/VarHandle" ∧ (parseMethodDescriptor yX6_comeBack.desc).map (fun d => d.parameters.length) = some 0 := by decide +kernel
def fWB_down (a1 : Int32) (s0 : zM) (s1 : zM) (s2 : zM) (s3 : zM) : Option ((Int32 × zM) ⊕ (String × zM)) :=
  Option.bind (fWB_checkVessel a1 s0 s1 s2 s3) (Sum.elim (fun (_ : Unit) =>
  zix a1 3 fun j2 =>
  if (s1 13 j2 2 &&& 1) = 0 then
  some (.inr ("java/lang/IllegalStateException", s1))
else
  if (s1 4 0 2) ≤ (s1 13 j2 0) then
    Option.bind (fVe_comeBack j2 s1) fun q3 =>
      some (.inl (q3.1, q3.2))
  else
    some (.inr ("java/lang/IllegalStateException", s1))) (fun b => some (.inr (b, s1))))
set_option maxHeartbeats 4000000 in
set_option maxRecDepth 20000 in
theorem bfWB_down {X : zX} (F : zFr X cX9_down 3 RX9 (some .int)) (a1 : Int32)  (s0 : zM) (s1 : zM) (s2 : zM) (s3 : zM) {κ : (Int32 × zM) ⊕ (String × zM) → Option zO} (hκ : ∀ a, κ a = some ((zts (fun q => some (zi q.1)) (fun q => [s0, q.2, s2, s3]) (fun b => b.1) (fun b => [s0, b.2, s2, s3])) a)) : zZ X [(2, [1, 2, 3]), (0, []), (0, []), (1, [])] 7 111 3 0 [some (zr 0 0 0), some (zi a1), none] [] [s0, s1, s2, s3] (Option.bind (fWB_down a1 s0 s1 s2 s3) κ) := by
  unfold fWB_down
  refine zz_aload_n F (i := 0) dX9_down_0 rfl rfl ?_
  refine zz_iload_n F (i := 1) dX9_down_1 rfl rfl ?_
  refine zz_bind ?_
  refine zz_callVx F (ρ := [0, 1, 2, 3]) (so := fun _ => []) (Mo := fun _ => [s0, s1, s2, s3]) (Xo := fun _ => [s0, s1, s2, s3]) (zfWB_checkVessel a1 s0 s1 s2 s3) dX9_down_2 wcRX9_147 wy_yX9_checkVessel rfl ⟨rel2, rfl, rfl, Nat.le_of_ble_eq_true rfl, Nat.le_of_ble_eq_true rfl, Nat.le_of_ble_eq_true rfl⟩ (⟨zlb rfl, zlb rfl, zlb rfl⟩) rfl rfl rfl (fun _ => rfl) (fun _ => rfl) (fun _ => rfl) (fun _ => (hκ _)) fun _ => ?_
  dsimp only [Sum.elim_inl]
  refine zz_aload_n F (i := 0) dX9_down_5 rfl rfl ?_
  refine zz_getr F dX9_down_6 wfRX9_10 zCl_8 rfl (⟨zlb rfl, zlb rfl, zlb rfl⟩) rfl (by decide) rfl (r' := 1) (by decide) ?_
  refine zz_getr F dX9_down_9 wfRX9_150 zCl_3 rfl (⟨zlb rfl, zlb rfl, zlb rfl⟩) rfl (by decide) rfl (r' := 1) (by decide) ?_
  refine zz_iload_n F (i := 1) dX9_down_12 rfl rfl ?_
  refine zz_ix fun j2 hj2 hinj2 hej2 => zz_aal F dX9_down_13 rfl (⟨zlb rfl, zlb rfl, zlb rfl⟩) rfl (by decide) rfl hinj2 hej2 rfl ?_
  refine zz_astore_n F (i := 2) (L' := [some (zr 0 0 0), some (zi a1), some (zr 1 13 j2)]) dX9_down_14 rfl (by decide) rfl rfl ?_
  refine zz_aload_n F (i := 2) dX9_down_15 rfl rfl ?_
  refine zz_getb F dX9_down_16 wfRX9_154 zCl_6 rfl (⟨zlb rfl, zlb rfl, hj2⟩) rfl (by decide) rfl rfl ?_
  refine zz_if_eq F (tgt := 39) dX9_down_19 (by decide) (fun h => zz_t h ?_) (fun h => zz_f h ?_)
  · exact zz_throw F (cls := "java/lang/IllegalStateException") dX9_down_39 dX9_down_42 dX9_down_43 dX9_down_45 dX9_down_48 (by decide) wtRX9_41_45k wsRX9_200 wtRX9_41_45g wtRX9_41_45n wtRX9_41_45o (Nat.le_of_ble_eq_true rfl) (Nat.le_of_ble_eq_true rfl) (hκ _)
  · refine zz_aload_n F (i := 0) dX9_down_22 rfl rfl ?_
    refine zz_getr F dX9_down_23 wfRX9_10 zCl_8 rfl (⟨zlb rfl, zlb rfl, zlb rfl⟩) rfl (by decide) rfl (r' := 1) (by decide) ?_
    refine zz_getr F dX9_down_26 wfRX9_100 zCl_3 rfl (⟨zlb rfl, zlb rfl, zlb rfl⟩) rfl (by decide) rfl (r' := 1) (by decide) ?_
    refine zz_getf F dX9_down_29 wfRX9_188 zCl_7 rfl (⟨zlb rfl, zlb rfl, zlb rfl⟩) rfl (by decide) rfl rfl ?_
    refine zz_aload_n F (i := 2) dX9_down_32 rfl rfl ?_
    refine zz_getf F dX9_down_33 wfRX9_191 zCl_6 rfl (⟨zlb rfl, zlb rfl, hj2⟩) rfl (by decide) rfl rfl ?_
    refine zz_icmp_le F (tgt := 49) dX9_down_36 (by decide) (fun h => zz_t h ?_) (fun h => zz_f h ?_)
    · refine zz_aload_n F (i := 2) dX9_down_49 rfl rfl ?_
      refine zz_bind ?_
      refine zz_callVr F (ρ := [1]) (so := fun q3 => [zi q3.1]) (Mo := fun q3 => [s0, q3.2, s2, s3]) (zfVe_comeBack j2 hj2 s1) dX9_down_50 wcRX9_202 wy_yX6_comeBack rfl ⟨rel1, rfl, rfl, Nat.le_of_ble_eq_true rfl, Nat.le_of_ble_eq_true rfl, Nat.le_of_ble_eq_true rfl⟩ (⟨zlb rfl, zlb rfl, hj2⟩) rfl rfl rfl (fun _ => rfl) (fun _ => rfl) fun q3 => ?_
      exact zz_ireturn F dX9_down_53 rfl (hκ _)
    · exact zz_throw F (cls := "java/lang/IllegalStateException") dX9_down_39 dX9_down_42 dX9_down_43 dX9_down_45 dX9_down_48 (by decide) wtRX9_41_45k wsRX9_200 wtRX9_41_45g wtRX9_41_45n wtRX9_41_45o (Nat.le_of_ble_eq_true rfl) (Nat.le_of_ble_eq_true rfl) (hκ _)
theorem zfWB_down (a1 : Int32)  (s0 : zM) (s1 : zM) (s2 : zM) (s3 : zM) : ∀ a, fWB_down a1 s0 s1 s2 s3 = some a → zMet yX9_down cX9_down 3 (some .int) 7 111 [(2, [1, 2, 3]), (0, []), (0, []), (1, [])] [zr 0 0 0, zi a1] [s0, s1, s2, s3] ((zts (fun q => some (zi q.1)) (fun q => [s0, q.2, s2, s3]) (fun b => b.1) (fun b => [s0, b.2, s2, s3])) a) := fun a ha => zMet_of (L0 := [some (zr 0 0 0), some (zi a1), none]) (φ := Option.bind (fWB_down a1 s0 s1 s2 s3) (fun a => some ((zts (fun q => some (zi q.1)) (fun q => [s0, q.2, s2, s3]) (fun b => b.1) (fun b => [s0, b.2, s2, s3])) a))) (by decide) (fun _ => Nat.le_of_ble_eq_true rfl) (zl0 1 rfl) (fun X F => bfWB_down F a1 s0 s1 s2 s3 (fun _ => rfl)) (by rw [ha]; rfl)

theorem dX9_ofTurbine_0 : decode cX9_ofTurbine 0 = .ok (.aload_n 0, 1) := by decide +kernel
theorem dX9_ofTurbine_1 : decode cX9_ofTurbine 1 = .ok (.iload_n 1, 1) := by decide +kernel
theorem dX9_ofTurbine_2 : decode cX9_ofTurbine 2 = .ok (.invokevirtual 113, 3) := by decide +kernel
theorem dX9_ofTurbine_5 : decode cX9_ofTurbine 5 = .ok (.aload_n 0, 1) := by decide +kernel
theorem dX9_ofTurbine_6 : decode cX9_ofTurbine 6 = .ok (.getfield 10, 3) := by decide +kernel
theorem dX9_ofTurbine_9 : decode cX9_ofTurbine 9 = .ok (.getfield 118, 3) := by decide +kernel
theorem dX9_ofTurbine_12 : decode cX9_ofTurbine 12 = .ok (.iload_n 1, 1) := by decide +kernel
theorem dX9_ofTurbine_13 : decode cX9_ofTurbine 13 = .ok (.aaload, 1) := by decide +kernel
theorem dX9_ofTurbine_14 : decode cX9_ofTurbine 14 = .ok (.astore_n 3, 1) := by decide +kernel
theorem dX9_ofTurbine_15 : decode cX9_ofTurbine 15 = .ok (.iload_n 2, 1) := by decide +kernel
theorem dX9_ofTurbine_16 : decode cX9_ofTurbine 16 = .ok (.tableswitch 116 0 9 #[56, 61, 66, 71, 76, 85, 93, 101, 106, 111], 56) := by decide +kernel
theorem dX9_ofTurbine_72 : decode cX9_ofTurbine 72 = .ok (.aload_n 3, 1) := by decide +kernel
theorem dX9_ofTurbine_73 : decode cX9_ofTurbine 73 = .ok (.getfield 127, 3) := by decide +kernel
theorem dX9_ofTurbine_76 : decode cX9_ofTurbine 76 = .ok (.ireturn, 1) := by decide +kernel
theorem dX9_ofTurbine_77 : decode cX9_ofTurbine 77 = .ok (.aload_n 3, 1) := by decide +kernel
theorem dX9_ofTurbine_78 : decode cX9_ofTurbine 78 = .ok (.getfield 122, 3) := by decide +kernel
theorem dX9_ofTurbine_81 : decode cX9_ofTurbine 81 = .ok (.ireturn, 1) := by decide +kernel
theorem dX9_ofTurbine_82 : decode cX9_ofTurbine 82 = .ok (.aload_n 3, 1) := by decide +kernel
theorem dX9_ofTurbine_83 : decode cX9_ofTurbine 83 = .ok (.getfield 205, 3) := by decide +kernel
theorem dX9_ofTurbine_86 : decode cX9_ofTurbine 86 = .ok (.ireturn, 1) := by decide +kernel
theorem dX9_ofTurbine_87 : decode cX9_ofTurbine 87 = .ok (.aload_n 3, 1) := by decide +kernel
theorem dX9_ofTurbine_88 : decode cX9_ofTurbine 88 = .ok (.getfield 208, 3) := by decide +kernel
theorem dX9_ofTurbine_91 : decode cX9_ofTurbine 91 = .ok (.ireturn, 1) := by decide +kernel
theorem dX9_ofTurbine_92 : decode cX9_ofTurbine 92 = .ok (.aload_n 0, 1) := by decide +kernel
theorem dX9_ofTurbine_93 : decode cX9_ofTurbine 93 = .ok (.getfield 10, 3) := by decide +kernel
theorem dX9_ofTurbine_96 : decode cX9_ofTurbine 96 = .ok (.iload_n 1, 1) := by decide +kernel
theorem dX9_ofTurbine_97 : decode cX9_ofTurbine 97 = .ok (.invokevirtual 211, 3) := by decide +kernel
theorem dX9_ofTurbine_100 : decode cX9_ofTurbine 100 = .ok (.ireturn, 1) := by decide +kernel
theorem dX9_ofTurbine_101 : decode cX9_ofTurbine 101 = .ok (.aload_n 3, 1) := by decide +kernel
theorem dX9_ofTurbine_102 : decode cX9_ofTurbine 102 = .ok (.getfield 214, 3) := by decide +kernel
theorem dX9_ofTurbine_105 : decode cX9_ofTurbine 105 = .ok (.getfield 218, 3) := by decide +kernel
theorem dX9_ofTurbine_108 : decode cX9_ofTurbine 108 = .ok (.ireturn, 1) := by decide +kernel
theorem dX9_ofTurbine_109 : decode cX9_ofTurbine 109 = .ok (.aload_n 3, 1) := by decide +kernel
theorem dX9_ofTurbine_110 : decode cX9_ofTurbine 110 = .ok (.getfield 214, 3) := by decide +kernel
theorem dX9_ofTurbine_113 : decode cX9_ofTurbine 113 = .ok (.getfield 223, 3) := by decide +kernel
theorem dX9_ofTurbine_116 : decode cX9_ofTurbine 116 = .ok (.ireturn, 1) := by decide +kernel
theorem dX9_ofTurbine_117 : decode cX9_ofTurbine 117 = .ok (.aload_n 3, 1) := by decide +kernel
theorem dX9_ofTurbine_118 : decode cX9_ofTurbine 118 = .ok (.getfield 226, 3) := by decide +kernel
theorem dX9_ofTurbine_121 : decode cX9_ofTurbine 121 = .ok (.ireturn, 1) := by decide +kernel
theorem dX9_ofTurbine_122 : decode cX9_ofTurbine 122 = .ok (.aload_n 3, 1) := by decide +kernel
theorem dX9_ofTurbine_123 : decode cX9_ofTurbine 123 = .ok (.getfield 177, 3) := by decide +kernel
theorem dX9_ofTurbine_126 : decode cX9_ofTurbine 126 = .ok (.ireturn, 1) := by decide +kernel
theorem dX9_ofTurbine_127 : decode cX9_ofTurbine 127 = .ok (.aload_n 3, 1) := by decide +kernel
theorem dX9_ofTurbine_128 : decode cX9_ofTurbine 128 = .ok (.getfield 229, 3) := by decide +kernel
theorem dX9_ofTurbine_131 : decode cX9_ofTurbine 131 = .ok (.ireturn, 1) := by decide +kernel
theorem dX9_ofTurbine_132 : decode cX9_ofTurbine 132 = .ok (.new 30, 3) := by decide +kernel
theorem dX9_ofTurbine_135 : decode cX9_ofTurbine 135 = .ok (.dup, 1) := by decide +kernel
theorem dX9_ofTurbine_136 : decode cX9_ofTurbine 136 = .ok (.ldc 232, 2) := by decide +kernel
theorem dX9_ofTurbine_138 : decode cX9_ofTurbine 138 = .ok (.invokespecial 34, 3) := by decide +kernel
theorem dX9_ofTurbine_141 : decode cX9_ofTurbine 141 = .ok (.athrow, 1) := by decide +kernel
theorem wsRX9_232 : (RX9, 232, "of a TURBINE 0 to 9 is asked") ∈ zstr := by decide +kernel
theorem wfRX9_205 : zFl RX9 205 5 8 := ⟨_, rfl, by decide, zm_f 183 (by decide +kernel) rfl⟩
theorem wfRX9_208 : zFl RX9 208 5 10 := ⟨_, rfl, by decide, zm_f 186 (by decide +kernel) rfl⟩
theorem wcRX9_211 : Cond.methodLink RX9 211 yX3_deficitOf ∈ zTg ∧ Cond.instanceMethod yX3_deficitOf ∈ zTg ∧ Cond.selects RX3 yX3_deficitOf yX3_deficitOf ∈ zTg ∧ Cond.initialized RX3 ∈ zTg ∧ Cond.code yX3_deficitOf cX3_deficitOf 6 (some .int) ∈ zTg := ⟨zm_f 520 (by decide +kernel) rfl, zm_f 521 (by decide +kernel) rfl, zm_f 522 (by decide +kernel) rfl, zm_f 38 (by decide +kernel) rfl, zm_f 523 (by decide +kernel) rfl⟩
theorem wfRX9_214 : zFl RX9 214 5 13 := ⟨_, rfl, by decide, zm_f 195 (by decide +kernel) rfl⟩
theorem wfRX9_218 : zFl RX9 218 1 2 := ⟨_, rfl, by decide, zm_f 150 (by decide +kernel) rfl⟩
theorem wfRX9_223 : zFl RX9 223 1 1 := ⟨_, rfl, by decide, zm_f 148 (by decide +kernel) rfl⟩
theorem wfRX9_226 : zFl RX9 226 5 5 := ⟨_, rfl, by decide, zm_f 176 (by decide +kernel) rfl⟩
theorem wfRX9_229 : zFl RX9 229 5 4 := ⟨_, rfl, by decide, zm_f 174 (by decide +kernel) rfl⟩
def fWB_ofTurbine (a1 : Int32) (a2 : Int32) (s0 : zM) (s1 : zM) (s2 : zM) (s3 : zM) : Option ((Int32) ⊕ (String)) :=
  Option.bind (fWB_checkTurbine a1 s0 s1 s2 s3) (Sum.elim (fun (_ : Unit) =>
  zix a1 8 fun j2 =>
  if a2 < 0 ∨ 9 < a2 then
  some (.inr "java/lang/IllegalArgumentException")
else
  if a2 = 0 then
    some (.inl (s1 7 j2 3))
  else
    if a2 = 1 then
      some (.inl (s1 7 j2 7))
    else
      if a2 = 2 then
        some (.inl (s1 7 j2 8))
      else
        if a2 = 3 then
          some (.inl (s1 7 j2 10))
        else
          if a2 = 4 then
            Option.bind (fSe_deficitOf a1 s1) fun q3 =>
              some (.inl q3)
          else
            if a2 = 5 then
              some (.inl (s1 10 j2 2))
            else
              if a2 = 6 then
                some (.inl (s1 10 j2 1))
              else
                if a2 = 7 then
                  some (.inl (s1 7 j2 5))
                else
                  if a2 = 8 then
                    some (.inl (s1 7 j2 6))
                  else
                    some (.inl (s1 7 j2 4))) (fun b => some (.inr b)))
set_option maxHeartbeats 4000000 in
set_option maxRecDepth 20000 in
theorem bfWB_ofTurbine {X : zX} (F : zFr X cX9_ofTurbine 4 RX9 (some .int)) (a1 : Int32) (a2 : Int32)  (s0 : zM) (s1 : zM) (s2 : zM) (s3 : zM) {κ : (Int32) ⊕ (String) → Option zO} (hκ : ∀ a, κ a = some ((zts (fun q => some (zi q)) (fun _ => [s0, s1, s2, s3]) (fun b => b) (fun _ => [s0, s1, s2, s3])) a)) : zZ X [(2, [1, 2, 3]), (0, []), (0, []), (1, [])] 7 111 4 0 [some (zr 0 0 0), some (zi a1), some (zi a2), none] [] [s0, s1, s2, s3] (Option.bind (fWB_ofTurbine a1 a2 s0 s1 s2 s3) κ) := by
  unfold fWB_ofTurbine
  refine zz_aload_n F (i := 0) dX9_ofTurbine_0 rfl rfl ?_
  refine zz_iload_n F (i := 1) dX9_ofTurbine_1 rfl rfl ?_
  refine zz_bind ?_
  refine zz_callVx F (ρ := [0, 1, 2, 3]) (so := fun _ => []) (Mo := fun _ => [s0, s1, s2, s3]) (Xo := fun _ => [s0, s1, s2, s3]) (zfWB_checkTurbine a1 s0 s1 s2 s3) dX9_ofTurbine_2 wcRX9_113 wy_yX9_checkTurbine rfl ⟨rel2, rfl, rfl, Nat.le_of_ble_eq_true rfl, Nat.le_of_ble_eq_true rfl, Nat.le_of_ble_eq_true rfl⟩ (⟨zlb rfl, zlb rfl, zlb rfl⟩) rfl rfl rfl (fun _ => rfl) (fun _ => rfl) (fun _ => rfl) (fun _ => (hκ _)) fun _ => ?_
  dsimp only [Sum.elim_inl]
  refine zz_aload_n F (i := 0) dX9_ofTurbine_5 rfl rfl ?_
  refine zz_getr F dX9_ofTurbine_6 wfRX9_10 zCl_8 rfl (⟨zlb rfl, zlb rfl, zlb rfl⟩) rfl (by decide) rfl (r' := 1) (by decide) ?_
  refine zz_getr F dX9_ofTurbine_9 wfRX9_118 zCl_3 rfl (⟨zlb rfl, zlb rfl, zlb rfl⟩) rfl (by decide) rfl (r' := 1) (by decide) ?_
  refine zz_iload_n F (i := 1) dX9_ofTurbine_12 rfl rfl ?_
  refine zz_ix fun j2 hj2 hinj2 hej2 => zz_aal F dX9_ofTurbine_13 rfl (⟨zlb rfl, zlb rfl, zlb rfl⟩) rfl (by decide) rfl hinj2 hej2 rfl ?_
  refine zz_astore_n F (i := 3) (L' := [some (zr 0 0 0), some (zi a1), some (zi a2), some (zr 1 7 j2)]) dX9_ofTurbine_14 rfl (by decide) rfl rfl ?_
  refine zz_iload_n F (i := 2) dX9_ofTurbine_15 rfl rfl ?_
  refine zz_sw (c := a2 < 0 ∨ 9 < a2) (fun h => ?_) (fun h => ?_)
  · refine zz_tableOut F (tgt := 132) dX9_ofTurbine_16 (zsw_out (lw := 0) (hi := 9) (a := 0) (b := 9) (by decide) (by decide) h) (by decide) ?_
    exact zz_throw F (cls := "java/lang/IllegalArgumentException") dX9_ofTurbine_132 dX9_ofTurbine_135 dX9_ofTurbine_136 dX9_ofTurbine_138 dX9_ofTurbine_141 (by decide) wtRX9_30_34k wsRX9_232 wtRX9_30_34g wtRX9_30_34n wtRX9_30_34o (Nat.le_of_ble_eq_true rfl) (Nat.le_of_ble_eq_true rfl) (hκ _)
  · refine zz_sw (c := a2 = 0) (fun hv => ?_) (fun hn0 => ?_)
    · refine zz_tableIn F (tgt := 72) (off := 56) dX9_ofTurbine_16 (by rw [zsw_at (k := 0) (a := 0) hv (by decide)]; decide) (by rw [zsw_at (k := 0) (a := 0) hv (by decide)]; decide) (by rw [zsw_at (k := 0) (a := 0) hv (by decide)]; rfl) (by decide) ?_
      refine zz_aload_n F (i := 3) dX9_ofTurbine_72 rfl rfl ?_
      refine zz_getf F dX9_ofTurbine_73 wfRX9_127 zCl_5 rfl (⟨zlb rfl, zlb rfl, hj2⟩) rfl (by decide) rfl rfl ?_
      exact zz_ireturn F dX9_ofTurbine_76 rfl (hκ _)
    · refine zz_sw (c := a2 = 1) (fun hv => ?_) (fun hn1 => ?_)
      · refine zz_tableIn F (tgt := 77) (off := 61) dX9_ofTurbine_16 (by rw [zsw_at (k := 1) (a := 1) hv (by decide)]; decide) (by rw [zsw_at (k := 1) (a := 1) hv (by decide)]; decide) (by rw [zsw_at (k := 1) (a := 1) hv (by decide)]; rfl) (by decide) ?_
        refine zz_aload_n F (i := 3) dX9_ofTurbine_77 rfl rfl ?_
        refine zz_getf F dX9_ofTurbine_78 wfRX9_122 zCl_5 rfl (⟨zlb rfl, zlb rfl, hj2⟩) rfl (by decide) rfl rfl ?_
        exact zz_ireturn F dX9_ofTurbine_81 rfl (hκ _)
      · refine zz_sw (c := a2 = 2) (fun hv => ?_) (fun hn2 => ?_)
        · refine zz_tableIn F (tgt := 82) (off := 66) dX9_ofTurbine_16 (by rw [zsw_at (k := 2) (a := 2) hv (by decide)]; decide) (by rw [zsw_at (k := 2) (a := 2) hv (by decide)]; decide) (by rw [zsw_at (k := 2) (a := 2) hv (by decide)]; rfl) (by decide) ?_
          refine zz_aload_n F (i := 3) dX9_ofTurbine_82 rfl rfl ?_
          refine zz_getf F dX9_ofTurbine_83 wfRX9_205 zCl_5 rfl (⟨zlb rfl, zlb rfl, hj2⟩) rfl (by decide) rfl rfl ?_
          exact zz_ireturn F dX9_ofTurbine_86 rfl (hκ _)
        · refine zz_sw (c := a2 = 3) (fun hv => ?_) (fun hn3 => ?_)
          · refine zz_tableIn F (tgt := 87) (off := 71) dX9_ofTurbine_16 (by rw [zsw_at (k := 3) (a := 3) hv (by decide)]; decide) (by rw [zsw_at (k := 3) (a := 3) hv (by decide)]; decide) (by rw [zsw_at (k := 3) (a := 3) hv (by decide)]; rfl) (by decide) ?_
            refine zz_aload_n F (i := 3) dX9_ofTurbine_87 rfl rfl ?_
            refine zz_getf F dX9_ofTurbine_88 wfRX9_208 zCl_5 rfl (⟨zlb rfl, zlb rfl, hj2⟩) rfl (by decide) rfl rfl ?_
            exact zz_ireturn F dX9_ofTurbine_91 rfl (hκ _)
          · refine zz_sw (c := a2 = 4) (fun hv => ?_) (fun hn4 => ?_)
            · refine zz_tableIn F (tgt := 92) (off := 76) dX9_ofTurbine_16 (by rw [zsw_at (k := 4) (a := 4) hv (by decide)]; decide) (by rw [zsw_at (k := 4) (a := 4) hv (by decide)]; decide) (by rw [zsw_at (k := 4) (a := 4) hv (by decide)]; rfl) (by decide) ?_
              refine zz_aload_n F (i := 0) dX9_ofTurbine_92 rfl rfl ?_
              refine zz_getr F dX9_ofTurbine_93 wfRX9_10 zCl_8 rfl (⟨zlb rfl, zlb rfl, zlb rfl⟩) rfl (by decide) rfl (r' := 1) (by decide) ?_
              refine zz_iload_n F (i := 1) dX9_ofTurbine_96 rfl rfl ?_
              refine zz_bind ?_
              refine zz_callVr F (ρ := [1]) (so := fun q3 => [zi q3]) (Mo := fun q3 => [s0, s1, s2, s3]) (zfSe_deficitOf a1 s1) dX9_ofTurbine_97 wcRX9_211 wy_yX3_deficitOf rfl ⟨rel1, rfl, rfl, Nat.le_of_ble_eq_true rfl, Nat.le_of_ble_eq_true rfl, Nat.le_of_ble_eq_true rfl⟩ (⟨zlb rfl, zlb rfl, zlb rfl⟩) rfl rfl rfl (fun _ => rfl) (fun _ => rfl) fun q3 => ?_
              exact zz_ireturn F dX9_ofTurbine_100 rfl (hκ _)
            · refine zz_sw (c := a2 = 5) (fun hv => ?_) (fun hn5 => ?_)
              · refine zz_tableIn F (tgt := 101) (off := 85) dX9_ofTurbine_16 (by rw [zsw_at (k := 5) (a := 5) hv (by decide)]; decide) (by rw [zsw_at (k := 5) (a := 5) hv (by decide)]; decide) (by rw [zsw_at (k := 5) (a := 5) hv (by decide)]; rfl) (by decide) ?_
                refine zz_aload_n F (i := 3) dX9_ofTurbine_101 rfl rfl ?_
                refine zz_getr F dX9_ofTurbine_102 wfRX9_214 zCl_5 rfl (⟨zlb rfl, zlb rfl, hj2⟩) rfl (by decide) rfl (r' := 1) (by decide) ?_
                refine zz_getf F dX9_ofTurbine_105 wfRX9_218 zCl_1 rfl (⟨zlb rfl, zlb rfl, hj2⟩) rfl (by decide) rfl rfl ?_
                exact zz_ireturn F dX9_ofTurbine_108 rfl (hκ _)
              · refine zz_sw (c := a2 = 6) (fun hv => ?_) (fun hn6 => ?_)
                · refine zz_tableIn F (tgt := 109) (off := 93) dX9_ofTurbine_16 (by rw [zsw_at (k := 6) (a := 6) hv (by decide)]; decide) (by rw [zsw_at (k := 6) (a := 6) hv (by decide)]; decide) (by rw [zsw_at (k := 6) (a := 6) hv (by decide)]; rfl) (by decide) ?_
                  refine zz_aload_n F (i := 3) dX9_ofTurbine_109 rfl rfl ?_
                  refine zz_getr F dX9_ofTurbine_110 wfRX9_214 zCl_5 rfl (⟨zlb rfl, zlb rfl, hj2⟩) rfl (by decide) rfl (r' := 1) (by decide) ?_
                  refine zz_getf F dX9_ofTurbine_113 wfRX9_223 zCl_1 rfl (⟨zlb rfl, zlb rfl, hj2⟩) rfl (by decide) rfl rfl ?_
                  exact zz_ireturn F dX9_ofTurbine_116 rfl (hκ _)
                · refine zz_sw (c := a2 = 7) (fun hv => ?_) (fun hn7 => ?_)
                  · refine zz_tableIn F (tgt := 117) (off := 101) dX9_ofTurbine_16 (by rw [zsw_at (k := 7) (a := 7) hv (by decide)]; decide) (by rw [zsw_at (k := 7) (a := 7) hv (by decide)]; decide) (by rw [zsw_at (k := 7) (a := 7) hv (by decide)]; rfl) (by decide) ?_
                    refine zz_aload_n F (i := 3) dX9_ofTurbine_117 rfl rfl ?_
                    refine zz_getf F dX9_ofTurbine_118 wfRX9_226 zCl_5 rfl (⟨zlb rfl, zlb rfl, hj2⟩) rfl (by decide) rfl rfl ?_
                    exact zz_ireturn F dX9_ofTurbine_121 rfl (hκ _)
                  · refine zz_sw (c := a2 = 8) (fun hv => ?_) (fun hn8 => ?_)
                    · refine zz_tableIn F (tgt := 122) (off := 106) dX9_ofTurbine_16 (by rw [zsw_at (k := 8) (a := 8) hv (by decide)]; decide) (by rw [zsw_at (k := 8) (a := 8) hv (by decide)]; decide) (by rw [zsw_at (k := 8) (a := 8) hv (by decide)]; rfl) (by decide) ?_
                      refine zz_aload_n F (i := 3) dX9_ofTurbine_122 rfl rfl ?_
                      refine zz_getf F dX9_ofTurbine_123 wfRX9_177 zCl_5 rfl (⟨zlb rfl, zlb rfl, hj2⟩) rfl (by decide) rfl rfl ?_
                      exact zz_ireturn F dX9_ofTurbine_126 rfl (hκ _)
                    · have hv : a2 = 9 := zsw_eq (a := 9) (by decide) (by have h1 := zsw_in (lw := 0) (hi := 9) (a := 0) (b := 9) (by decide) (by decide) h; have e0 := zsw_ne (a := 0) (by decide) hn0; have e1 := zsw_ne (a := 1) (by decide) hn1; have e2 := zsw_ne (a := 2) (by decide) hn2; have e3 := zsw_ne (a := 3) (by decide) hn3; have e4 := zsw_ne (a := 4) (by decide) hn4; have e5 := zsw_ne (a := 5) (by decide) hn5; have e6 := zsw_ne (a := 6) (by decide) hn6; have e7 := zsw_ne (a := 7) (by decide) hn7; have e8 := zsw_ne (a := 8) (by decide) hn8; omega)
                      refine zz_tableIn F (tgt := 127) (off := 111) dX9_ofTurbine_16 (by rw [zsw_at (k := 9) (a := 9) hv (by decide)]; decide) (by rw [zsw_at (k := 9) (a := 9) hv (by decide)]; decide) (by rw [zsw_at (k := 9) (a := 9) hv (by decide)]; rfl) (by decide) ?_
                      refine zz_aload_n F (i := 3) dX9_ofTurbine_127 rfl rfl ?_
                      refine zz_getf F dX9_ofTurbine_128 wfRX9_229 zCl_5 rfl (⟨zlb rfl, zlb rfl, hj2⟩) rfl (by decide) rfl rfl ?_
                      exact zz_ireturn F dX9_ofTurbine_131 rfl (hκ _)
theorem zfWB_ofTurbine (a1 : Int32) (a2 : Int32)  (s0 : zM) (s1 : zM) (s2 : zM) (s3 : zM) : ∀ a, fWB_ofTurbine a1 a2 s0 s1 s2 s3 = some a → zMet yX9_ofTurbine cX9_ofTurbine 4 (some .int) 7 111 [(2, [1, 2, 3]), (0, []), (0, []), (1, [])] [zr 0 0 0, zi a1, zi a2] [s0, s1, s2, s3] ((zts (fun q => some (zi q)) (fun _ => [s0, s1, s2, s3]) (fun b => b) (fun _ => [s0, s1, s2, s3])) a) := fun a ha => zMet_of (L0 := [some (zr 0 0 0), some (zi a1), some (zi a2), none]) (φ := Option.bind (fWB_ofTurbine a1 a2 s0 s1 s2 s3) (fun a => some ((zts (fun q => some (zi q)) (fun _ => [s0, s1, s2, s3]) (fun b => b) (fun _ => [s0, s1, s2, s3])) a))) (by decide) (fun _ => Nat.le_of_ble_eq_true rfl) (zl0 1 rfl) (fun X F => bfWB_ofTurbine F a1 a2 s0 s1 s2 s3 (fun _ => rfl)) (by rw [ha]; rfl)

theorem dX9_wear_0 : decode cX9_wear 0 = .ok (.aload_n 0, 1) := by decide +kernel
theorem dX9_wear_1 : decode cX9_wear 1 = .ok (.iload_n 1, 1) := by decide +kernel
theorem dX9_wear_2 : decode cX9_wear 2 = .ok (.invokevirtual 113, 3) := by decide +kernel
theorem dX9_wear_5 : decode cX9_wear 5 = .ok (.iload_n 2, 1) := by decide +kernel
theorem dX9_wear_6 : decode cX9_wear 6 = .ok (.invokestatic 185, 3) := by decide +kernel
theorem dX9_wear_9 : decode cX9_wear 9 = .ok (.aload_n 0, 1) := by decide +kernel
theorem dX9_wear_10 : decode cX9_wear 10 = .ok (.getfield 10, 3) := by decide +kernel
theorem dX9_wear_13 : decode cX9_wear 13 = .ok (.getfield 118, 3) := by decide +kernel
theorem dX9_wear_16 : decode cX9_wear 16 = .ok (.iload_n 1, 1) := by decide +kernel
theorem dX9_wear_17 : decode cX9_wear 17 = .ok (.aaload, 1) := by decide +kernel
theorem dX9_wear_18 : decode cX9_wear 18 = .ok (.getfield 234, 3) := by decide +kernel
theorem dX9_wear_21 : decode cX9_wear 21 = .ok (.iload_n 2, 1) := by decide +kernel
theorem dX9_wear_22 : decode cX9_wear 22 = .ok (.iaload, 1) := by decide +kernel
theorem dX9_wear_23 : decode cX9_wear 23 = .ok (.ireturn, 1) := by decide +kernel
theorem wfRX9_234 : zFl RX9 234 5 11 := ⟨_, rfl, by decide, zm_f 189 (by decide +kernel) rfl⟩
def fWB_wear (a1 : Int32) (a2 : Int32) (s0 : zM) (s1 : zM) (s2 : zM) (s3 : zM) : Option ((Int32) ⊕ (String)) :=
  Option.bind (fWB_checkTurbine a1 s0 s1 s2 s3) (Sum.elim (fun (_ : Unit) =>
  Option.bind (fWB_checkPart a2) (Sum.elim (fun (_ : Unit) =>
  zix a1 8 fun j3 =>
  zix a2 3 fun j4 =>
  some (.inl (s1 8 j3 j4))) (fun b => some (.inr b)))) (fun b => some (.inr b)))
set_option maxHeartbeats 4000000 in
set_option maxRecDepth 20000 in
theorem bfWB_wear {X : zX} (F : zFr X cX9_wear 3 RX9 (some .int)) (a1 : Int32) (a2 : Int32)  (s0 : zM) (s1 : zM) (s2 : zM) (s3 : zM) {κ : (Int32) ⊕ (String) → Option zO} (hκ : ∀ a, κ a = some ((zts (fun q => some (zi q)) (fun _ => [s0, s1, s2, s3]) (fun b => b) (fun _ => [s0, s1, s2, s3])) a)) : zZ X [(2, [1, 2, 3]), (0, []), (0, []), (1, [])] 7 111 3 0 [some (zr 0 0 0), some (zi a1), some (zi a2)] [] [s0, s1, s2, s3] (Option.bind (fWB_wear a1 a2 s0 s1 s2 s3) κ) := by
  unfold fWB_wear
  refine zz_aload_n F (i := 0) dX9_wear_0 rfl rfl ?_
  refine zz_iload_n F (i := 1) dX9_wear_1 rfl rfl ?_
  refine zz_bind ?_
  refine zz_callVx F (ρ := [0, 1, 2, 3]) (so := fun _ => []) (Mo := fun _ => [s0, s1, s2, s3]) (Xo := fun _ => [s0, s1, s2, s3]) (zfWB_checkTurbine a1 s0 s1 s2 s3) dX9_wear_2 wcRX9_113 wy_yX9_checkTurbine rfl ⟨rel2, rfl, rfl, Nat.le_of_ble_eq_true rfl, Nat.le_of_ble_eq_true rfl, Nat.le_of_ble_eq_true rfl⟩ (⟨zlb rfl, zlb rfl, zlb rfl⟩) rfl rfl rfl (fun _ => rfl) (fun _ => rfl) (fun _ => rfl) (fun _ => (hκ _)) fun _ => ?_
  dsimp only [Sum.elim_inl]
  refine zz_iload_n F (i := 2) dX9_wear_5 rfl rfl ?_
  refine zz_bind ?_
  refine zz_callSx F (ρ := []) (so := fun _ => []) (Mo := fun _ => [s0, s1, s2, s3]) (Xo := fun _ => [s0, s1, s2, s3]) (zfWB_checkPart a2) dX9_wear_6 wcRX9_185 wy_yX9_checkPart rfl ⟨rel0, rfl, rfl, Nat.le_of_ble_eq_true rfl, Nat.le_of_ble_eq_true rfl, Nat.le_of_ble_eq_true rfl⟩ rfl (fun _ => rfl) (fun _ => rfl) (fun _ => rfl) (fun _ => (hκ _)) fun _ => ?_
  dsimp only [Sum.elim_inl]
  refine zz_aload_n F (i := 0) dX9_wear_9 rfl rfl ?_
  refine zz_getr F dX9_wear_10 wfRX9_10 zCl_8 rfl (⟨zlb rfl, zlb rfl, zlb rfl⟩) rfl (by decide) rfl (r' := 1) (by decide) ?_
  refine zz_getr F dX9_wear_13 wfRX9_118 zCl_3 rfl (⟨zlb rfl, zlb rfl, zlb rfl⟩) rfl (by decide) rfl (r' := 1) (by decide) ?_
  refine zz_iload_n F (i := 1) dX9_wear_16 rfl rfl ?_
  refine zz_ix fun j3 hj3 hinj3 hej3 => zz_aal F dX9_wear_17 rfl (⟨zlb rfl, zlb rfl, zlb rfl⟩) rfl (by decide) rfl hinj3 hej3 rfl ?_
  refine zz_getr F dX9_wear_18 wfRX9_234 zCl_5 rfl (⟨zlb rfl, zlb rfl, hj3⟩) rfl (by decide) rfl (r' := 1) (by decide) ?_
  refine zz_iload_n F (i := 2) dX9_wear_21 rfl rfl ?_
  refine zz_ix fun j4 hj4 hinj4 hej4 => zz_ial F dX9_wear_22 rfl (⟨zlb rfl, zlb rfl, hj3⟩) rfl hinj4 hej4 ?_
  exact zz_ireturn F dX9_wear_23 rfl (hκ _)
theorem zfWB_wear (a1 : Int32) (a2 : Int32)  (s0 : zM) (s1 : zM) (s2 : zM) (s3 : zM) : ∀ a, fWB_wear a1 a2 s0 s1 s2 s3 = some a → zMet yX9_wear cX9_wear 3 (some .int) 7 111 [(2, [1, 2, 3]), (0, []), (0, []), (1, [])] [zr 0 0 0, zi a1, zi a2] [s0, s1, s2, s3] ((zts (fun q => some (zi q)) (fun _ => [s0, s1, s2, s3]) (fun b => b) (fun _ => [s0, s1, s2, s3])) a) := fun a ha => zMet_of (L0 := [some (zr 0 0 0), some (zi a1), some (zi a2)]) (φ := Option.bind (fWB_wear a1 a2 s0 s1 s2 s3) (fun a => some ((zts (fun q => some (zi q)) (fun _ => [s0, s1, s2, s3]) (fun b => b) (fun _ => [s0, s1, s2, s3])) a))) (by decide) (fun _ => Nat.le_of_ble_eq_true rfl) (zl0 0 rfl) (fun X F => bfWB_wear F a1 a2 s0 s1 s2 s3 (fun _ => rfl)) (by rw [ha]; rfl)

theorem dX9_lost_0 : decode cX9_lost 0 = .ok (.aload_n 0, 1) := by decide +kernel
theorem dX9_lost_1 : decode cX9_lost 1 = .ok (.iload_n 1, 1) := by decide +kernel
theorem dX9_lost_2 : decode cX9_lost 2 = .ok (.invokevirtual 113, 3) := by decide +kernel
theorem dX9_lost_5 : decode cX9_lost 5 = .ok (.iload_n 2, 1) := by decide +kernel
theorem dX9_lost_6 : decode cX9_lost 6 = .ok (.iconst 0, 1) := by decide +kernel
theorem dX9_lost_7 : decode cX9_lost 7 = .ok (.bipush 7, 2) := by decide +kernel
theorem dX9_lost_9 : decode cX9_lost 9 = .ok (.invokestatic 26, 3) := by decide +kernel
theorem dX9_lost_12 : decode cX9_lost 12 = .ok (.ifCond .eq 13, 3) := by decide +kernel
theorem dX9_lost_15 : decode cX9_lost 15 = .ok (.new 238, 3) := by decide +kernel
theorem dX9_lost_18 : decode cX9_lost 18 = .ok (.dup, 1) := by decide +kernel
theorem dX9_lost_19 : decode cX9_lost 19 = .ok (.ldc 240, 2) := by decide +kernel
theorem dX9_lost_21 : decode cX9_lost 21 = .ok (.invokespecial 242, 3) := by decide +kernel
theorem dX9_lost_24 : decode cX9_lost 24 = .ok (.athrow, 1) := by decide +kernel
theorem dX9_lost_25 : decode cX9_lost 25 = .ok (.aload_n 0, 1) := by decide +kernel
theorem dX9_lost_26 : decode cX9_lost 26 = .ok (.getfield 10, 3) := by decide +kernel
theorem dX9_lost_29 : decode cX9_lost 29 = .ok (.getfield 118, 3) := by decide +kernel
theorem dX9_lost_32 : decode cX9_lost 32 = .ok (.iload_n 1, 1) := by decide +kernel
theorem dX9_lost_33 : decode cX9_lost 33 = .ok (.aaload, 1) := by decide +kernel
theorem dX9_lost_34 : decode cX9_lost 34 = .ok (.getfield 243, 3) := by decide +kernel
theorem dX9_lost_37 : decode cX9_lost 37 = .ok (.iload_n 2, 1) := by decide +kernel
theorem dX9_lost_38 : decode cX9_lost 38 = .ok (.iaload, 1) := by decide +kernel
theorem dX9_lost_39 : decode cX9_lost 39 = .ok (.ireturn, 1) := by decide +kernel
theorem wfRX9_243 : zFl RX9 243 5 12 := ⟨_, rfl, by decide, zm_f 192 (by decide +kernel) rfl⟩
theorem wsRX9_240 : (RX9, 240, "no such CAUSE") ∈ zstr := by decide +kernel
def fWB_lost (a1 : Int32) (a2 : Int32) (s0 : zM) (s1 : zM) (s2 : zM) (s3 : zM) : Option ((Int32) ⊕ (String)) :=
  Option.bind (fWB_checkTurbine a1 s0 s1 s2 s3) (Sum.elim (fun (_ : Unit) =>
  Option.bind (fWB_outside a2 (0 : Int32) (7 : Int32)) fun q2 =>
  if q2 = 0 then
  zix a1 8 fun j3 =>
    zix a2 8 fun j4 =>
    some (.inl (s1 9 j3 j4))
else
  some (.inr "java/lang/IndexOutOfBoundsException")) (fun b => some (.inr b)))
set_option maxHeartbeats 4000000 in
set_option maxRecDepth 20000 in
theorem bfWB_lost {X : zX} (F : zFr X cX9_lost 3 RX9 (some .int)) (a1 : Int32) (a2 : Int32)  (s0 : zM) (s1 : zM) (s2 : zM) (s3 : zM) {κ : (Int32) ⊕ (String) → Option zO} (hκ : ∀ a, κ a = some ((zts (fun q => some (zi q)) (fun _ => [s0, s1, s2, s3]) (fun b => b) (fun _ => [s0, s1, s2, s3])) a)) : zZ X [(2, [1, 2, 3]), (0, []), (0, []), (1, [])] 7 111 3 0 [some (zr 0 0 0), some (zi a1), some (zi a2)] [] [s0, s1, s2, s3] (Option.bind (fWB_lost a1 a2 s0 s1 s2 s3) κ) := by
  unfold fWB_lost
  refine zz_aload_n F (i := 0) dX9_lost_0 rfl rfl ?_
  refine zz_iload_n F (i := 1) dX9_lost_1 rfl rfl ?_
  refine zz_bind ?_
  refine zz_callVx F (ρ := [0, 1, 2, 3]) (so := fun _ => []) (Mo := fun _ => [s0, s1, s2, s3]) (Xo := fun _ => [s0, s1, s2, s3]) (zfWB_checkTurbine a1 s0 s1 s2 s3) dX9_lost_2 wcRX9_113 wy_yX9_checkTurbine rfl ⟨rel2, rfl, rfl, Nat.le_of_ble_eq_true rfl, Nat.le_of_ble_eq_true rfl, Nat.le_of_ble_eq_true rfl⟩ (⟨zlb rfl, zlb rfl, zlb rfl⟩) rfl rfl rfl (fun _ => rfl) (fun _ => rfl) (fun _ => rfl) (fun _ => (hκ _)) fun _ => ?_
  dsimp only [Sum.elim_inl]
  refine zz_iload_n F (i := 2) dX9_lost_5 rfl rfl ?_
  refine zz_iconst F (v := (0 : Int32)) dX9_lost_6 (by decide) ?_
  refine zz_bipush F (v := (7 : Int32)) dX9_lost_7 (by decide) ?_
  refine zz_bind ?_
  refine zz_callSr F (ρ := []) (so := fun q2 => [zi q2]) (Mo := fun q2 => [s0, s1, s2, s3]) (zfWB_outside a2 (0 : Int32) (7 : Int32)) dX9_lost_9 wcRX9_26 wy_yX9_outside rfl ⟨rel0, rfl, rfl, Nat.le_of_ble_eq_true rfl, Nat.le_of_ble_eq_true rfl, Nat.le_of_ble_eq_true rfl⟩ rfl (fun _ => rfl) (fun _ => rfl) fun q2 => ?_
  refine zz_if_eq F (tgt := 25) dX9_lost_12 (by decide) (fun h => zz_t h ?_) (fun h => zz_f h ?_)
  · refine zz_aload_n F (i := 0) dX9_lost_25 rfl rfl ?_
    refine zz_getr F dX9_lost_26 wfRX9_10 zCl_8 rfl (⟨zlb rfl, zlb rfl, zlb rfl⟩) rfl (by decide) rfl (r' := 1) (by decide) ?_
    refine zz_getr F dX9_lost_29 wfRX9_118 zCl_3 rfl (⟨zlb rfl, zlb rfl, zlb rfl⟩) rfl (by decide) rfl (r' := 1) (by decide) ?_
    refine zz_iload_n F (i := 1) dX9_lost_32 rfl rfl ?_
    refine zz_ix fun j3 hj3 hinj3 hej3 => zz_aal F dX9_lost_33 rfl (⟨zlb rfl, zlb rfl, zlb rfl⟩) rfl (by decide) rfl hinj3 hej3 rfl ?_
    refine zz_getr F dX9_lost_34 wfRX9_243 zCl_5 rfl (⟨zlb rfl, zlb rfl, hj3⟩) rfl (by decide) rfl (r' := 1) (by decide) ?_
    refine zz_iload_n F (i := 2) dX9_lost_37 rfl rfl ?_
    refine zz_ix fun j4 hj4 hinj4 hej4 => zz_ial F dX9_lost_38 rfl (⟨zlb rfl, zlb rfl, hj3⟩) rfl hinj4 hej4 ?_
    exact zz_ireturn F dX9_lost_39 rfl (hκ _)
  · exact zz_throw F (cls := "java/lang/IndexOutOfBoundsException") dX9_lost_15 dX9_lost_18 dX9_lost_19 dX9_lost_21 dX9_lost_24 (by decide) wtRX9_238_242k wsRX9_240 wtRX9_238_242g wtRX9_238_242n wtRX9_238_242o (Nat.le_of_ble_eq_true rfl) (Nat.le_of_ble_eq_true rfl) (hκ _)
theorem zfWB_lost (a1 : Int32) (a2 : Int32)  (s0 : zM) (s1 : zM) (s2 : zM) (s3 : zM) : ∀ a, fWB_lost a1 a2 s0 s1 s2 s3 = some a → zMet yX9_lost cX9_lost 3 (some .int) 7 111 [(2, [1, 2, 3]), (0, []), (0, []), (1, [])] [zr 0 0 0, zi a1, zi a2] [s0, s1, s2, s3] ((zts (fun q => some (zi q)) (fun _ => [s0, s1, s2, s3]) (fun b => b) (fun _ => [s0, s1, s2, s3])) a) := fun a ha => zMet_of (L0 := [some (zr 0 0 0), some (zi a1), some (zi a2)]) (φ := Option.bind (fWB_lost a1 a2 s0 s1 s2 s3) (fun a => some ((zts (fun q => some (zi q)) (fun _ => [s0, s1, s2, s3]) (fun b => b) (fun _ => [s0, s1, s2, s3])) a))) (by decide) (fun _ => Nat.le_of_ble_eq_true rfl) (zl0 0 rfl) (fun X F => bfWB_lost F a1 a2 s0 s1 s2 s3 (fun _ => rfl)) (by rw [ha]; rfl)

theorem dX9_wake_0 : decode cX9_wake 0 = .ok (.aload_n 0, 1) := by decide +kernel
theorem dX9_wake_1 : decode cX9_wake 1 = .ok (.iload_n 1, 1) := by decide +kernel
theorem dX9_wake_2 : decode cX9_wake 2 = .ok (.invokevirtual 113, 3) := by decide +kernel
theorem dX9_wake_5 : decode cX9_wake 5 = .ok (.aload_n 0, 1) := by decide +kernel
theorem dX9_wake_6 : decode cX9_wake 6 = .ok (.iload_n 2, 1) := by decide +kernel
theorem dX9_wake_7 : decode cX9_wake 7 = .ok (.invokevirtual 113, 3) := by decide +kernel
theorem dX9_wake_10 : decode cX9_wake 10 = .ok (.aload_n 0, 1) := by decide +kernel
theorem dX9_wake_11 : decode cX9_wake 11 = .ok (.getfield 10, 3) := by decide +kernel
theorem dX9_wake_14 : decode cX9_wake 14 = .ok (.iload_n 2, 1) := by decide +kernel
theorem dX9_wake_15 : decode cX9_wake 15 = .ok (.iload_n 1, 1) := by decide +kernel
theorem dX9_wake_16 : decode cX9_wake 16 = .ok (.invokevirtual 246, 3) := by decide +kernel
theorem dX9_wake_19 : decode cX9_wake 19 = .ok (.ireturn, 1) := by decide +kernel
theorem wcRX9_246 : Cond.methodLink RX9 246 yX3_deficitBy ∈ zTg ∧ Cond.instanceMethod yX3_deficitBy ∈ zTg ∧ Cond.selects RX3 yX3_deficitBy yX3_deficitBy ∈ zTg ∧ Cond.initialized RX3 ∈ zTg ∧ Cond.code yX3_deficitBy cX3_deficitBy 5 (some .int) ∈ zTg := ⟨zm_f 557 (by decide +kernel) rfl, zm_f 525 (by decide +kernel) rfl, zm_f 526 (by decide +kernel) rfl, zm_f 38 (by decide +kernel) rfl, zm_f 527 (by decide +kernel) rfl⟩
def fWB_wake (a1 : Int32) (a2 : Int32) (s0 : zM) (s1 : zM) (s2 : zM) (s3 : zM) : Option ((Int32) ⊕ (String)) :=
  Option.bind (fWB_checkTurbine a1 s0 s1 s2 s3) (Sum.elim (fun (_ : Unit) =>
  Option.bind (fWB_checkTurbine a2 s0 s1 s2 s3) (Sum.elim (fun (_ : Unit) =>
  Option.bind (fSe_deficitBy a2 a1 s1) fun q3 =>
  some (.inl q3)) (fun b => some (.inr b)))) (fun b => some (.inr b)))
set_option maxHeartbeats 4000000 in
set_option maxRecDepth 20000 in
theorem bfWB_wake {X : zX} (F : zFr X cX9_wake 3 RX9 (some .int)) (a1 : Int32) (a2 : Int32)  (s0 : zM) (s1 : zM) (s2 : zM) (s3 : zM) {κ : (Int32) ⊕ (String) → Option zO} (hκ : ∀ a, κ a = some ((zts (fun q => some (zi q)) (fun _ => [s0, s1, s2, s3]) (fun b => b) (fun _ => [s0, s1, s2, s3])) a)) : zZ X [(2, [1, 2, 3]), (0, []), (0, []), (1, [])] 7 111 3 0 [some (zr 0 0 0), some (zi a1), some (zi a2)] [] [s0, s1, s2, s3] (Option.bind (fWB_wake a1 a2 s0 s1 s2 s3) κ) := by
  unfold fWB_wake
  refine zz_aload_n F (i := 0) dX9_wake_0 rfl rfl ?_
  refine zz_iload_n F (i := 1) dX9_wake_1 rfl rfl ?_
  refine zz_bind ?_
  refine zz_callVx F (ρ := [0, 1, 2, 3]) (so := fun _ => []) (Mo := fun _ => [s0, s1, s2, s3]) (Xo := fun _ => [s0, s1, s2, s3]) (zfWB_checkTurbine a1 s0 s1 s2 s3) dX9_wake_2 wcRX9_113 wy_yX9_checkTurbine rfl ⟨rel2, rfl, rfl, Nat.le_of_ble_eq_true rfl, Nat.le_of_ble_eq_true rfl, Nat.le_of_ble_eq_true rfl⟩ (⟨zlb rfl, zlb rfl, zlb rfl⟩) rfl rfl rfl (fun _ => rfl) (fun _ => rfl) (fun _ => rfl) (fun _ => (hκ _)) fun _ => ?_
  dsimp only [Sum.elim_inl]
  refine zz_aload_n F (i := 0) dX9_wake_5 rfl rfl ?_
  refine zz_iload_n F (i := 2) dX9_wake_6 rfl rfl ?_
  refine zz_bind ?_
  refine zz_callVx F (ρ := [0, 1, 2, 3]) (so := fun _ => []) (Mo := fun _ => [s0, s1, s2, s3]) (Xo := fun _ => [s0, s1, s2, s3]) (zfWB_checkTurbine a2 s0 s1 s2 s3) dX9_wake_7 wcRX9_113 wy_yX9_checkTurbine rfl ⟨rel2, rfl, rfl, Nat.le_of_ble_eq_true rfl, Nat.le_of_ble_eq_true rfl, Nat.le_of_ble_eq_true rfl⟩ (⟨zlb rfl, zlb rfl, zlb rfl⟩) rfl rfl rfl (fun _ => rfl) (fun _ => rfl) (fun _ => rfl) (fun _ => (hκ _)) fun _ => ?_
  dsimp only [Sum.elim_inl]
  refine zz_aload_n F (i := 0) dX9_wake_10 rfl rfl ?_
  refine zz_getr F dX9_wake_11 wfRX9_10 zCl_8 rfl (⟨zlb rfl, zlb rfl, zlb rfl⟩) rfl (by decide) rfl (r' := 1) (by decide) ?_
  refine zz_iload_n F (i := 2) dX9_wake_14 rfl rfl ?_
  refine zz_iload_n F (i := 1) dX9_wake_15 rfl rfl ?_
  refine zz_bind ?_
  refine zz_callVr F (ρ := [1]) (so := fun q3 => [zi q3]) (Mo := fun q3 => [s0, s1, s2, s3]) (zfSe_deficitBy a2 a1 s1) dX9_wake_16 wcRX9_246 wy_yX3_deficitBy rfl ⟨rel1, rfl, rfl, Nat.le_of_ble_eq_true rfl, Nat.le_of_ble_eq_true rfl, Nat.le_of_ble_eq_true rfl⟩ (⟨zlb rfl, zlb rfl, zlb rfl⟩) rfl rfl rfl (fun _ => rfl) (fun _ => rfl) fun q3 => ?_
  exact zz_ireturn F dX9_wake_19 rfl (hκ _)
theorem zfWB_wake (a1 : Int32) (a2 : Int32)  (s0 : zM) (s1 : zM) (s2 : zM) (s3 : zM) : ∀ a, fWB_wake a1 a2 s0 s1 s2 s3 = some a → zMet yX9_wake cX9_wake 3 (some .int) 7 111 [(2, [1, 2, 3]), (0, []), (0, []), (1, [])] [zr 0 0 0, zi a1, zi a2] [s0, s1, s2, s3] ((zts (fun q => some (zi q)) (fun _ => [s0, s1, s2, s3]) (fun b => b) (fun _ => [s0, s1, s2, s3])) a) := fun a ha => zMet_of (L0 := [some (zr 0 0 0), some (zi a1), some (zi a2)]) (φ := Option.bind (fWB_wake a1 a2 s0 s1 s2 s3) (fun a => some ((zts (fun q => some (zi q)) (fun _ => [s0, s1, s2, s3]) (fun b => b) (fun _ => [s0, s1, s2, s3])) a))) (by decide) (fun _ => Nat.le_of_ble_eq_true rfl) (zl0 0 rfl) (fun X F => bfWB_wake F a1 a2 s0 s1 s2 s3 (fun _ => rfl)) (by rw [ha]; rfl)

theorem dX9_extreme_0 : decode cX9_extreme 0 = .ok (.aload_n 0, 1) := by decide +kernel
theorem dX9_extreme_1 : decode cX9_extreme 1 = .ok (.iload_n 1, 1) := by decide +kernel
theorem dX9_extreme_2 : decode cX9_extreme 2 = .ok (.invokevirtual 113, 3) := by decide +kernel
theorem dX9_extreme_5 : decode cX9_extreme 5 = .ok (.aload_n 0, 1) := by decide +kernel
theorem dX9_extreme_6 : decode cX9_extreme 6 = .ok (.getfield 10, 3) := by decide +kernel
theorem dX9_extreme_9 : decode cX9_extreme 9 = .ok (.getfield 118, 3) := by decide +kernel
theorem dX9_extreme_12 : decode cX9_extreme 12 = .ok (.iload_n 1, 1) := by decide +kernel
theorem dX9_extreme_13 : decode cX9_extreme 13 = .ok (.aaload, 1) := by decide +kernel
theorem dX9_extreme_14 : decode cX9_extreme 14 = .ok (.getfield 214, 3) := by decide +kernel
theorem dX9_extreme_17 : decode cX9_extreme 17 = .ok (.astore_n 3, 1) := by decide +kernel
theorem dX9_extreme_18 : decode cX9_extreme 18 = .ok (.iload_n 2, 1) := by decide +kernel
theorem dX9_extreme_19 : decode cX9_extreme 19 = .ok (.iconst 0, 1) := by decide +kernel
theorem dX9_extreme_20 : decode cX9_extreme 20 = .ok (.aload_n 3, 1) := by decide +kernel
theorem dX9_extreme_21 : decode cX9_extreme 21 = .ok (.getfield 223, 3) := by decide +kernel
theorem dX9_extreme_24 : decode cX9_extreme 24 = .ok (.iconst 1, 1) := by decide +kernel
theorem dX9_extreme_25 : decode cX9_extreme 25 = .ok (.isub, 1) := by decide +kernel
theorem dX9_extreme_26 : decode cX9_extreme 26 = .ok (.invokestatic 26, 3) := by decide +kernel
theorem dX9_extreme_29 : decode cX9_extreme 29 = .ok (.ifCond .eq 13, 3) := by decide +kernel
theorem dX9_extreme_32 : decode cX9_extreme 32 = .ok (.new 238, 3) := by decide +kernel
theorem dX9_extreme_35 : decode cX9_extreme 35 = .ok (.dup, 1) := by decide +kernel
theorem dX9_extreme_36 : decode cX9_extreme 36 = .ok (.ldc 250, 2) := by decide +kernel
theorem dX9_extreme_38 : decode cX9_extreme 38 = .ok (.invokespecial 242, 3) := by decide +kernel
theorem dX9_extreme_41 : decode cX9_extreme 41 = .ok (.athrow, 1) := by decide +kernel
theorem dX9_extreme_42 : decode cX9_extreme 42 = .ok (.aload_n 3, 1) := by decide +kernel
theorem dX9_extreme_43 : decode cX9_extreme 43 = .ok (.getfield 252, 3) := by decide +kernel
theorem dX9_extreme_46 : decode cX9_extreme 46 = .ok (.iload_n 2, 1) := by decide +kernel
theorem dX9_extreme_47 : decode cX9_extreme 47 = .ok (.iaload, 1) := by decide +kernel
theorem dX9_extreme_48 : decode cX9_extreme 48 = .ok (.ireturn, 1) := by decide +kernel
theorem wfRX9_252 : zFl RX9 252 1 0 := ⟨_, rfl, by decide, zm_f 146 (by decide +kernel) rfl⟩
theorem wsRX9_250 : (RX9, 250, "no such EXTREME") ∈ zstr := by decide +kernel
def fWB_extreme (a1 : Int32) (a2 : Int32) (s0 : zM) (s1 : zM) (s2 : zM) (s3 : zM) : Option ((Int32) ⊕ (String)) :=
  Option.bind (fWB_checkTurbine a1 s0 s1 s2 s3) (Sum.elim (fun (_ : Unit) =>
  zix a1 8 fun j2 =>
  Option.bind (fWB_outside a2 (0 : Int32) ((s1 10 j2 1) - (1 : Int32))) fun q3 =>
  if q3 = 0 then
  zix a2 30 fun j4 =>
    some (.inl (s1 11 j2 j4))
else
  some (.inr "java/lang/IndexOutOfBoundsException")) (fun b => some (.inr b)))
set_option maxHeartbeats 4000000 in
set_option maxRecDepth 20000 in
theorem bfWB_extreme {X : zX} (F : zFr X cX9_extreme 4 RX9 (some .int)) (a1 : Int32) (a2 : Int32)  (s0 : zM) (s1 : zM) (s2 : zM) (s3 : zM) {κ : (Int32) ⊕ (String) → Option zO} (hκ : ∀ a, κ a = some ((zts (fun q => some (zi q)) (fun _ => [s0, s1, s2, s3]) (fun b => b) (fun _ => [s0, s1, s2, s3])) a)) : zZ X [(2, [1, 2, 3]), (0, []), (0, []), (1, [])] 7 111 4 0 [some (zr 0 0 0), some (zi a1), some (zi a2), none] [] [s0, s1, s2, s3] (Option.bind (fWB_extreme a1 a2 s0 s1 s2 s3) κ) := by
  unfold fWB_extreme
  refine zz_aload_n F (i := 0) dX9_extreme_0 rfl rfl ?_
  refine zz_iload_n F (i := 1) dX9_extreme_1 rfl rfl ?_
  refine zz_bind ?_
  refine zz_callVx F (ρ := [0, 1, 2, 3]) (so := fun _ => []) (Mo := fun _ => [s0, s1, s2, s3]) (Xo := fun _ => [s0, s1, s2, s3]) (zfWB_checkTurbine a1 s0 s1 s2 s3) dX9_extreme_2 wcRX9_113 wy_yX9_checkTurbine rfl ⟨rel2, rfl, rfl, Nat.le_of_ble_eq_true rfl, Nat.le_of_ble_eq_true rfl, Nat.le_of_ble_eq_true rfl⟩ (⟨zlb rfl, zlb rfl, zlb rfl⟩) rfl rfl rfl (fun _ => rfl) (fun _ => rfl) (fun _ => rfl) (fun _ => (hκ _)) fun _ => ?_
  dsimp only [Sum.elim_inl]
  refine zz_aload_n F (i := 0) dX9_extreme_5 rfl rfl ?_
  refine zz_getr F dX9_extreme_6 wfRX9_10 zCl_8 rfl (⟨zlb rfl, zlb rfl, zlb rfl⟩) rfl (by decide) rfl (r' := 1) (by decide) ?_
  refine zz_getr F dX9_extreme_9 wfRX9_118 zCl_3 rfl (⟨zlb rfl, zlb rfl, zlb rfl⟩) rfl (by decide) rfl (r' := 1) (by decide) ?_
  refine zz_iload_n F (i := 1) dX9_extreme_12 rfl rfl ?_
  refine zz_ix fun j2 hj2 hinj2 hej2 => zz_aal F dX9_extreme_13 rfl (⟨zlb rfl, zlb rfl, zlb rfl⟩) rfl (by decide) rfl hinj2 hej2 rfl ?_
  refine zz_getr F dX9_extreme_14 wfRX9_214 zCl_5 rfl (⟨zlb rfl, zlb rfl, hj2⟩) rfl (by decide) rfl (r' := 1) (by decide) ?_
  refine zz_astore_n F (i := 3) (L' := [some (zr 0 0 0), some (zi a1), some (zi a2), some (zr 1 10 j2)]) dX9_extreme_17 rfl (by decide) rfl rfl ?_
  refine zz_iload_n F (i := 2) dX9_extreme_18 rfl rfl ?_
  refine zz_iconst F (v := (0 : Int32)) dX9_extreme_19 (by decide) ?_
  refine zz_aload_n F (i := 3) dX9_extreme_20 rfl rfl ?_
  refine zz_getf F dX9_extreme_21 wfRX9_223 zCl_1 rfl (⟨zlb rfl, zlb rfl, hj2⟩) rfl (by decide) rfl rfl ?_
  refine zz_iconst F (v := (1 : Int32)) dX9_extreme_24 (by decide) ?_
  refine zz_isub F dX9_extreme_25 ?_
  refine zz_bind ?_
  refine zz_callSr F (ρ := []) (so := fun q3 => [zi q3]) (Mo := fun q3 => [s0, s1, s2, s3]) (zfWB_outside a2 (0 : Int32) ((s1 10 j2 1) - (1 : Int32))) dX9_extreme_26 wcRX9_26 wy_yX9_outside rfl ⟨rel0, rfl, rfl, Nat.le_of_ble_eq_true rfl, Nat.le_of_ble_eq_true rfl, Nat.le_of_ble_eq_true rfl⟩ rfl (fun _ => rfl) (fun _ => rfl) fun q3 => ?_
  refine zz_if_eq F (tgt := 42) dX9_extreme_29 (by decide) (fun h => zz_t h ?_) (fun h => zz_f h ?_)
  · refine zz_aload_n F (i := 3) dX9_extreme_42 rfl rfl ?_
    refine zz_getr F dX9_extreme_43 wfRX9_252 zCl_1 rfl (⟨zlb rfl, zlb rfl, hj2⟩) rfl (by decide) rfl (r' := 1) (by decide) ?_
    refine zz_iload_n F (i := 2) dX9_extreme_46 rfl rfl ?_
    refine zz_ix fun j4 hj4 hinj4 hej4 => zz_ial F dX9_extreme_47 rfl (⟨zlb rfl, zlb rfl, hj2⟩) rfl hinj4 hej4 ?_
    exact zz_ireturn F dX9_extreme_48 rfl (hκ _)
  · exact zz_throw F (cls := "java/lang/IndexOutOfBoundsException") dX9_extreme_32 dX9_extreme_35 dX9_extreme_36 dX9_extreme_38 dX9_extreme_41 (by decide) wtRX9_238_242k wsRX9_250 wtRX9_238_242g wtRX9_238_242n wtRX9_238_242o (Nat.le_of_ble_eq_true rfl) (Nat.le_of_ble_eq_true rfl) (hκ _)
theorem zfWB_extreme (a1 : Int32) (a2 : Int32)  (s0 : zM) (s1 : zM) (s2 : zM) (s3 : zM) : ∀ a, fWB_extreme a1 a2 s0 s1 s2 s3 = some a → zMet yX9_extreme cX9_extreme 4 (some .int) 7 111 [(2, [1, 2, 3]), (0, []), (0, []), (1, [])] [zr 0 0 0, zi a1, zi a2] [s0, s1, s2, s3] ((zts (fun q => some (zi q)) (fun _ => [s0, s1, s2, s3]) (fun b => b) (fun _ => [s0, s1, s2, s3])) a) := fun a ha => zMet_of (L0 := [some (zr 0 0 0), some (zi a1), some (zi a2), none]) (φ := Option.bind (fWB_extreme a1 a2 s0 s1 s2 s3) (fun a => some ((zts (fun q => some (zi q)) (fun _ => [s0, s1, s2, s3]) (fun b => b) (fun _ => [s0, s1, s2, s3])) a))) (by decide) (fun _ => Nat.le_of_ble_eq_true rfl) (zl0 1 rfl) (fun X F => bfWB_extreme F a1 a2 s0 s1 s2 s3 (fun _ => rfl)) (by rw [ha]; rfl)

theorem dX9_ofString_0 : decode cX9_ofString 0 = .ok (.aload_n 0, 1) := by decide +kernel
theorem dX9_ofString_1 : decode cX9_ofString 1 = .ok (.iload_n 1, 1) := by decide +kernel
theorem dX9_ofString_2 : decode cX9_ofString 2 = .ok (.invokevirtual 50, 3) := by decide +kernel
theorem dX9_ofString_5 : decode cX9_ofString 5 = .ok (.aload_n 0, 1) := by decide +kernel
theorem dX9_ofString_6 : decode cX9_ofString 6 = .ok (.getfield 10, 3) := by decide +kernel
theorem dX9_ofString_9 : decode cX9_ofString 9 = .ok (.getfield 255, 3) := by decide +kernel
theorem dX9_ofString_12 : decode cX9_ofString 12 = .ok (.iload_n 1, 1) := by decide +kernel
theorem dX9_ofString_13 : decode cX9_ofString 13 = .ok (.aaload, 1) := by decide +kernel
theorem dX9_ofString_14 : decode cX9_ofString 14 = .ok (.astore_n 3, 1) := by decide +kernel
theorem dX9_ofString_15 : decode cX9_ofString 15 = .ok (.iload_n 2, 1) := by decide +kernel
theorem dX9_ofString_16 : decode cX9_ofString 16 = .ok (.tableswitch 52 0 3 #[32, 37, 42, 47], 32) := by decide +kernel
theorem dX9_ofString_48 : decode cX9_ofString 48 = .ok (.aload_n 3, 1) := by decide +kernel
theorem dX9_ofString_49 : decode cX9_ofString 49 = .ok (.getfield 259, 3) := by decide +kernel
theorem dX9_ofString_52 : decode cX9_ofString 52 = .ok (.ireturn, 1) := by decide +kernel
theorem dX9_ofString_53 : decode cX9_ofString 53 = .ok (.aload_n 3, 1) := by decide +kernel
theorem dX9_ofString_54 : decode cX9_ofString 54 = .ok (.getfield 264, 3) := by decide +kernel
theorem dX9_ofString_57 : decode cX9_ofString 57 = .ok (.ireturn, 1) := by decide +kernel
theorem dX9_ofString_58 : decode cX9_ofString 58 = .ok (.aload_n 3, 1) := by decide +kernel
theorem dX9_ofString_59 : decode cX9_ofString 59 = .ok (.invokevirtual 267, 3) := by decide +kernel
theorem dX9_ofString_62 : decode cX9_ofString 62 = .ok (.ireturn, 1) := by decide +kernel
theorem dX9_ofString_63 : decode cX9_ofString 63 = .ok (.aload_n 3, 1) := by decide +kernel
theorem dX9_ofString_64 : decode cX9_ofString 64 = .ok (.getfield 269, 3) := by decide +kernel
theorem dX9_ofString_67 : decode cX9_ofString 67 = .ok (.ireturn, 1) := by decide +kernel
theorem dX9_ofString_68 : decode cX9_ofString 68 = .ok (.new 30, 3) := by decide +kernel
theorem dX9_ofString_71 : decode cX9_ofString 71 = .ok (.dup, 1) := by decide +kernel
theorem dX9_ofString_72 : decode cX9_ofString 72 = .ok (.ldc_w 272, 3) := by decide +kernel
theorem dX9_ofString_75 : decode cX9_ofString 75 = .ok (.invokespecial 34, 3) := by decide +kernel
theorem dX9_ofString_78 : decode cX9_ofString 78 = .ok (.athrow, 1) := by decide +kernel
theorem wfRX9_255 : zFl RX9 255 3 1 := ⟨_, rfl, by decide, zm_f 283 (by decide +kernel) rfl⟩
theorem wsRX9_272 : (RX9, 272, "of a STRING 0 to 3 is asked") ∈ zstr := by decide +kernel
theorem wfRX9_259 : zFl RX9 259 0 0 := ⟨_, rfl, by decide, zm_f 232 (by decide +kernel) rfl⟩
theorem wfRX9_264 : zFl RX9 264 0 1 := ⟨_, rfl, by decide, zm_f 234 (by decide +kernel) rfl⟩
theorem wcRX9_267 : Cond.methodLink RX9 267 yX0_limit ∈ zTg ∧ Cond.instanceMethod yX0_limit ∈ zTg ∧ Cond.selects RX0 yX0_limit yX0_limit ∈ zTg ∧ Cond.initialized RX0 ∈ zTg ∧ Cond.code yX0_limit cX0_limit 1 (some .int) ∈ zTg := ⟨zm_f 725 (by decide +kernel) rfl, zm_f 653 (by decide +kernel) rfl, zm_f 654 (by decide +kernel) rfl, zm_f 43 (by decide +kernel) rfl, zm_f 655 (by decide +kernel) rfl⟩
theorem wfRX9_269 : zFl RX9 269 0 2 := ⟨_, rfl, by decide, zm_f 236 (by decide +kernel) rfl⟩
def fWB_ofString (a1 : Int32) (a2 : Int32) (s0 : zM) (s1 : zM) (s2 : zM) (s3 : zM) : Option ((Int32) ⊕ (String)) :=
  Option.bind (fWB_checkString a1 s0 s1 s2 s3) (Sum.elim (fun (_ : Unit) =>
  zix a1 3 fun j2 =>
  if a2 < 0 ∨ 3 < a2 then
  some (.inr "java/lang/IllegalArgumentException")
else
  if a2 = 0 then
    some (.inl (s1 12 j2 0))
  else
    if a2 = 1 then
      some (.inl (s1 12 j2 1))
    else
      if a2 = 2 then
        Option.bind (fCa_limit j2 s1) fun q3 =>
          some (.inl q3)
      else
        some (.inl (s1 12 j2 2))) (fun b => some (.inr b)))
set_option maxHeartbeats 4000000 in
set_option maxRecDepth 20000 in
theorem bfWB_ofString {X : zX} (F : zFr X cX9_ofString 4 RX9 (some .int)) (a1 : Int32) (a2 : Int32)  (s0 : zM) (s1 : zM) (s2 : zM) (s3 : zM) {κ : (Int32) ⊕ (String) → Option zO} (hκ : ∀ a, κ a = some ((zts (fun q => some (zi q)) (fun _ => [s0, s1, s2, s3]) (fun b => b) (fun _ => [s0, s1, s2, s3])) a)) : zZ X [(2, [1, 2, 3]), (0, []), (0, []), (1, [])] 7 111 4 0 [some (zr 0 0 0), some (zi a1), some (zi a2), none] [] [s0, s1, s2, s3] (Option.bind (fWB_ofString a1 a2 s0 s1 s2 s3) κ) := by
  unfold fWB_ofString
  refine zz_aload_n F (i := 0) dX9_ofString_0 rfl rfl ?_
  refine zz_iload_n F (i := 1) dX9_ofString_1 rfl rfl ?_
  refine zz_bind ?_
  refine zz_callVx F (ρ := [0, 1, 2, 3]) (so := fun _ => []) (Mo := fun _ => [s0, s1, s2, s3]) (Xo := fun _ => [s0, s1, s2, s3]) (zfWB_checkString a1 s0 s1 s2 s3) dX9_ofString_2 wcRX9_50 wy_yX9_checkString rfl ⟨rel2, rfl, rfl, Nat.le_of_ble_eq_true rfl, Nat.le_of_ble_eq_true rfl, Nat.le_of_ble_eq_true rfl⟩ (⟨zlb rfl, zlb rfl, zlb rfl⟩) rfl rfl rfl (fun _ => rfl) (fun _ => rfl) (fun _ => rfl) (fun _ => (hκ _)) fun _ => ?_
  dsimp only [Sum.elim_inl]
  refine zz_aload_n F (i := 0) dX9_ofString_5 rfl rfl ?_
  refine zz_getr F dX9_ofString_6 wfRX9_10 zCl_8 rfl (⟨zlb rfl, zlb rfl, zlb rfl⟩) rfl (by decide) rfl (r' := 1) (by decide) ?_
  refine zz_getr F dX9_ofString_9 wfRX9_255 zCl_3 rfl (⟨zlb rfl, zlb rfl, zlb rfl⟩) rfl (by decide) rfl (r' := 1) (by decide) ?_
  refine zz_iload_n F (i := 1) dX9_ofString_12 rfl rfl ?_
  refine zz_ix fun j2 hj2 hinj2 hej2 => zz_aal F dX9_ofString_13 rfl (⟨zlb rfl, zlb rfl, zlb rfl⟩) rfl (by decide) rfl hinj2 hej2 rfl ?_
  refine zz_astore_n F (i := 3) (L' := [some (zr 0 0 0), some (zi a1), some (zi a2), some (zr 1 12 j2)]) dX9_ofString_14 rfl (by decide) rfl rfl ?_
  refine zz_iload_n F (i := 2) dX9_ofString_15 rfl rfl ?_
  refine zz_sw (c := a2 < 0 ∨ 3 < a2) (fun h => ?_) (fun h => ?_)
  · refine zz_tableOut F (tgt := 68) dX9_ofString_16 (zsw_out (lw := 0) (hi := 3) (a := 0) (b := 3) (by decide) (by decide) h) (by decide) ?_
    exact zz_throwW F (cls := "java/lang/IllegalArgumentException") dX9_ofString_68 dX9_ofString_71 dX9_ofString_72 dX9_ofString_75 dX9_ofString_78 (by decide) wtRX9_30_34k wsRX9_272 wtRX9_30_34g wtRX9_30_34n wtRX9_30_34o (Nat.le_of_ble_eq_true rfl) (Nat.le_of_ble_eq_true rfl) (hκ _)
  · refine zz_sw (c := a2 = 0) (fun hv => ?_) (fun hn0 => ?_)
    · refine zz_tableIn F (tgt := 48) (off := 32) dX9_ofString_16 (by rw [zsw_at (k := 0) (a := 0) hv (by decide)]; decide) (by rw [zsw_at (k := 0) (a := 0) hv (by decide)]; decide) (by rw [zsw_at (k := 0) (a := 0) hv (by decide)]; rfl) (by decide) ?_
      refine zz_aload_n F (i := 3) dX9_ofString_48 rfl rfl ?_
      refine zz_getf F dX9_ofString_49 wfRX9_259 zCl_0 rfl (⟨zlb rfl, zlb rfl, hj2⟩) rfl (by decide) rfl rfl ?_
      exact zz_ireturn F dX9_ofString_52 rfl (hκ _)
    · refine zz_sw (c := a2 = 1) (fun hv => ?_) (fun hn1 => ?_)
      · refine zz_tableIn F (tgt := 53) (off := 37) dX9_ofString_16 (by rw [zsw_at (k := 1) (a := 1) hv (by decide)]; decide) (by rw [zsw_at (k := 1) (a := 1) hv (by decide)]; decide) (by rw [zsw_at (k := 1) (a := 1) hv (by decide)]; rfl) (by decide) ?_
        refine zz_aload_n F (i := 3) dX9_ofString_53 rfl rfl ?_
        refine zz_getf F dX9_ofString_54 wfRX9_264 zCl_0 rfl (⟨zlb rfl, zlb rfl, hj2⟩) rfl (by decide) rfl rfl ?_
        exact zz_ireturn F dX9_ofString_57 rfl (hκ _)
      · refine zz_sw (c := a2 = 2) (fun hv => ?_) (fun hn2 => ?_)
        · refine zz_tableIn F (tgt := 58) (off := 42) dX9_ofString_16 (by rw [zsw_at (k := 2) (a := 2) hv (by decide)]; decide) (by rw [zsw_at (k := 2) (a := 2) hv (by decide)]; decide) (by rw [zsw_at (k := 2) (a := 2) hv (by decide)]; rfl) (by decide) ?_
          refine zz_aload_n F (i := 3) dX9_ofString_58 rfl rfl ?_
          refine zz_bind ?_
          refine zz_callVr F (ρ := [1]) (so := fun q3 => [zi q3]) (Mo := fun q3 => [s0, s1, s2, s3]) (zfCa_limit j2 hj2 s1) dX9_ofString_59 wcRX9_267 wy_yX0_limit rfl ⟨rel1, rfl, rfl, Nat.le_of_ble_eq_true rfl, Nat.le_of_ble_eq_true rfl, Nat.le_of_ble_eq_true rfl⟩ (⟨zlb rfl, zlb rfl, hj2⟩) rfl rfl rfl (fun _ => rfl) (fun _ => rfl) fun q3 => ?_
          exact zz_ireturn F dX9_ofString_62 rfl (hκ _)
        · have hv : a2 = 3 := zsw_eq (a := 3) (by decide) (by have h1 := zsw_in (lw := 0) (hi := 3) (a := 0) (b := 3) (by decide) (by decide) h; have e0 := zsw_ne (a := 0) (by decide) hn0; have e1 := zsw_ne (a := 1) (by decide) hn1; have e2 := zsw_ne (a := 2) (by decide) hn2; omega)
          refine zz_tableIn F (tgt := 63) (off := 47) dX9_ofString_16 (by rw [zsw_at (k := 3) (a := 3) hv (by decide)]; decide) (by rw [zsw_at (k := 3) (a := 3) hv (by decide)]; decide) (by rw [zsw_at (k := 3) (a := 3) hv (by decide)]; rfl) (by decide) ?_
          refine zz_aload_n F (i := 3) dX9_ofString_63 rfl rfl ?_
          refine zz_getf F dX9_ofString_64 wfRX9_269 zCl_0 rfl (⟨zlb rfl, zlb rfl, hj2⟩) rfl (by decide) rfl rfl ?_
          exact zz_ireturn F dX9_ofString_67 rfl (hκ _)
theorem zfWB_ofString (a1 : Int32) (a2 : Int32)  (s0 : zM) (s1 : zM) (s2 : zM) (s3 : zM) : ∀ a, fWB_ofString a1 a2 s0 s1 s2 s3 = some a → zMet yX9_ofString cX9_ofString 4 (some .int) 7 111 [(2, [1, 2, 3]), (0, []), (0, []), (1, [])] [zr 0 0 0, zi a1, zi a2] [s0, s1, s2, s3] ((zts (fun q => some (zi q)) (fun _ => [s0, s1, s2, s3]) (fun b => b) (fun _ => [s0, s1, s2, s3])) a) := fun a ha => zMet_of (L0 := [some (zr 0 0 0), some (zi a1), some (zi a2), none]) (φ := Option.bind (fWB_ofString a1 a2 s0 s1 s2 s3) (fun a => some ((zts (fun q => some (zi q)) (fun _ => [s0, s1, s2, s3]) (fun b => b) (fun _ => [s0, s1, s2, s3])) a))) (by decide) (fun _ => Nat.le_of_ble_eq_true rfl) (zl0 1 rfl) (fun X F => bfWB_ofString F a1 a2 s0 s1 s2 s3 (fun _ => rfl)) (by rw [ha]; rfl)
