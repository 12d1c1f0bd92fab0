theorem dX10_make_0 : decode cX10_make 0 = .ok (.aload_n 0, 1) := by decide +kernel
theorem dX10_make_1 : decode cX10_make 1 = .ok (.getfield 64, 3) := by decide +kernel
theorem dX10_make_4 : decode cX10_make 4 = .ok (.invokestatic 133, 3) := by decide +kernel
theorem dX10_make_7 : decode cX10_make 7 = .ok (.istore_n 3, 1) := by decide +kernel
theorem dX10_make_8 : decode cX10_make 8 = .ok (.iload_n 3, 1) := by decide +kernel
theorem dX10_make_9 : decode cX10_make 9 = .ok (.iload_n 2, 1) := by decide +kernel
theorem dX10_make_10 : decode cX10_make 10 = .ok (.invokestatic 133, 3) := by decide +kernel
theorem dX10_make_13 : decode cX10_make 13 = .ok (.invokestatic 116, 3) := by decide +kernel
theorem dX10_make_16 : decode cX10_make 16 = .ok (.istore 4, 2) := by decide +kernel
theorem dX10_make_18 : decode cX10_make 18 = .ok (.aload_n 1, 1) := by decide +kernel
theorem dX10_make_19 : decode cX10_make 19 = .ok (.bipush 14, 2) := by decide +kernel
theorem dX10_make_21 : decode cX10_make 21 = .ok (.dup2, 1) := by decide +kernel
theorem dX10_make_22 : decode cX10_make 22 = .ok (.iaload, 1) := by decide +kernel
theorem dX10_make_23 : decode cX10_make 23 = .ok (.iload_n 3, 1) := by decide +kernel
theorem dX10_make_24 : decode cX10_make 24 = .ok (.iload 4, 2) := by decide +kernel
theorem dX10_make_26 : decode cX10_make 26 = .ok (.isub, 1) := by decide +kernel
theorem dX10_make_27 : decode cX10_make 27 = .ok (.iadd, 1) := by decide +kernel
theorem dX10_make_28 : decode cX10_make 28 = .ok (.iastore, 1) := by decide +kernel
theorem dX10_make_29 : decode cX10_make 29 = .ok (.aload_n 1, 1) := by decide +kernel
theorem dX10_make_30 : decode cX10_make 30 = .ok (.iconst 3, 1) := by decide +kernel
theorem dX10_make_31 : decode cX10_make 31 = .ok (.iaload, 1) := by decide +kernel
theorem dX10_make_32 : decode cX10_make 32 = .ok (.iconst 2, 1) := by decide +kernel
theorem dX10_make_33 : decode cX10_make 33 = .ok (.if_icmp .eq 53, 3) := by decide +kernel
theorem dX10_make_36 : decode cX10_make 36 = .ok (.aload_n 1, 1) := by decide +kernel
theorem dX10_make_37 : decode cX10_make 37 = .ok (.iconst 3, 1) := by decide +kernel
theorem dX10_make_38 : decode cX10_make 38 = .ok (.iaload, 1) := by decide +kernel
theorem dX10_make_39 : decode cX10_make 39 = .ok (.iconst 3, 1) := by decide +kernel
theorem dX10_make_40 : decode cX10_make 40 = .ok (.if_icmp .ne 7, 3) := by decide +kernel
theorem dX10_make_43 : decode cX10_make 43 = .ok (.iconst 2, 1) := by decide +kernel
theorem dX10_make_44 : decode cX10_make 44 = .ok (.goto 26, 3) := by decide +kernel
theorem dX10_make_47 : decode cX10_make 47 = .ok (.aload_n 1, 1) := by decide +kernel
theorem dX10_make_48 : decode cX10_make 48 = .ok (.iconst 3, 1) := by decide +kernel
theorem dX10_make_49 : decode cX10_make 49 = .ok (.iaload, 1) := by decide +kernel
theorem dX10_make_50 : decode cX10_make 50 = .ok (.iconst 4, 1) := by decide +kernel
theorem dX10_make_51 : decode cX10_make 51 = .ok (.if_icmp .ne 7, 3) := by decide +kernel
theorem dX10_make_54 : decode cX10_make 54 = .ok (.iconst 3, 1) := by decide +kernel
theorem dX10_make_55 : decode cX10_make 55 = .ok (.goto 15, 3) := by decide +kernel
theorem dX10_make_58 : decode cX10_make 58 = .ok (.aload_n 1, 1) := by decide +kernel
theorem dX10_make_59 : decode cX10_make 59 = .ok (.bipush 10, 2) := by decide +kernel
theorem dX10_make_61 : decode cX10_make 61 = .ok (.iaload, 1) := by decide +kernel
theorem dX10_make_62 : decode cX10_make 62 = .ok (.ifCond .le 7, 3) := by decide +kernel
theorem dX10_make_65 : decode cX10_make 65 = .ok (.iconst 4, 1) := by decide +kernel
theorem dX10_make_66 : decode cX10_make 66 = .ok (.goto 4, 3) := by decide +kernel
theorem dX10_make_69 : decode cX10_make 69 = .ok (.iconst 1, 1) := by decide +kernel
theorem dX10_make_70 : decode cX10_make 70 = .ok (.istore 5, 2) := by decide +kernel
theorem dX10_make_72 : decode cX10_make 72 = .ok (.aload_n 1, 1) := by decide +kernel
theorem dX10_make_73 : decode cX10_make 73 = .ok (.bipush 14, 2) := by decide +kernel
theorem dX10_make_75 : decode cX10_make 75 = .ok (.iload 5, 2) := by decide +kernel
theorem dX10_make_77 : decode cX10_make 77 = .ok (.iadd, 1) := by decide +kernel
theorem dX10_make_78 : decode cX10_make 78 = .ok (.dup2, 1) := by decide +kernel
theorem dX10_make_79 : decode cX10_make 79 = .ok (.iaload, 1) := by decide +kernel
theorem dX10_make_80 : decode cX10_make 80 = .ok (.iload 4, 2) := by decide +kernel
theorem dX10_make_82 : decode cX10_make 82 = .ok (.iadd, 1) := by decide +kernel
theorem dX10_make_83 : decode cX10_make 83 = .ok (.iastore, 1) := by decide +kernel
theorem dX10_make_84 : decode cX10_make 84 = .ok (.iconst 0, 1) := by decide +kernel
theorem dX10_make_85 : decode cX10_make 85 = .ok (.ireturn, 1) := by decide +kernel
theorem dX10_make_86 : decode cX10_make 86 = .ok (.iload 4, 2) := by decide +kernel
theorem dX10_make_88 : decode cX10_make 88 = .ok (.iconst 3, 1) := by decide +kernel
theorem dX10_make_89 : decode cX10_make 89 = .ok (.imul, 1) := by decide +kernel
theorem dX10_make_90 : decode cX10_make 90 = .ok (.aload_n 1, 1) := by decide +kernel
theorem dX10_make_91 : decode cX10_make 91 = .ok (.iconst 4, 1) := by decide +kernel
theorem dX10_make_92 : decode cX10_make 92 = .ok (.iaload, 1) := by decide +kernel
theorem dX10_make_93 : decode cX10_make 93 = .ok (.imul, 1) := by decide +kernel
theorem dX10_make_94 : decode cX10_make 94 = .ok (.aload_n 1, 1) := by decide +kernel
theorem dX10_make_95 : decode cX10_make 95 = .ok (.iconst 4, 1) := by decide +kernel
theorem dX10_make_96 : decode cX10_make 96 = .ok (.iaload, 1) := by decide +kernel
theorem dX10_make_97 : decode cX10_make 97 = .ok (.imul, 1) := by decide +kernel
theorem dX10_make_98 : decode cX10_make 98 = .ok (.bipush 100, 2) := by decide +kernel
theorem dX10_make_100 : decode cX10_make 100 = .ok (.idiv, 1) := by decide +kernel
theorem dX10_make_101 : decode cX10_make 101 = .ok (.istore 5, 2) := by decide +kernel
theorem dX10_make_103 : decode cX10_make 103 = .ok (.aload_n 1, 1) := by decide +kernel
theorem dX10_make_104 : decode cX10_make 104 = .ok (.bipush 19, 2) := by decide +kernel
theorem dX10_make_106 : decode cX10_make 106 = .ok (.dup2, 1) := by decide +kernel
theorem dX10_make_107 : decode cX10_make 107 = .ok (.iaload, 1) := by decide +kernel
theorem dX10_make_108 : decode cX10_make 108 = .ok (.iload 5, 2) := by decide +kernel
theorem dX10_make_110 : decode cX10_make 110 = .ok (.iadd, 1) := by decide +kernel
theorem dX10_make_111 : decode cX10_make 111 = .ok (.iastore, 1) := by decide +kernel
theorem dX10_make_112 : decode cX10_make 112 = .ok (.iload 4, 2) := by decide +kernel
theorem dX10_make_114 : decode cX10_make 114 = .ok (.iload 5, 2) := by decide +kernel
theorem dX10_make_116 : decode cX10_make 116 = .ok (.isub, 1) := by decide +kernel
theorem dX10_make_117 : decode cX10_make 117 = .ok (.ireturn, 1) := by decide +kernel
theorem wcRX10_133 : Cond.methodLinkNest RX10 133 yX11_power "WakeBanksModel" ∈ zNws ∧ Cond.static yX11_power ∈ zTg ∧ Cond.initialized yX11_power.cls ∈ zTg ∧ Cond.code yX11_power cX11_power 1 (some .int) ∈ zTg := ⟨by decide +kernel, zm_f 1148 (by decide +kernel) rfl, zm_f 46 (by decide +kernel) rfl, zm_f 1149 (by decide +kernel) rfl⟩
theorem wy_yX11_power : yX11_power.cls ≠ "java/lang/invoke/MethodHandle" ∧ yX11_power.cls ≠ "java/lang/invoke/VarHandle" ∧ (parseMethodDescriptor yX11_power.desc).map (fun d => d.parameters.length) = some 1 := by decide +kernel
def fMS_make (i : Nat) (a2 : Int32) (s0 : zM) : Option (Int32 × zM) :=
  Option.bind (fMO_power (s0 0 0 12)) fun q1 =>
  Option.bind (fMO_power a2) fun q2 =>
  zlet ((zmin q1 q2)) fun v3 =>
  zix (14 : Int32) 23 fun j4 =>
  zix (14 : Int32) 23 fun j5 =>
  zlet (zu s0 8 i j5 ((s0 8 i j4) + (q1 - v3))) fun s0_6 =>
  zix (3 : Int32) 23 fun j7 =>
  if (s0_6 8 i j7) = (2 : Int32) then
  zix (4 : Int32) 23 fun j8 =>
    zix (4 : Int32) 23 fun j9 =>
    zlet (((((v3 * (3 : Int32)) * (s0_6 8 i j8)) * (s0_6 8 i j9)) / (100 : Int32))) fun v10 =>
    zix (19 : Int32) 23 fun j11 =>
    zix (19 : Int32) 23 fun j12 =>
    zlet (zu s0_6 8 i j12 ((s0_6 8 i j11) + v10)) fun s0_13 =>
    some ((v3 - v10), s0_13)
else
  zix (3 : Int32) 23 fun j14 =>
    Option.bind (if (s0_6 8 i j14) = (3 : Int32) then
    some (2 : Int32)
  else
    zix (3 : Int32) 23 fun j19 =>
      if (s0_6 8 i j19) = (4 : Int32) then
      some (3 : Int32)
    else
      zix (10 : Int32) 23 fun j20 =>
        if (s0_6 8 i j20) ≤ 0 then
        some (1 : Int32)
      else
        some (4 : Int32)) fun q15 =>
    zix ((14 : Int32) + q15) 23 fun j21 =>
    zix ((14 : Int32) + q15) 23 fun j22 =>
    zlet (zu s0_6 8 i j22 ((s0_6 8 i j21) + v3)) fun s0_23 =>
    some ((0 : Int32), s0_23)
set_option maxHeartbeats 4000000 in
set_option maxRecDepth 20000 in
theorem bfMS_make {X : zX} (F : zFr X cX10_make 6 RX10 (some .int)) (i : Nat) (a2 : Int32) (hi : i < 8) (s0 : zM) {κ : Int32 × zM → Option zO} (hκ : ∀ a, κ a = some ((fun a => ((.inl ((fun q => some (zi q.1)) a), (fun q => [q.2]) a) : zO)) a)) : zZ X [(3, [])] 2 43 6 0 [some (zr 0 0 0), some (zr 0 8 i), some (zi a2), none, none, none] [] [s0] (Option.bind (fMS_make i a2 s0) κ) := by
  unfold fMS_make
  refine zz_aload_n F (i := 0) dX10_make_0 rfl rfl ?_
  refine zz_getf F dX10_make_1 wfRX10_64 zCl_9 rfl (⟨zlb rfl, zlb rfl, zlb rfl⟩) rfl (by decide) rfl rfl ?_
  refine zz_bind ?_
  refine zz_callSNr F (ρ := []) (so := fun q1 => [zi q1]) (Mo := fun q1 => [s0]) (zfMO_power (s0 0 0 12)) dX10_make_4 wcRX10_133 wy_yX11_power rfl ⟨rel17, rfl, rfl, Nat.le_of_ble_eq_true rfl, Nat.le_of_ble_eq_true rfl, Nat.le_of_ble_eq_true rfl⟩ rfl (fun _ => rfl) (fun _ => rfl) fun q1 => ?_
  refine zz_istore_n F (i := 3) (L' := [some (zr 0 0 0), some (zr 0 8 i), some (zi a2), some (zi q1), none, none]) dX10_make_7 rfl (by decide) rfl rfl ?_
  refine zz_iload_n F (i := 3) dX10_make_8 rfl rfl ?_
  refine zz_iload_n F (i := 2) dX10_make_9 rfl rfl ?_
  refine zz_bind ?_
  refine zz_callSNr F (ρ := []) (so := fun q2 => [zi q2, zi q1]) (Mo := fun q2 => [s0]) (zfMO_power a2) dX10_make_10 wcRX10_133 wy_yX11_power rfl ⟨rel17, rfl, rfl, Nat.le_of_ble_eq_true rfl, Nat.le_of_ble_eq_true rfl, Nat.le_of_ble_eq_true rfl⟩ rfl (fun _ => rfl) (fun _ => rfl) fun q2 => ?_
  refine zz_min F dX10_make_13 wmRX10_116 wMath_min (Nat.le_of_ble_eq_true rfl) (Nat.le_of_ble_eq_true rfl) ?_
  refine zz_istore F (i := 4) (L' := [some (zr 0 0 0), some (zr 0 8 i), some (zi a2), some (zi q1), some (zi (zmin q1 q2)), none]) dX10_make_16 (by decide) rfl rfl ?_
  refine zz_letl (Lf := fun v3 => [some (zr 0 0 0), some (zr 0 8 i), some (zi a2), some (zi q1), some (zi v3), none]) fun v3 => ?_
  refine zz_aload_n F (i := 1) dX10_make_18 rfl rfl ?_
  refine zz_bipush F (v := (14 : Int32)) dX10_make_19 (by decide) ?_
  refine zz_dup2 F dX10_make_21 rfl rfl ?_
  refine zz_ix fun j4 hj4 hinj4 hej4 => zz_ial F dX10_make_22 rfl (⟨zlb rfl, zlb rfl, hi⟩) rfl hinj4 hej4 ?_
  refine zz_iload_n F (i := 3) dX10_make_23 rfl rfl ?_
  refine zz_iload F (i := 4) dX10_make_24 rfl ?_
  refine zz_isub F dX10_make_26 ?_
  refine zz_iadd F dX10_make_27 ?_
  refine zz_ix fun j5 hj5 hinj5 hej5 => zz_ias F (Ms' := [(zu s0 8 i j5 ((s0 8 i j4) + (q1 - v3)))]) dX10_make_28 rfl (⟨zlb rfl, zlb rfl, hi⟩) rfl hinj5 hej5 rfl ?_
  refine zz_letm (Mf := fun s0_6 => [s0_6]) fun s0_6 => ?_
  refine zz_aload_n F (i := 1) dX10_make_29 rfl rfl ?_
  refine zz_iconst F (v := (3 : Int32)) dX10_make_30 (by decide) ?_
  refine zz_ix fun j7 hj7 hinj7 hej7 => zz_ial F dX10_make_31 rfl (⟨zlb rfl, zlb rfl, hi⟩) rfl hinj7 hej7 ?_
  refine zz_iconst F (v := (2 : Int32)) dX10_make_32 (by decide) ?_
  refine zz_icmp_eq F (tgt := 86) dX10_make_33 (by decide) (fun h => zz_t h ?_) (fun h => zz_f h ?_)
  · refine zz_iload F (i := 4) dX10_make_86 rfl ?_
    refine zz_iconst F (v := (3 : Int32)) dX10_make_88 (by decide) ?_
    refine zz_imul F dX10_make_89 ?_
    refine zz_aload_n F (i := 1) dX10_make_90 rfl rfl ?_
    refine zz_iconst F (v := (4 : Int32)) dX10_make_91 (by decide) ?_
    refine zz_ix fun j8 hj8 hinj8 hej8 => zz_ial F dX10_make_92 rfl (⟨zlb rfl, zlb rfl, hi⟩) rfl hinj8 hej8 ?_
    refine zz_imul F dX10_make_93 ?_
    refine zz_aload_n F (i := 1) dX10_make_94 rfl rfl ?_
    refine zz_iconst F (v := (4 : Int32)) dX10_make_95 (by decide) ?_
    refine zz_ix fun j9 hj9 hinj9 hej9 => zz_ial F dX10_make_96 rfl (⟨zlb rfl, zlb rfl, hi⟩) rfl hinj9 hej9 ?_
    refine zz_imul F dX10_make_97 ?_
    refine zz_bipush F (v := (100 : Int32)) dX10_make_98 (by decide) ?_
    refine zz_idiv F dX10_make_100 (by decide) ?_
    refine zz_istore F (i := 5) (L' := [some (zr 0 0 0), some (zr 0 8 i), some (zi a2), some (zi q1), some (zi v3), some (zi ((((v3 * (3 : Int32)) * (s0_6 8 i j8)) * (s0_6 8 i j9)) / (100 : Int32)))]) dX10_make_101 (by decide) rfl rfl ?_
    refine zz_letl (Lf := fun v10 => [some (zr 0 0 0), some (zr 0 8 i), some (zi a2), some (zi q1), some (zi v3), some (zi v10)]) fun v10 => ?_
    refine zz_aload_n F (i := 1) dX10_make_103 rfl rfl ?_
    refine zz_bipush F (v := (19 : Int32)) dX10_make_104 (by decide) ?_
    refine zz_dup2 F dX10_make_106 rfl rfl ?_
    refine zz_ix fun j11 hj11 hinj11 hej11 => zz_ial F dX10_make_107 rfl (⟨zlb rfl, zlb rfl, hi⟩) rfl hinj11 hej11 ?_
    refine zz_iload F (i := 5) dX10_make_108 rfl ?_
    refine zz_iadd F dX10_make_110 ?_
    refine zz_ix fun j12 hj12 hinj12 hej12 => zz_ias F (Ms' := [(zu s0_6 8 i j12 ((s0_6 8 i j11) + v10))]) dX10_make_111 rfl (⟨zlb rfl, zlb rfl, hi⟩) rfl hinj12 hej12 rfl ?_
    refine zz_letm (Mf := fun s0_13 => [s0_13]) fun s0_13 => ?_
    refine zz_iload F (i := 4) dX10_make_112 rfl ?_
    refine zz_iload F (i := 5) dX10_make_114 rfl ?_
    refine zz_isub F dX10_make_116 ?_
    exact zz_ireturn F dX10_make_117 rfl (hκ _)
  · refine zz_aload_n F (i := 1) dX10_make_36 rfl rfl ?_
    refine zz_iconst F (v := (3 : Int32)) dX10_make_37 (by decide) ?_
    refine zz_ix fun j14 hj14 hinj14 hej14 => zz_ial F dX10_make_38 rfl (⟨zlb rfl, zlb rfl, hi⟩) rfl hinj14 hej14 ?_
    refine zz_iconst F (v := (3 : Int32)) dX10_make_39 (by decide) ?_
    refine zz_join (pj := 70) (Lj := fun q15 => [none, some (zr 0 8 i), none, none, some (zi v3), none]) (Sj := fun q15 => [zi q15]) (Mj := fun q15 => [s0_6]) (fun q15 => ?_) (fun κ17 hj16 => ?_)
    · refine zz_istore F (i := 5) (L' := [none, some (zr 0 8 i), none, none, some (zi v3), some (zi q15)]) dX10_make_70 (by decide) rfl rfl ?_
      refine zz_aload_n F (i := 1) dX10_make_72 rfl rfl ?_
      refine zz_bipush F (v := (14 : Int32)) dX10_make_73 (by decide) ?_
      refine zz_iload F (i := 5) dX10_make_75 rfl ?_
      refine zz_iadd F dX10_make_77 ?_
      refine zz_dup2 F dX10_make_78 rfl rfl ?_
      refine zz_ix fun j21 hj21 hinj21 hej21 => zz_ial F dX10_make_79 rfl (⟨zlb rfl, zlb rfl, hi⟩) rfl hinj21 hej21 ?_
      refine zz_iload F (i := 4) dX10_make_80 rfl ?_
      refine zz_iadd F dX10_make_82 ?_
      refine zz_ix fun j22 hj22 hinj22 hej22 => zz_ias F (Ms' := [(zu s0_6 8 i j22 ((s0_6 8 i j21) + v3))]) dX10_make_83 rfl (⟨zlb rfl, zlb rfl, hi⟩) rfl hinj22 hej22 rfl ?_
      refine zz_letm (Mf := fun s0_23 => [s0_23]) fun s0_23 => ?_
      refine zz_iconst F (v := (0 : Int32)) dX10_make_84 (by decide) ?_
      exact zz_ireturn F dX10_make_85 rfl (hκ _)
    · refine zz_icmp_ne F (tgt := 47) dX10_make_40 (by decide) (fun h => zz_f h ?_) (fun h => zz_t h ?_)
      · refine zz_aload_n F (i := 1) dX10_make_47 rfl rfl ?_
        refine zz_iconst F (v := (3 : Int32)) dX10_make_48 (by decide) ?_
        refine zz_ix fun j19 hj19 hinj19 hej19 => zz_ial F dX10_make_49 rfl (⟨zlb rfl, zlb rfl, hi⟩) rfl hinj19 hej19 ?_
        refine zz_iconst F (v := (4 : Int32)) dX10_make_50 (by decide) ?_
        refine zz_icmp_ne F (tgt := 58) dX10_make_51 (by decide) (fun h => zz_f h ?_) (fun h => zz_t h ?_)
        · refine zz_aload_n F (i := 1) dX10_make_58 rfl rfl ?_
          refine zz_bipush F (v := (10 : Int32)) dX10_make_59 (by decide) ?_
          refine zz_ix fun j20 hj20 hinj20 hej20 => zz_ial F dX10_make_61 rfl (⟨zlb rfl, zlb rfl, hi⟩) rfl hinj20 hej20 ?_
          refine zz_if_le F (tgt := 69) dX10_make_62 (by decide) (fun h => zz_t h ?_) (fun h => zz_f h ?_)
          · refine zz_iconst F (v := (1 : Int32)) dX10_make_69 (by decide) ?_
            exact zz_sub (zs_n (zs_k (zs_n (zs_n (zs_k (zs_k zs_z)))))) (hj16 (1 : Int32))
          · refine zz_iconst F (v := (4 : Int32)) dX10_make_65 (by decide) ?_
            refine zz_goto F (tgt := 70) dX10_make_66 (by decide) ?_
            exact zz_sub (zs_n (zs_k (zs_n (zs_n (zs_k (zs_k zs_z)))))) (hj16 (4 : Int32))
        · refine zz_iconst F (v := (3 : Int32)) dX10_make_54 (by decide) ?_
          refine zz_goto F (tgt := 70) dX10_make_55 (by decide) ?_
          exact zz_sub (zs_n (zs_k (zs_n (zs_n (zs_k (zs_k zs_z)))))) (hj16 (3 : Int32))
      · refine zz_iconst F (v := (2 : Int32)) dX10_make_43 (by decide) ?_
        refine zz_goto F (tgt := 70) dX10_make_44 (by decide) ?_
        exact zz_sub (zs_n (zs_k (zs_n (zs_n (zs_k (zs_k zs_z)))))) (hj16 (2 : Int32))
theorem zfMS_make (i : Nat) (a2 : Int32) (hi : i < 8) (s0 : zM) : ∀ a, fMS_make i a2 s0 = some a → zMet yX10_make cX10_make 6 (some .int) 2 43 [(3, [])] [zr 0 0 0, zr 0 8 i, zi a2] [s0] ((fun a => ((.inl ((fun q => some (zi q.1)) a), (fun q => [q.2]) a) : zO)) a) := fun a ha => zMet_of (L0 := [some (zr 0 0 0), some (zr 0 8 i), some (zi a2), none, none, none]) (φ := Option.bind (fMS_make i a2 s0) (fun a => some ((fun a => ((.inl ((fun q => some (zi q.1)) a), (fun q => [q.2]) a) : zO)) a))) (by decide) (fun _ => Nat.le_of_ble_eq_true rfl) (zl0 3 rfl) (fun X F => bfMS_make F i a2 hi s0 (fun _ => rfl)) (by rw [ha]; rfl)

theorem dX10_isOn_0 : decode cX10_isOn 0 = .ok (.iload_n 2, 1) := by decide +kernel
theorem dX10_isOn_1 : decode cX10_isOn 1 = .ok (.iconst (-1), 1) := by decide +kernel
theorem dX10_isOn_2 : decode cX10_isOn 2 = .ok (.if_icmp .eq 15, 3) := by decide +kernel
theorem dX10_isOn_5 : decode cX10_isOn 5 = .ok (.aload_n 0, 1) := by decide +kernel
theorem dX10_isOn_6 : decode cX10_isOn 6 = .ok (.getfield 11, 3) := by decide +kernel
theorem dX10_isOn_9 : decode cX10_isOn 9 = .ok (.iload_n 1, 1) := by decide +kernel
theorem dX10_isOn_10 : decode cX10_isOn 10 = .ok (.aaload, 1) := by decide +kernel
theorem dX10_isOn_11 : decode cX10_isOn 11 = .ok (.iconst 2, 1) := by decide +kernel
theorem dX10_isOn_12 : decode cX10_isOn 12 = .ok (.iaload, 1) := by decide +kernel
theorem dX10_isOn_13 : decode cX10_isOn 13 = .ok (.iload_n 2, 1) := by decide +kernel
theorem dX10_isOn_14 : decode cX10_isOn 14 = .ok (.if_icmp .ne 7, 3) := by decide +kernel
theorem dX10_isOn_17 : decode cX10_isOn 17 = .ok (.iconst 1, 1) := by decide +kernel
theorem dX10_isOn_18 : decode cX10_isOn 18 = .ok (.goto 4, 3) := by decide +kernel
theorem dX10_isOn_21 : decode cX10_isOn 21 = .ok (.iconst 0, 1) := by decide +kernel
theorem dX10_isOn_22 : decode cX10_isOn 22 = .ok (.ireturn, 1) := by decide +kernel
def fMS_isOn (a1 : Int32) (a2 : Int32) (s0 : zM) : Option (Int32) :=
  if a2 = (-1 : Int32) then
  some (1 : Int32)
else
  zix a1 8 fun j1 =>
    zix (2 : Int32) 23 fun j2 =>
    if (s0 8 j1 j2) = a2 then
    some (1 : Int32)
  else
    some (0 : Int32)
set_option maxHeartbeats 4000000 in
set_option maxRecDepth 20000 in
theorem bfMS_isOn {X : zX} (F : zFr X cX10_isOn 3 RX10 (some .boolean)) (a1 : Int32) (a2 : Int32)  (s0 : zM) {κ : Int32 → Option zO} (hκ : ∀ a, κ a = some ((fun a => ((.inl ((fun q => some (zi q)) a), (fun _ => [s0]) a) : zO)) a)) : zZ X [(3, [])] 0 0 3 0 [some (zr 0 0 0), some (zi a1), some (zi a2)] [] [s0] (Option.bind (fMS_isOn a1 a2 s0) κ) := by
  unfold fMS_isOn
  refine zz_iload_n F (i := 2) dX10_isOn_0 rfl rfl ?_
  refine zz_iconst F (v := (-1 : Int32)) dX10_isOn_1 (by decide) ?_
  refine zz_icmp_eq F (tgt := 17) dX10_isOn_2 (by decide) (fun h => zz_t h ?_) (fun h => zz_f h ?_)
  · refine zz_iconst F (v := (1 : Int32)) dX10_isOn_17 (by decide) ?_
    refine zz_goto F (tgt := 22) dX10_isOn_18 (by decide) ?_
    exact zz_zreturn F dX10_isOn_22 rfl rfl (hκ _)
  · refine zz_aload_n F (i := 0) dX10_isOn_5 rfl rfl ?_
    refine zz_getr F dX10_isOn_6 wfRX10_11 zCl_9 rfl (⟨zlb rfl, zlb rfl, zlb rfl⟩) rfl (by decide) rfl (r' := 0) (by decide) ?_
    refine zz_iload_n F (i := 1) dX10_isOn_9 rfl rfl ?_
    refine zz_ix fun j1 hj1 hinj1 hej1 => zz_aal F dX10_isOn_10 rfl (⟨zlb rfl, zlb rfl, zlb rfl⟩) rfl (by decide) rfl hinj1 hej1 rfl ?_
    refine zz_iconst F (v := (2 : Int32)) dX10_isOn_11 (by decide) ?_
    refine zz_ix fun j2 hj2 hinj2 hej2 => zz_ial F dX10_isOn_12 rfl (⟨zlb rfl, zlb rfl, hj1⟩) rfl hinj2 hej2 ?_
    refine zz_iload_n F (i := 2) dX10_isOn_13 rfl rfl ?_
    refine zz_icmp_ne F (tgt := 21) dX10_isOn_14 (by decide) (fun h => zz_f h ?_) (fun h => zz_t h ?_)
    · refine zz_iconst F (v := (0 : Int32)) dX10_isOn_21 (by decide) ?_
      exact zz_zreturn F dX10_isOn_22 rfl rfl (hκ _)
    · refine zz_iconst F (v := (1 : Int32)) dX10_isOn_17 (by decide) ?_
      refine zz_goto F (tgt := 22) dX10_isOn_18 (by decide) ?_
      exact zz_zreturn F dX10_isOn_22 rfl rfl (hκ _)
theorem zfMS_isOn (a1 : Int32) (a2 : Int32)  (s0 : zM) : ∀ a, fMS_isOn a1 a2 s0 = some a → zMet yX10_isOn cX10_isOn 3 (some .boolean) 0 0 [(3, [])] [zr 0 0 0, zi a1, zi a2] [s0] ((fun a => ((.inl ((fun q => some (zi q)) a), (fun _ => [s0]) a) : zO)) a) := fun a ha => zMet_of (L0 := [some (zr 0 0 0), some (zi a1), some (zi a2)]) (φ := Option.bind (fMS_isOn a1 a2 s0) (fun a => some ((fun a => ((.inl ((fun q => some (zi q)) a), (fun _ => [s0]) a) : zO)) a))) (by decide) (fun _ => Nat.le_of_ble_eq_true rfl) (zl0 0 rfl) (fun X F => bfMS_isOn F a1 a2 s0 (fun _ => rfl)) (by rw [ha]; rfl)

theorem dX10_give_0 : decode cX10_give 0 = .ok (.aload_n 0, 1) := by decide +kernel
theorem dX10_give_1 : decode cX10_give 1 = .ok (.getfield 32, 3) := by decide +kernel
theorem dX10_give_4 : decode cX10_give 4 = .ok (.iload_n 1, 1) := by decide +kernel
theorem dX10_give_5 : decode cX10_give 5 = .ok (.dup2, 1) := by decide +kernel
theorem dX10_give_6 : decode cX10_give 6 = .ok (.iaload, 1) := by decide +kernel
theorem dX10_give_7 : decode cX10_give 7 = .ok (.iload_n 2, 1) := by decide +kernel
theorem dX10_give_8 : decode cX10_give 8 = .ok (.isub, 1) := by decide +kernel
theorem dX10_give_9 : decode cX10_give 9 = .ok (.iastore, 1) := by decide +kernel
theorem dX10_give_10 : decode cX10_give 10 = .ok (.aload_n 0, 1) := by decide +kernel
theorem dX10_give_11 : decode cX10_give 11 = .ok (.getfield 11, 3) := by decide +kernel
theorem dX10_give_14 : decode cX10_give 14 = .ok (.iload_n 1, 1) := by decide +kernel
theorem dX10_give_15 : decode cX10_give 15 = .ok (.aaload, 1) := by decide +kernel
theorem dX10_give_16 : decode cX10_give 16 = .ok (.bipush 14, 2) := by decide +kernel
theorem dX10_give_18 : decode cX10_give 18 = .ok (.iload_n 3, 1) := by decide +kernel
theorem dX10_give_19 : decode cX10_give 19 = .ok (.iadd, 1) := by decide +kernel
theorem dX10_give_20 : decode cX10_give 20 = .ok (.dup2, 1) := by decide +kernel
theorem dX10_give_21 : decode cX10_give 21 = .ok (.iaload, 1) := by decide +kernel
theorem dX10_give_22 : decode cX10_give 22 = .ok (.iload_n 2, 1) := by decide +kernel
theorem dX10_give_23 : decode cX10_give 23 = .ok (.iadd, 1) := by decide +kernel
theorem dX10_give_24 : decode cX10_give 24 = .ok (.iastore, 1) := by decide +kernel
theorem dX10_give_25 : decode cX10_give 25 = .ok (.iload_n 2, 1) := by decide +kernel
theorem dX10_give_26 : decode cX10_give 26 = .ok (.ireturn, 1) := by decide +kernel
theorem wfRX10_32 : zFl RX10 32 9 6 := ⟨_, rfl, by decide, zm_f 980 (by decide +kernel) rfl⟩
def fMS_give (a1 : Int32) (a2 : Int32) (a3 : Int32) (s0 : zM) : Option (Int32 × zM) :=
  zix a1 8 fun j1 =>
  zix a1 8 fun j2 =>
  zlet (zu s0 7 0 j2 ((s0 7 0 j1) - a2)) fun s0_3 =>
  zix a1 8 fun j4 =>
  zix ((14 : Int32) + a3) 23 fun j5 =>
  zix ((14 : Int32) + a3) 23 fun j6 =>
  zlet (zu s0_3 8 j4 j6 ((s0_3 8 j4 j5) + a2)) fun s0_7 =>
  some (a2, s0_7)
set_option maxHeartbeats 4000000 in
set_option maxRecDepth 20000 in
theorem bfMS_give {X : zX} (F : zFr X cX10_give 4 RX10 (some .int)) (a1 : Int32) (a2 : Int32) (a3 : Int32)  (s0 : zM) {κ : Int32 × zM → Option zO} (hκ : ∀ a, κ a = some ((fun a => ((.inl ((fun q => some (zi q.1)) a), (fun q => [q.2]) a) : zO)) a)) : zZ X [(3, [])] 0 0 4 0 [some (zr 0 0 0), some (zi a1), some (zi a2), some (zi a3)] [] [s0] (Option.bind (fMS_give a1 a2 a3 s0) κ) := by
  unfold fMS_give
  refine zz_aload_n F (i := 0) dX10_give_0 rfl rfl ?_
  refine zz_getr F dX10_give_1 wfRX10_32 zCl_9 rfl (⟨zlb rfl, zlb rfl, zlb rfl⟩) rfl (by decide) rfl (r' := 0) (by decide) ?_
  refine zz_iload_n F (i := 1) dX10_give_4 rfl rfl ?_
  refine zz_dup2 F dX10_give_5 rfl rfl ?_
  refine zz_ix fun j1 hj1 hinj1 hej1 => zz_ial F dX10_give_6 rfl (⟨zlb rfl, zlb rfl, zlb rfl⟩) rfl hinj1 hej1 ?_
  refine zz_iload_n F (i := 2) dX10_give_7 rfl rfl ?_
  refine zz_isub F dX10_give_8 ?_
  refine zz_ix fun j2 hj2 hinj2 hej2 => zz_ias F (Ms' := [(zu s0 7 0 j2 ((s0 7 0 j1) - a2))]) dX10_give_9 rfl (⟨zlb rfl, zlb rfl, zlb rfl⟩) rfl hinj2 hej2 rfl ?_
  refine zz_letm (Mf := fun s0_3 => [s0_3]) fun s0_3 => ?_
  refine zz_aload_n F (i := 0) dX10_give_10 rfl rfl ?_
  refine zz_getr F dX10_give_11 wfRX10_11 zCl_9 rfl (⟨zlb rfl, zlb rfl, zlb rfl⟩) rfl (by decide) rfl (r' := 0) (by decide) ?_
  refine zz_iload_n F (i := 1) dX10_give_14 rfl rfl ?_
  refine zz_ix fun j4 hj4 hinj4 hej4 => zz_aal F dX10_give_15 rfl (⟨zlb rfl, zlb rfl, zlb rfl⟩) rfl (by decide) rfl hinj4 hej4 rfl ?_
  refine zz_bipush F (v := (14 : Int32)) dX10_give_16 (by decide) ?_
  refine zz_iload_n F (i := 3) dX10_give_18 rfl rfl ?_
  refine zz_iadd F dX10_give_19 ?_
  refine zz_dup2 F dX10_give_20 rfl rfl ?_
  refine zz_ix fun j5 hj5 hinj5 hej5 => zz_ial F dX10_give_21 rfl (⟨zlb rfl, zlb rfl, hj4⟩) rfl hinj5 hej5 ?_
  refine zz_iload_n F (i := 2) dX10_give_22 rfl rfl ?_
  refine zz_iadd F dX10_give_23 ?_
  refine zz_ix fun j6 hj6 hinj6 hej6 => zz_ias F (Ms' := [(zu s0_3 8 j4 j6 ((s0_3 8 j4 j5) + a2))]) dX10_give_24 rfl (⟨zlb rfl, zlb rfl, hj4⟩) rfl hinj6 hej6 rfl ?_
  refine zz_letm (Mf := fun s0_7 => [s0_7]) fun s0_7 => ?_
  refine zz_iload_n F (i := 2) dX10_give_25 rfl rfl ?_
  exact zz_ireturn F dX10_give_26 rfl (hκ _)
theorem zfMS_give (a1 : Int32) (a2 : Int32) (a3 : Int32)  (s0 : zM) : ∀ a, fMS_give a1 a2 a3 s0 = some a → zMet yX10_give cX10_give 4 (some .int) 0 0 [(3, [])] [zr 0 0 0, zi a1, zi a2, zi a3] [s0] ((fun a => ((.inl ((fun q => some (zi q.1)) a), (fun q => [q.2]) a) : zO)) a) := fun a ha => zMet_of (L0 := [some (zr 0 0 0), some (zi a1), some (zi a2), some (zi a3)]) (φ := Option.bind (fMS_give a1 a2 a3 s0) (fun a => some ((fun a => ((.inl ((fun q => some (zi q.1)) a), (fun q => [q.2]) a) : zO)) a))) (by decide) (fun _ => Nat.le_of_ble_eq_true rfl) (zl0 0 rfl) (fun X F => bfMS_give F a1 a2 a3 s0 (fun _ => rfl)) (by rw [ha]; rfl)

theorem dX10_fit_0 : decode cX10_fit 0 = .ok (.iconst 0, 1) := by decide +kernel
theorem dX10_fit_1 : decode cX10_fit 1 = .ok (.istore 4, 2) := by decide +kernel
theorem dX10_fit_3 : decode cX10_fit 3 = .ok (.iconst 0, 1) := by decide +kernel
theorem dX10_fit_4 : decode cX10_fit 4 = .ok (.istore 5, 2) := by decide +kernel
theorem dX10_fit_6 : decode cX10_fit 6 = .ok (.iload 5, 2) := by decide +kernel
theorem dX10_fit_8 : decode cX10_fit 8 = .ok (.aload_n 0, 1) := by decide +kernel
theorem dX10_fit_9 : decode cX10_fit 9 = .ok (.getfield 43, 3) := by decide +kernel
theorem dX10_fit_12 : decode cX10_fit 12 = .ok (.if_icmp .ge 35, 3) := by decide +kernel
theorem dX10_fit_15 : decode cX10_fit 15 = .ok (.iload 4, 2) := by decide +kernel
theorem dX10_fit_17 : decode cX10_fit 17 = .ok (.aload_n 0, 1) := by decide +kernel
theorem dX10_fit_18 : decode cX10_fit 18 = .ok (.iload 5, 2) := by decide +kernel
theorem dX10_fit_20 : decode cX10_fit 20 = .ok (.iload_n 1, 1) := by decide +kernel
theorem dX10_fit_21 : decode cX10_fit 21 = .ok (.invokevirtual 150, 3) := by decide +kernel
theorem dX10_fit_24 : decode cX10_fit 24 = .ok (.ifCond .eq 13, 3) := by decide +kernel
theorem dX10_fit_27 : decode cX10_fit 27 = .ok (.aload_n 0, 1) := by decide +kernel
theorem dX10_fit_28 : decode cX10_fit 28 = .ok (.getfield 32, 3) := by decide +kernel
theorem dX10_fit_31 : decode cX10_fit 31 = .ok (.iload 5, 2) := by decide +kernel
theorem dX10_fit_33 : decode cX10_fit 33 = .ok (.iaload, 1) := by decide +kernel
theorem dX10_fit_34 : decode cX10_fit 34 = .ok (.goto 4, 3) := by decide +kernel
theorem dX10_fit_37 : decode cX10_fit 37 = .ok (.iconst 0, 1) := by decide +kernel
theorem dX10_fit_38 : decode cX10_fit 38 = .ok (.iadd, 1) := by decide +kernel
theorem dX10_fit_39 : decode cX10_fit 39 = .ok (.istore 4, 2) := by decide +kernel
theorem dX10_fit_41 : decode cX10_fit 41 = .ok (.iinc 5 1, 3) := by decide +kernel
theorem dX10_fit_44 : decode cX10_fit 44 = .ok (.goto (-38), 3) := by decide +kernel
theorem dX10_fit_47 : decode cX10_fit 47 = .ok (.iconst 0, 1) := by decide +kernel
theorem dX10_fit_48 : decode cX10_fit 48 = .ok (.iload 4, 2) := by decide +kernel
theorem dX10_fit_50 : decode cX10_fit 50 = .ok (.iload_n 2, 1) := by decide +kernel
theorem dX10_fit_51 : decode cX10_fit 51 = .ok (.isub, 1) := by decide +kernel
theorem dX10_fit_52 : decode cX10_fit 52 = .ok (.invokestatic 113, 3) := by decide +kernel
theorem dX10_fit_55 : decode cX10_fit 55 = .ok (.istore 5, 2) := by decide +kernel
theorem dX10_fit_57 : decode cX10_fit 57 = .ok (.iload 5, 2) := by decide +kernel
theorem dX10_fit_59 : decode cX10_fit 59 = .ok (.istore 6, 2) := by decide +kernel
theorem dX10_fit_61 : decode cX10_fit 61 = .ok (.iconst 0, 1) := by decide +kernel
theorem dX10_fit_62 : decode cX10_fit 62 = .ok (.istore 7, 2) := by decide +kernel
theorem dX10_fit_64 : decode cX10_fit 64 = .ok (.iload 7, 2) := by decide +kernel
theorem dX10_fit_66 : decode cX10_fit 66 = .ok (.aload_n 0, 1) := by decide +kernel
theorem dX10_fit_67 : decode cX10_fit 67 = .ok (.getfield 43, 3) := by decide +kernel
theorem dX10_fit_70 : decode cX10_fit 70 = .ok (.if_icmp .ge 49, 3) := by decide +kernel
theorem dX10_fit_73 : decode cX10_fit 73 = .ok (.iload 5, 2) := by decide +kernel
theorem dX10_fit_75 : decode cX10_fit 75 = .ok (.ifCond .le 44, 3) := by decide +kernel
theorem dX10_fit_78 : decode cX10_fit 78 = .ok (.aload_n 0, 1) := by decide +kernel
theorem dX10_fit_79 : decode cX10_fit 79 = .ok (.iload 7, 2) := by decide +kernel
theorem dX10_fit_81 : decode cX10_fit 81 = .ok (.iload_n 1, 1) := by decide +kernel
theorem dX10_fit_82 : decode cX10_fit 82 = .ok (.invokevirtual 150, 3) := by decide +kernel
theorem dX10_fit_85 : decode cX10_fit 85 = .ok (.ifCond .eq 28, 3) := by decide +kernel
theorem dX10_fit_88 : decode cX10_fit 88 = .ok (.iload 6, 2) := by decide +kernel
theorem dX10_fit_90 : decode cX10_fit 90 = .ok (.aload_n 0, 1) := by decide +kernel
theorem dX10_fit_91 : decode cX10_fit 91 = .ok (.iload 7, 2) := by decide +kernel
theorem dX10_fit_93 : decode cX10_fit 93 = .ok (.aload_n 0, 1) := by decide +kernel
theorem dX10_fit_94 : decode cX10_fit 94 = .ok (.getfield 32, 3) := by decide +kernel
theorem dX10_fit_97 : decode cX10_fit 97 = .ok (.iload 7, 2) := by decide +kernel
theorem dX10_fit_99 : decode cX10_fit 99 = .ok (.iaload, 1) := by decide +kernel
theorem dX10_fit_100 : decode cX10_fit 100 = .ok (.iload 5, 2) := by decide +kernel
theorem dX10_fit_102 : decode cX10_fit 102 = .ok (.imul, 1) := by decide +kernel
theorem dX10_fit_103 : decode cX10_fit 103 = .ok (.iload 4, 2) := by decide +kernel
theorem dX10_fit_105 : decode cX10_fit 105 = .ok (.idiv, 1) := by decide +kernel
theorem dX10_fit_106 : decode cX10_fit 106 = .ok (.iload_n 3, 1) := by decide +kernel
theorem dX10_fit_107 : decode cX10_fit 107 = .ok (.invokevirtual 154, 3) := by decide +kernel
theorem dX10_fit_110 : decode cX10_fit 110 = .ok (.isub, 1) := by decide +kernel
theorem dX10_fit_111 : decode cX10_fit 111 = .ok (.istore 6, 2) := by decide +kernel
theorem dX10_fit_113 : decode cX10_fit 113 = .ok (.iinc 7 1, 3) := by decide +kernel
theorem dX10_fit_116 : decode cX10_fit 116 = .ok (.goto (-52), 3) := by decide +kernel
theorem dX10_fit_119 : decode cX10_fit 119 = .ok (.iload 6, 2) := by decide +kernel
theorem dX10_fit_121 : decode cX10_fit 121 = .ok (.ifCond .le 62, 3) := by decide +kernel
theorem dX10_fit_124 : decode cX10_fit 124 = .ok (.iconst 0, 1) := by decide +kernel
theorem dX10_fit_125 : decode cX10_fit 125 = .ok (.istore 7, 2) := by decide +kernel
theorem dX10_fit_127 : decode cX10_fit 127 = .ok (.iload 7, 2) := by decide +kernel
theorem dX10_fit_129 : decode cX10_fit 129 = .ok (.aload_n 0, 1) := by decide +kernel
theorem dX10_fit_130 : decode cX10_fit 130 = .ok (.getfield 43, 3) := by decide +kernel
theorem dX10_fit_133 : decode cX10_fit 133 = .ok (.if_icmp .ge 47, 3) := by decide +kernel
theorem dX10_fit_136 : decode cX10_fit 136 = .ok (.iload 6, 2) := by decide +kernel
theorem dX10_fit_138 : decode cX10_fit 138 = .ok (.ifCond .le 42, 3) := by decide +kernel
theorem dX10_fit_141 : decode cX10_fit 141 = .ok (.aload_n 0, 1) := by decide +kernel
theorem dX10_fit_142 : decode cX10_fit 142 = .ok (.iload 7, 2) := by decide +kernel
theorem dX10_fit_144 : decode cX10_fit 144 = .ok (.iload_n 1, 1) := by decide +kernel
theorem dX10_fit_145 : decode cX10_fit 145 = .ok (.invokevirtual 150, 3) := by decide +kernel
theorem dX10_fit_148 : decode cX10_fit 148 = .ok (.ifCond .eq 26, 3) := by decide +kernel
theorem dX10_fit_151 : decode cX10_fit 151 = .ok (.iload 6, 2) := by decide +kernel
theorem dX10_fit_153 : decode cX10_fit 153 = .ok (.aload_n 0, 1) := by decide +kernel
theorem dX10_fit_154 : decode cX10_fit 154 = .ok (.iload 7, 2) := by decide +kernel
theorem dX10_fit_156 : decode cX10_fit 156 = .ok (.iconst 1, 1) := by decide +kernel
theorem dX10_fit_157 : decode cX10_fit 157 = .ok (.aload_n 0, 1) := by decide +kernel
theorem dX10_fit_158 : decode cX10_fit 158 = .ok (.getfield 32, 3) := by decide +kernel
theorem dX10_fit_161 : decode cX10_fit 161 = .ok (.iload 7, 2) := by decide +kernel
theorem dX10_fit_163 : decode cX10_fit 163 = .ok (.iaload, 1) := by decide +kernel
theorem dX10_fit_164 : decode cX10_fit 164 = .ok (.invokestatic 116, 3) := by decide +kernel
theorem dX10_fit_167 : decode cX10_fit 167 = .ok (.iload_n 3, 1) := by decide +kernel
theorem dX10_fit_168 : decode cX10_fit 168 = .ok (.invokevirtual 154, 3) := by decide +kernel
theorem dX10_fit_171 : decode cX10_fit 171 = .ok (.isub, 1) := by decide +kernel
theorem dX10_fit_172 : decode cX10_fit 172 = .ok (.istore 6, 2) := by decide +kernel
theorem dX10_fit_174 : decode cX10_fit 174 = .ok (.iinc 7 1, 3) := by decide +kernel
theorem dX10_fit_177 : decode cX10_fit 177 = .ok (.goto (-50), 3) := by decide +kernel
theorem dX10_fit_180 : decode cX10_fit 180 = .ok (.goto (-61), 3) := by decide +kernel
theorem dX10_fit_183 : decode cX10_fit 183 = .ok (.iload 4, 2) := by decide +kernel
theorem dX10_fit_185 : decode cX10_fit 185 = .ok (.iload 5, 2) := by decide +kernel
theorem dX10_fit_187 : decode cX10_fit 187 = .ok (.isub, 1) := by decide +kernel
theorem dX10_fit_188 : decode cX10_fit 188 = .ok (.ireturn, 1) := by decide +kernel
theorem wcRX10_150 : Cond.methodLink RX10 150 yX10_isOn ∈ zTg ∧ Cond.instanceMethod yX10_isOn ∈ zTg ∧ Cond.selects RX10 yX10_isOn yX10_isOn ∈ zTg ∧ Cond.initialized RX10 ∈ zTg ∧ Cond.code yX10_isOn cX10_isOn 3 (some .boolean) ∈ zTg := ⟨zm_f 1155 (by decide +kernel) rfl, zm_f 1157 (by decide +kernel) rfl, zm_f 24 (by decide +kernel) rfl, zm_f 47 (by decide +kernel) rfl, zm_f 1158 (by decide +kernel) rfl⟩
theorem wy_yX10_isOn : yX10_isOn.cls = RX10 ∧ yX10_isOn.cls ≠ "java/lang/invoke/MethodHandle" ∧ yX10_isOn.cls ≠ "java/lang/invoke/VarHandle" ∧ (parseMethodDescriptor yX10_isOn.desc).map (fun d => d.parameters.length) = some 2 := by decide +kernel
theorem wcRX10_154 : Cond.methodLink RX10 154 yX10_give ∈ zTg ∧ Cond.instanceMethod yX10_give ∈ zTg ∧ Cond.selects RX10 yX10_give yX10_give ∈ zTg ∧ Cond.initialized RX10 ∈ zTg ∧ Cond.code yX10_give cX10_give 4 (some .int) ∈ zTg := ⟨zm_f 1159 (by decide +kernel) rfl, zm_f 1161 (by decide +kernel) rfl, zm_f 25 (by decide +kernel) rfl, zm_f 47 (by decide +kernel) rfl, zm_f 1162 (by decide +kernel) rfl⟩
theorem wy_yX10_give : yX10_give.cls = RX10 ∧ yX10_give.cls ≠ "java/lang/invoke/MethodHandle" ∧ yX10_give.cls ≠ "java/lang/invoke/VarHandle" ∧ (parseMethodDescriptor yX10_give.desc).map (fun d => d.parameters.length) = some 3 := by decide +kernel
def fMS_fit_l6 (a1 : Int32) (s0 : zM) (q1 : Int32 × Int32) : Option ((Int32 × Int32) ⊕ ((Int32))) :=
  if (s0 0 0 7) ≤ q1.2 then
  some (.inr q1.1)
else
  Option.bind (fMS_isOn q1.2 a1 s0) fun q3 =>
    Option.bind (if q3 = 0 then
    some (0 : Int32)
  else
    zix q1.2 8 fun j8 =>
      some (s0 7 0 j8)) fun q4 =>
    zlet ((q1.1 + q4)) fun v9 =>
    zlet (q1.2 + 1) fun v10 =>
    some (.inl (v9, v10))
def fMS_fit_l64 (a1 : Int32) (a3 : Int32) (q2 : (Int32)) (v11 : Int32) (q12 : Int32 × Int32 × zM) : Option ((Int32 × Int32 × zM) ⊕ ((Int32 × zM))) :=
  if (q12.2.2 0 0 7) ≤ q12.2.1 then
  some (.inr (q12.1, q12.2.2))
else
  if v11 ≤ 0 then
    some (.inr (q12.1, q12.2.2))
  else
    Option.bind (fMS_isOn q12.2.1 a1 q12.2.2) fun q14 =>
      Option.bind (if q14 = 0 then
      some (q12.1, q12.2.2)
    else
      zix q12.2.1 8 fun j19 =>
        zg (¬ q2 = 0) (
        Option.bind (fMS_give q12.2.1 (((q12.2.2 7 0 j19) * v11) / q2) a3 q12.2.2) fun q20 =>
        zlet ((q12.1 - q20.1)) fun v21 =>
        some (v21, q20.2))) fun q15 =>
      zlet (q12.2.1 + 1) fun v22 =>
      some (.inl (q15.1, v22, q15.2))
def fMS_fit_l127 (a1 : Int32) (a3 : Int32) (q25 : Int32 × Int32 × zM) : Option ((Int32 × Int32 × zM) ⊕ ((Int32 × zM))) :=
  if (q25.2.2 0 0 7) ≤ q25.2.1 then
  some (.inr (q25.1, q25.2.2))
else
  if q25.1 ≤ 0 then
    some (.inr (q25.1, q25.2.2))
  else
    Option.bind (fMS_isOn q25.2.1 a1 q25.2.2) fun q27 =>
      Option.bind (if q27 = 0 then
      some (q25.1, q25.2.2)
    else
      zix q25.2.1 8 fun j32 =>
        Option.bind (fMS_give q25.2.1 (zmin (1 : Int32) (q25.2.2 7 0 j32)) a3 q25.2.2) fun q33 =>
        zlet ((q25.1 - q33.1)) fun v34 =>
        some (v34, q33.2)) fun q28 =>
      zlet (q25.2.1 + 1) fun v35 =>
      some (.inl (q28.1, v35, q28.2))
def fMS_fit_l119 (a1 : Int32) (a3 : Int32) (q23 : Int32 × zM) : Option ((Int32 × zM) ⊕ ((zM))) :=
  if q23.1 ≤ 0 then
  some (.inr q23.2)
else
  Option.bind (ziter (fMS_fit_l127 a1 a3) 1000 (q23.1, (0 : Int32), q23.2)) fun q26 =>
    some (.inl (q26.1, q26.2))
def fMS_fit (a1 : Int32) (a2 : Int32) (a3 : Int32) (s0 : zM) : Option (Int32 × zM) :=
  Option.bind (ziter (fMS_fit_l6 a1 s0) 1000 ((0 : Int32), (0 : Int32))) fun q2 =>
  zlet ((zmax (0 : Int32) (q2 - a2))) fun v11 =>
  Option.bind (ziter (fMS_fit_l64 a1 a3 q2 v11) 1000 (v11, (0 : Int32), s0)) fun q13 =>
  Option.bind (ziter (fMS_fit_l119 a1 a3) 1000 (q13.1, q13.2)) fun q24 =>
  some ((q2 - v11), q24)
set_option maxHeartbeats 4000000 in
set_option maxRecDepth 20000 in
theorem bfMS_fit_l6 {X : zX} (F : zFr X cX10_fit 8 RX10 (some .int)) (a1 : Int32) (s0 : zM) (a2 : Int32) (a3 : Int32)  {ψ : (Int32 × Int32) ⊕ ((Int32)) → Option zO} (h1 : ∀ q1 : Int32 × Int32, zZ X [(3, [])] 1 23 8 6 [some (zr 0 0 0), some (zi a1), some (zi a2), some (zi a3), some (zi q1.1), some (zi q1.2), none, none] [] [s0] (ψ (.inl q1))) (h2 : ∀ q2 : Int32, zZ X [(3, [])] 1 23 8 47 [some (zr 0 0 0), some (zi a1), some (zi a2), some (zi a3), some (zi q2), none, none, none] [] [s0] (ψ (.inr q2))) (q1 : Int32 × Int32) : zZ X [(3, [])] 1 23 8 6 [some (zr 0 0 0), some (zi a1), some (zi a2), some (zi a3), some (zi q1.1), some (zi q1.2), none, none] [] [s0] (Option.bind (fMS_fit_l6 a1 s0 q1) ψ) := by
  unfold fMS_fit_l6
  refine zz_iload F (i := 5) dX10_fit_6 rfl ?_
  refine zz_aload_n F (i := 0) dX10_fit_8 rfl rfl ?_
  refine zz_getf F dX10_fit_9 wfRX10_43 zCl_9 rfl (⟨zlb rfl, zlb rfl, zlb rfl⟩) rfl (by decide) rfl rfl ?_
  refine zz_icmp_ge F (tgt := 47) dX10_fit_12 (by decide) (fun h => zz_t h ?_) (fun h => zz_f h ?_)
  · exact zz_sub (zs_k (zs_k (zs_k (zs_k (zs_k (zs_n (zs_k (zs_k zs_z)))))))) (h2 q1.1)
  · refine zz_iload F (i := 4) dX10_fit_15 rfl ?_
    refine zz_aload_n F (i := 0) dX10_fit_17 rfl rfl ?_
    refine zz_iload F (i := 5) dX10_fit_18 rfl ?_
    refine zz_iload_n F (i := 1) dX10_fit_20 rfl rfl ?_
    refine zz_bind ?_
    refine zz_callVr F (ρ := [0]) (so := fun q3 => [zi q3, zi q1.1]) (Mo := fun q3 => [s0]) (zfMS_isOn q1.2 a1 s0) dX10_fit_21 wcRX10_150 wy_yX10_isOn rfl ⟨rel18, rfl, rfl, Nat.le_of_ble_eq_true rfl, Nat.le_of_ble_eq_true rfl, Nat.le_of_ble_eq_true rfl⟩ (⟨zlb rfl, zlb rfl, zlb rfl⟩) rfl rfl rfl (fun _ => rfl) (fun _ => rfl) fun q3 => ?_
    refine zz_join (pj := 38) (Lj := fun q4 => [some (zr 0 0 0), some (zi a1), some (zi a2), some (zi a3), none, some (zi q1.2), none, none]) (Sj := fun q4 => [zi q4, zi q1.1]) (Mj := fun q4 => [s0]) (fun q4 => ?_) (fun κ6 hj5 => ?_)
    · refine zz_iadd F dX10_fit_38 ?_
      refine zz_istore F (i := 4) (L' := [some (zr 0 0 0), some (zi a1), some (zi a2), some (zi a3), some (zi (q1.1 + q4)), some (zi q1.2), none, none]) dX10_fit_39 (by decide) rfl rfl ?_
      refine zz_letl (Lf := fun v9 => [some (zr 0 0 0), some (zi a1), some (zi a2), some (zi a3), some (zi v9), some (zi q1.2), none, none]) fun v9 => ?_
      refine zz_iinc F (i := 5) (v := q1.2 + 1) (L' := [some (zr 0 0 0), some (zi a1), some (zi a2), some (zi a3), some (zi v9), some (zi (q1.2 + 1)), none, none]) dX10_fit_41 rfl (by first | rfl | decide) (by decide) rfl rfl ?_
      refine zz_letl (Lf := fun v10 => [some (zr 0 0 0), some (zi a1), some (zi a2), some (zi a3), some (zi v9), some (zi v10), none, none]) fun v10 => ?_
      refine zz_goto F (tgt := 6) dX10_fit_44 (by decide) ?_
      exact zz_sub (zs_k (zs_k (zs_k (zs_k (zs_k (zs_k (zs_k (zs_k zs_z)))))))) (h1 (v9, v10))
    · refine zz_if_eq F (tgt := 37) dX10_fit_24 (by decide) (fun h => zz_t h ?_) (fun h => zz_f h ?_)
      · refine zz_iconst F (v := (0 : Int32)) dX10_fit_37 (by decide) ?_
        exact zz_sub (zs_k (zs_k (zs_k (zs_k (zs_n (zs_k (zs_k (zs_k zs_z)))))))) (hj5 (0 : Int32))
      · refine zz_aload_n F (i := 0) dX10_fit_27 rfl rfl ?_
        refine zz_getr F dX10_fit_28 wfRX10_32 zCl_9 rfl (⟨zlb rfl, zlb rfl, zlb rfl⟩) rfl (by decide) rfl (r' := 0) (by decide) ?_
        refine zz_iload F (i := 5) dX10_fit_31 rfl ?_
        refine zz_ix fun j8 hj8 hinj8 hej8 => zz_ial F dX10_fit_33 rfl (⟨zlb rfl, zlb rfl, zlb rfl⟩) rfl hinj8 hej8 ?_
        refine zz_goto F (tgt := 38) dX10_fit_34 (by decide) ?_
        exact zz_sub (zs_k (zs_k (zs_k (zs_k (zs_n (zs_k (zs_k (zs_k zs_z)))))))) (hj5 (s0 7 0 j8))
set_option maxHeartbeats 4000000 in
set_option maxRecDepth 20000 in
theorem bfMS_fit_l64 {X : zX} (F : zFr X cX10_fit 8 RX10 (some .int)) (a1 : Int32) (a3 : Int32) (q2 : (Int32)) (v11 : Int32)  {ψ : (Int32 × Int32 × zM) ⊕ ((Int32 × zM)) → Option zO} (h1 : ∀ q12 : Int32 × Int32 × zM, zZ X [(3, [])] 1 23 8 64 [some (zr 0 0 0), some (zi a1), none, some (zi a3), some (zi q2), some (zi v11), some (zi q12.1), some (zi q12.2.1)] [] [q12.2.2] (ψ (.inl q12))) (h2 : ∀ q13 : Int32 × zM, zZ X [(3, [])] 1 23 8 119 [some (zr 0 0 0), some (zi a1), none, some (zi a3), some (zi q2), some (zi v11), some (zi q13.1), none] [] [q13.2] (ψ (.inr q13))) (q12 : Int32 × Int32 × zM) : zZ X [(3, [])] 1 23 8 64 [some (zr 0 0 0), some (zi a1), none, some (zi a3), some (zi q2), some (zi v11), some (zi q12.1), some (zi q12.2.1)] [] [q12.2.2] (Option.bind (fMS_fit_l64 a1 a3 q2 v11 q12) ψ) := by
  unfold fMS_fit_l64
  refine zz_iload F (i := 7) dX10_fit_64 rfl ?_
  refine zz_aload_n F (i := 0) dX10_fit_66 rfl rfl ?_
  refine zz_getf F dX10_fit_67 wfRX10_43 zCl_9 rfl (⟨zlb rfl, zlb rfl, zlb rfl⟩) rfl (by decide) rfl rfl ?_
  refine zz_icmp_ge F (tgt := 119) dX10_fit_70 (by decide) (fun h => zz_t h ?_) (fun h => zz_f h ?_)
  · exact zz_sub (zs_k (zs_k (zs_k (zs_k (zs_k (zs_k (zs_k (zs_n zs_z)))))))) (h2 (q12.1, q12.2.2))
  · refine zz_iload F (i := 5) dX10_fit_73 rfl ?_
    refine zz_if_le F (tgt := 119) dX10_fit_75 (by decide) (fun h => zz_t h ?_) (fun h => zz_f h ?_)
    · exact zz_sub (zs_k (zs_k (zs_k (zs_k (zs_k (zs_k (zs_k (zs_n zs_z)))))))) (h2 (q12.1, q12.2.2))
    · refine zz_aload_n F (i := 0) dX10_fit_78 rfl rfl ?_
      refine zz_iload F (i := 7) dX10_fit_79 rfl ?_
      refine zz_iload_n F (i := 1) dX10_fit_81 rfl rfl ?_
      refine zz_bind ?_
      refine zz_callVr F (ρ := [0]) (so := fun q14 => [zi q14]) (Mo := fun q14 => [q12.2.2]) (zfMS_isOn q12.2.1 a1 q12.2.2) dX10_fit_82 wcRX10_150 wy_yX10_isOn rfl ⟨rel18, rfl, rfl, Nat.le_of_ble_eq_true rfl, Nat.le_of_ble_eq_true rfl, Nat.le_of_ble_eq_true rfl⟩ (⟨zlb rfl, zlb rfl, zlb rfl⟩) rfl rfl rfl (fun _ => rfl) (fun _ => rfl) fun q14 => ?_
      refine zz_join (pj := 113) (Lj := fun q15 => [some (zr 0 0 0), some (zi a1), none, some (zi a3), some (zi q2), some (zi v11), some (zi q15.1), some (zi q12.2.1)]) (Sj := fun q15 => []) (Mj := fun q15 => [q15.2]) (fun q15 => ?_) (fun κ17 hj16 => ?_)
      · refine zz_iinc F (i := 7) (v := q12.2.1 + 1) (L' := [some (zr 0 0 0), some (zi a1), none, some (zi a3), some (zi q2), some (zi v11), some (zi q15.1), some (zi (q12.2.1 + 1))]) dX10_fit_113 rfl (by first | rfl | decide) (by decide) rfl rfl ?_
        refine zz_letl (Lf := fun v22 => [some (zr 0 0 0), some (zi a1), none, some (zi a3), some (zi q2), some (zi v11), some (zi q15.1), some (zi v22)]) fun v22 => ?_
        refine zz_goto F (tgt := 64) dX10_fit_116 (by decide) ?_
        exact zz_sub (zs_k (zs_k (zs_k (zs_k (zs_k (zs_k (zs_k (zs_k zs_z)))))))) (h1 (q15.1, v22, q15.2))
      · refine zz_if_eq F (tgt := 113) dX10_fit_85 (by decide) (fun h => zz_t h ?_) (fun h => zz_f h ?_)
        · exact zz_sub (zs_k (zs_k (zs_k (zs_k (zs_k (zs_k (zs_k (zs_k zs_z)))))))) (hj16 (q12.1, q12.2.2))
        · refine zz_iload F (i := 6) dX10_fit_88 rfl ?_
          refine zz_aload_n F (i := 0) dX10_fit_90 rfl rfl ?_
          refine zz_iload F (i := 7) dX10_fit_91 rfl ?_
          refine zz_aload_n F (i := 0) dX10_fit_93 rfl rfl ?_
          refine zz_getr F dX10_fit_94 wfRX10_32 zCl_9 rfl (⟨zlb rfl, zlb rfl, zlb rfl⟩) rfl (by decide) rfl (r' := 0) (by decide) ?_
          refine zz_iload F (i := 7) dX10_fit_97 rfl ?_
          refine zz_ix fun j19 hj19 hinj19 hej19 => zz_ial F dX10_fit_99 rfl (⟨zlb rfl, zlb rfl, zlb rfl⟩) rfl hinj19 hej19 ?_
          refine zz_iload F (i := 5) dX10_fit_100 rfl ?_
          refine zz_imul F dX10_fit_102 ?_
          refine zz_iload F (i := 4) dX10_fit_103 rfl ?_
          refine zz_g fun h => zz_idiv F dX10_fit_105 h ?_
          refine zz_iload_n F (i := 3) dX10_fit_106 rfl rfl ?_
          refine zz_bind ?_
          refine zz_callVr F (ρ := [0]) (so := fun q20 => [zi q20.1, zi q12.1]) (Mo := fun q20 => [q20.2]) (zfMS_give q12.2.1 (((q12.2.2 7 0 j19) * v11) / q2) a3 q12.2.2) dX10_fit_107 wcRX10_154 wy_yX10_give rfl ⟨rel18, rfl, rfl, Nat.le_of_ble_eq_true rfl, Nat.le_of_ble_eq_true rfl, Nat.le_of_ble_eq_true rfl⟩ (⟨zlb rfl, zlb rfl, zlb rfl⟩) rfl rfl rfl (fun _ => rfl) (fun _ => rfl) fun q20 => ?_
          refine zz_isub F dX10_fit_110 ?_
          refine zz_istore F (i := 6) (L' := [some (zr 0 0 0), some (zi a1), none, some (zi a3), some (zi q2), some (zi v11), some (zi (q12.1 - q20.1)), some (zi q12.2.1)]) dX10_fit_111 (by decide) rfl rfl ?_
          refine zz_letl (Lf := fun v21 => [some (zr 0 0 0), some (zi a1), none, some (zi a3), some (zi q2), some (zi v11), some (zi v21), some (zi q12.2.1)]) fun v21 => ?_
          exact zz_sub (zs_k (zs_k (zs_k (zs_k (zs_k (zs_k (zs_k (zs_k zs_z)))))))) (hj16 (v21, q20.2))
set_option maxHeartbeats 4000000 in
set_option maxRecDepth 20000 in
theorem bfMS_fit_l127 {X : zX} (F : zFr X cX10_fit 8 RX10 (some .int)) (a1 : Int32) (a3 : Int32) (q2 : (Int32)) (v11 : Int32)  {ψ : (Int32 × Int32 × zM) ⊕ ((Int32 × zM)) → Option zO} (h1 : ∀ q25 : Int32 × Int32 × zM, zZ X [(3, [])] 1 23 8 127 [some (zr 0 0 0), some (zi a1), none, some (zi a3), some (zi q2), some (zi v11), some (zi q25.1), some (zi q25.2.1)] [] [q25.2.2] (ψ (.inl q25))) (h2 : ∀ q26 : Int32 × zM, zZ X [(3, [])] 1 23 8 180 [some (zr 0 0 0), some (zi a1), none, some (zi a3), some (zi q2), some (zi v11), some (zi q26.1), none] [] [q26.2] (ψ (.inr q26))) (q25 : Int32 × Int32 × zM) : zZ X [(3, [])] 1 23 8 127 [some (zr 0 0 0), some (zi a1), none, some (zi a3), some (zi q2), some (zi v11), some (zi q25.1), some (zi q25.2.1)] [] [q25.2.2] (Option.bind (fMS_fit_l127 a1 a3 q25) ψ) := by
  unfold fMS_fit_l127
  refine zz_iload F (i := 7) dX10_fit_127 rfl ?_
  refine zz_aload_n F (i := 0) dX10_fit_129 rfl rfl ?_
  refine zz_getf F dX10_fit_130 wfRX10_43 zCl_9 rfl (⟨zlb rfl, zlb rfl, zlb rfl⟩) rfl (by decide) rfl rfl ?_
  refine zz_icmp_ge F (tgt := 180) dX10_fit_133 (by decide) (fun h => zz_t h ?_) (fun h => zz_f h ?_)
  · exact zz_sub (zs_k (zs_k (zs_k (zs_k (zs_k (zs_k (zs_k (zs_n zs_z)))))))) (h2 (q25.1, q25.2.2))
  · refine zz_iload F (i := 6) dX10_fit_136 rfl ?_
    refine zz_if_le F (tgt := 180) dX10_fit_138 (by decide) (fun h => zz_t h ?_) (fun h => zz_f h ?_)
    · exact zz_sub (zs_k (zs_k (zs_k (zs_k (zs_k (zs_k (zs_k (zs_n zs_z)))))))) (h2 (q25.1, q25.2.2))
    · refine zz_aload_n F (i := 0) dX10_fit_141 rfl rfl ?_
      refine zz_iload F (i := 7) dX10_fit_142 rfl ?_
      refine zz_iload_n F (i := 1) dX10_fit_144 rfl rfl ?_
      refine zz_bind ?_
      refine zz_callVr F (ρ := [0]) (so := fun q27 => [zi q27]) (Mo := fun q27 => [q25.2.2]) (zfMS_isOn q25.2.1 a1 q25.2.2) dX10_fit_145 wcRX10_150 wy_yX10_isOn rfl ⟨rel18, rfl, rfl, Nat.le_of_ble_eq_true rfl, Nat.le_of_ble_eq_true rfl, Nat.le_of_ble_eq_true rfl⟩ (⟨zlb rfl, zlb rfl, zlb rfl⟩) rfl rfl rfl (fun _ => rfl) (fun _ => rfl) fun q27 => ?_
      refine zz_join (pj := 174) (Lj := fun q28 => [some (zr 0 0 0), some (zi a1), none, some (zi a3), some (zi q2), some (zi v11), some (zi q28.1), some (zi q25.2.1)]) (Sj := fun q28 => []) (Mj := fun q28 => [q28.2]) (fun q28 => ?_) (fun κ30 hj29 => ?_)
      · refine zz_iinc F (i := 7) (v := q25.2.1 + 1) (L' := [some (zr 0 0 0), some (zi a1), none, some (zi a3), some (zi q2), some (zi v11), some (zi q28.1), some (zi (q25.2.1 + 1))]) dX10_fit_174 rfl (by first | rfl | decide) (by decide) rfl rfl ?_
        refine zz_letl (Lf := fun v35 => [some (zr 0 0 0), some (zi a1), none, some (zi a3), some (zi q2), some (zi v11), some (zi q28.1), some (zi v35)]) fun v35 => ?_
        refine zz_goto F (tgt := 127) dX10_fit_177 (by decide) ?_
        exact zz_sub (zs_k (zs_k (zs_k (zs_k (zs_k (zs_k (zs_k (zs_k zs_z)))))))) (h1 (q28.1, v35, q28.2))
      · refine zz_if_eq F (tgt := 174) dX10_fit_148 (by decide) (fun h => zz_t h ?_) (fun h => zz_f h ?_)
        · exact zz_sub (zs_k (zs_k (zs_k (zs_k (zs_k (zs_k (zs_k (zs_k zs_z)))))))) (hj29 (q25.1, q25.2.2))
        · refine zz_iload F (i := 6) dX10_fit_151 rfl ?_
          refine zz_aload_n F (i := 0) dX10_fit_153 rfl rfl ?_
          refine zz_iload F (i := 7) dX10_fit_154 rfl ?_
          refine zz_iconst F (v := (1 : Int32)) dX10_fit_156 (by decide) ?_
          refine zz_aload_n F (i := 0) dX10_fit_157 rfl rfl ?_
          refine zz_getr F dX10_fit_158 wfRX10_32 zCl_9 rfl (⟨zlb rfl, zlb rfl, zlb rfl⟩) rfl (by decide) rfl (r' := 0) (by decide) ?_
          refine zz_iload F (i := 7) dX10_fit_161 rfl ?_
          refine zz_ix fun j32 hj32 hinj32 hej32 => zz_ial F dX10_fit_163 rfl (⟨zlb rfl, zlb rfl, zlb rfl⟩) rfl hinj32 hej32 ?_
          refine zz_min F dX10_fit_164 wmRX10_116 wMath_min (Nat.le_of_ble_eq_true rfl) (Nat.le_of_ble_eq_true rfl) ?_
          refine zz_iload_n F (i := 3) dX10_fit_167 rfl rfl ?_
          refine zz_bind ?_
          refine zz_callVr F (ρ := [0]) (so := fun q33 => [zi q33.1, zi q25.1]) (Mo := fun q33 => [q33.2]) (zfMS_give q25.2.1 (zmin (1 : Int32) (q25.2.2 7 0 j32)) a3 q25.2.2) dX10_fit_168 wcRX10_154 wy_yX10_give rfl ⟨rel18, rfl, rfl, Nat.le_of_ble_eq_true rfl, Nat.le_of_ble_eq_true rfl, Nat.le_of_ble_eq_true rfl⟩ (⟨zlb rfl, zlb rfl, zlb rfl⟩) rfl rfl rfl (fun _ => rfl) (fun _ => rfl) fun q33 => ?_
          refine zz_isub F dX10_fit_171 ?_
          refine zz_istore F (i := 6) (L' := [some (zr 0 0 0), some (zi a1), none, some (zi a3), some (zi q2), some (zi v11), some (zi (q25.1 - q33.1)), some (zi q25.2.1)]) dX10_fit_172 (by decide) rfl rfl ?_
          refine zz_letl (Lf := fun v34 => [some (zr 0 0 0), some (zi a1), none, some (zi a3), some (zi q2), some (zi v11), some (zi v34), some (zi q25.2.1)]) fun v34 => ?_
          exact zz_sub (zs_k (zs_k (zs_k (zs_k (zs_k (zs_k (zs_k (zs_k zs_z)))))))) (hj29 (v34, q33.2))
set_option maxHeartbeats 4000000 in
set_option maxRecDepth 20000 in
theorem bfMS_fit_l119 {X : zX} (F : zFr X cX10_fit 8 RX10 (some .int)) (a1 : Int32) (a3 : Int32) (q2 : (Int32)) (v11 : Int32)  {ψ : (Int32 × zM) ⊕ ((zM)) → Option zO} (h1 : ∀ q23 : Int32 × zM, zZ X [(3, [])] 1 23 8 119 [some (zr 0 0 0), some (zi a1), none, some (zi a3), some (zi q2), some (zi v11), some (zi q23.1), none] [] [q23.2] (ψ (.inl q23))) (h2 : ∀ q24 : zM, zZ X [(3, [])] 1 23 8 183 [none, none, none, none, some (zi q2), some (zi v11), none, none] [] [q24] (ψ (.inr q24))) (q23 : Int32 × zM) : zZ X [(3, [])] 1 23 8 119 [some (zr 0 0 0), some (zi a1), none, some (zi a3), some (zi q2), some (zi v11), some (zi q23.1), none] [] [q23.2] (Option.bind (fMS_fit_l119 a1 a3 q23) ψ) := by
  unfold fMS_fit_l119
  refine zz_iload F (i := 6) dX10_fit_119 rfl ?_
  refine zz_if_le F (tgt := 183) dX10_fit_121 (by decide) (fun h => zz_t h ?_) (fun h => zz_f h ?_)
  · exact zz_sub (zs_n (zs_n (zs_k (zs_n (zs_k (zs_k (zs_n (zs_k zs_z)))))))) (h2 q23.2)
  · refine zz_iconst F (v := (0 : Int32)) dX10_fit_124 (by decide) ?_
    refine zz_istore F (i := 7) (L' := [some (zr 0 0 0), some (zi a1), none, some (zi a3), some (zi q2), some (zi v11), some (zi q23.1), some (zi (0 : Int32))]) dX10_fit_125 (by decide) rfl rfl ?_
    refine zz_sub (zs_k (zs_k (zs_k (zs_k (zs_k (zs_k (zs_k (zs_k zs_z)))))))) ?_
    refine zz_bind ?_
    refine zz_iter (Lf := fun q25 => [some (zr 0 0 0), some (zi a1), none, some (zi a3), some (zi q2), some (zi v11), some (zi q25.1), some (zi q25.2.1)]) (Mf := fun q25 => [q25.2.2]) (fun q25 _ e36 e37 => bfMS_fit_l127 F a1 a3 q2 v11  e36 (fun q26 => ?_)  q25) 1000 (q23.1, (0 : Int32), q23.2)
    rw [e37]
    refine zz_goto F (tgt := 119) dX10_fit_180 (by decide) ?_
    exact zz_sub (zs_k (zs_k (zs_k (zs_k (zs_k (zs_k (zs_k (zs_k zs_z)))))))) (h1 (q26.1, q26.2))
set_option maxHeartbeats 4000000 in
set_option maxRecDepth 20000 in
theorem bfMS_fit {X : zX} (F : zFr X cX10_fit 8 RX10 (some .int)) (a1 : Int32) (a2 : Int32) (a3 : Int32)  (s0 : zM) {κ : Int32 × zM → Option zO} (hκ : ∀ a, κ a = some ((fun a => ((.inl ((fun q => some (zi q.1)) a), (fun q => [q.2]) a) : zO)) a)) : zZ X [(3, [])] 1 23 8 0 [some (zr 0 0 0), some (zi a1), some (zi a2), some (zi a3), none, none, none, none] [] [s0] (Option.bind (fMS_fit a1 a2 a3 s0) κ) := by
  unfold fMS_fit
  refine zz_iconst F (v := (0 : Int32)) dX10_fit_0 (by decide) ?_
  refine zz_istore F (i := 4) (L' := [some (zr 0 0 0), some (zi a1), some (zi a2), some (zi a3), some (zi (0 : Int32)), none, none, none]) dX10_fit_1 (by decide) rfl rfl ?_
  refine zz_iconst F (v := (0 : Int32)) dX10_fit_3 (by decide) ?_
  refine zz_istore F (i := 5) (L' := [some (zr 0 0 0), some (zi a1), some (zi a2), some (zi a3), some (zi (0 : Int32)), some (zi (0 : Int32)), none, none]) dX10_fit_4 (by decide) rfl rfl ?_
  refine zz_sub (zs_k (zs_k (zs_k (zs_k (zs_k (zs_k (zs_k (zs_k zs_z)))))))) ?_
  refine zz_bind ?_
  refine zz_iter (Lf := fun q1 => [some (zr 0 0 0), some (zi a1), some (zi a2), some (zi a3), some (zi q1.1), some (zi q1.2), none, none]) (Mf := fun q1 => [s0]) (fun q1 _ e42 e43 => bfMS_fit_l6 F a1 s0 a2 a3  e42 (fun q2 => ?_)  q1) 1000 ((0 : Int32), (0 : Int32))
  rw [e43]
  refine zz_iconst F (v := (0 : Int32)) dX10_fit_47 (by decide) ?_
  refine zz_iload F (i := 4) dX10_fit_48 rfl ?_
  refine zz_iload_n F (i := 2) dX10_fit_50 rfl rfl ?_
  refine zz_isub F dX10_fit_51 ?_
  refine zz_max F dX10_fit_52 wmRX10_113 wMath_max (Nat.le_of_ble_eq_true rfl) (Nat.le_of_ble_eq_true rfl) ?_
  refine zz_istore F (i := 5) (L' := [some (zr 0 0 0), some (zi a1), some (zi a2), some (zi a3), some (zi q2), some (zi (zmax (0 : Int32) (q2 - a2))), none, none]) dX10_fit_55 (by decide) rfl rfl ?_
  refine zz_letl (Lf := fun v11 => [some (zr 0 0 0), some (zi a1), some (zi a2), some (zi a3), some (zi q2), some (zi v11), none, none]) fun v11 => ?_
  refine zz_iload F (i := 5) dX10_fit_57 rfl ?_
  refine zz_istore F (i := 6) (L' := [some (zr 0 0 0), some (zi a1), some (zi a2), some (zi a3), some (zi q2), some (zi v11), some (zi v11), none]) dX10_fit_59 (by decide) rfl rfl ?_
  refine zz_iconst F (v := (0 : Int32)) dX10_fit_61 (by decide) ?_
  refine zz_istore F (i := 7) (L' := [some (zr 0 0 0), some (zi a1), some (zi a2), some (zi a3), some (zi q2), some (zi v11), some (zi v11), some (zi (0 : Int32))]) dX10_fit_62 (by decide) rfl rfl ?_
  refine zz_sub (zs_k (zs_k (zs_n (zs_k (zs_k (zs_k (zs_k (zs_k zs_z)))))))) ?_
  refine zz_bind ?_
  refine zz_iter (Lf := fun q12 => [some (zr 0 0 0), some (zi a1), none, some (zi a3), some (zi q2), some (zi v11), some (zi q12.1), some (zi q12.2.1)]) (Mf := fun q12 => [q12.2.2]) (fun q12 _ e40 e41 => bfMS_fit_l64 F a1 a3 q2 v11  e40 (fun q13 => ?_)  q12) 1000 (v11, (0 : Int32), s0)
  rw [e41]
  refine zz_sub (zs_k (zs_k (zs_k (zs_k (zs_k (zs_k (zs_k (zs_k zs_z)))))))) ?_
  refine zz_bind ?_
  refine zz_iter (Lf := fun q23 => [some (zr 0 0 0), some (zi a1), none, some (zi a3), some (zi q2), some (zi v11), some (zi q23.1), none]) (Mf := fun q23 => [q23.2]) (fun q23 _ e38 e39 => bfMS_fit_l119 F a1 a3 q2 v11  e38 (fun q24 => ?_)  q23) 1000 (q13.1, q13.2)
  rw [e39]
  refine zz_iload F (i := 4) dX10_fit_183 rfl ?_
  refine zz_iload F (i := 5) dX10_fit_185 rfl ?_
  refine zz_isub F dX10_fit_187 ?_
  exact zz_ireturn F dX10_fit_188 rfl (hκ _)
theorem zfMS_fit (a1 : Int32) (a2 : Int32) (a3 : Int32)  (s0 : zM) : ∀ a, fMS_fit a1 a2 a3 s0 = some a → zMet yX10_fit cX10_fit 8 (some .int) 1 23 [(3, [])] [zr 0 0 0, zi a1, zi a2, zi a3] [s0] ((fun a => ((.inl ((fun q => some (zi q.1)) a), (fun q => [q.2]) a) : zO)) a) := fun a ha => zMet_of (L0 := [some (zr 0 0 0), some (zi a1), some (zi a2), some (zi a3), none, none, none, none]) (φ := Option.bind (fMS_fit a1 a2 a3 s0) (fun a => some ((fun a => ((.inl ((fun q => some (zi q.1)) a), (fun q => [q.2]) a) : zO)) a))) (by decide) (fun _ => Nat.le_of_ble_eq_true rfl) (zl0 4 rfl) (fun X F => bfMS_fit F a1 a2 a3 s0 (fun _ => rfl)) (by rw [ha]; rfl)

theorem dX10_wears_0 : decode cX10_wears 0 = .ok (.aload_n 0, 1) := by decide +kernel
theorem dX10_wears_1 : decode cX10_wears 1 = .ok (.bipush 11, 2) := by decide +kernel
theorem dX10_wears_3 : decode cX10_wears 3 = .ok (.iload_n 1, 1) := by decide +kernel
theorem dX10_wears_4 : decode cX10_wears 4 = .ok (.iadd, 1) := by decide +kernel
theorem dX10_wears_5 : decode cX10_wears 5 = .ok (.sipush 9999, 3) := by decide +kernel
theorem dX10_wears_8 : decode cX10_wears 8 = .ok (.aload_n 0, 1) := by decide +kernel
theorem dX10_wears_9 : decode cX10_wears 9 = .ok (.bipush 11, 2) := by decide +kernel
theorem dX10_wears_11 : decode cX10_wears 11 = .ok (.iload_n 1, 1) := by decide +kernel
theorem dX10_wears_12 : decode cX10_wears 12 = .ok (.iadd, 1) := by decide +kernel
theorem dX10_wears_13 : decode cX10_wears 13 = .ok (.iaload, 1) := by decide +kernel
theorem dX10_wears_14 : decode cX10_wears 14 = .ok (.iload_n 2, 1) := by decide +kernel
theorem dX10_wears_15 : decode cX10_wears 15 = .ok (.iadd, 1) := by decide +kernel
theorem dX10_wears_16 : decode cX10_wears 16 = .ok (.invokestatic 116, 3) := by decide +kernel
theorem dX10_wears_19 : decode cX10_wears 19 = .ok (.iastore, 1) := by decide +kernel
theorem dX10_wears_20 : decode cX10_wears 20 = .ok (.return_, 1) := by decide +kernel
def fMS_wears (i : Nat) (a1 : Int32) (a2 : Int32) (s0 : zM) : Option (zM) :=
  zix ((11 : Int32) + a1) 23 fun j1 =>
  zix ((11 : Int32) + a1) 23 fun j2 =>
  zlet (zu s0 8 i j2 (zmin (9999 : Int32) ((s0 8 i j1) + a2))) fun s0_3 =>
  some s0_3
set_option maxHeartbeats 4000000 in
set_option maxRecDepth 20000 in
theorem bfMS_wears {X : zX} (F : zFr X cX10_wears 3 RX10 none) (i : Nat) (a1 : Int32) (a2 : Int32) (hi : i < 8) (s0 : zM) {κ : zM → Option zO} (hκ : ∀ a, κ a = some ((fun a => ((.inl ((fun _ => (none : Option zV)) a), (fun q => [q]) a) : zO)) a)) : zZ X [(3, [])] 1 23 3 0 [some (zr 0 8 i), some (zi a1), some (zi a2)] [] [s0] (Option.bind (fMS_wears i a1 a2 s0) κ) := by
  unfold fMS_wears
  refine zz_aload_n F (i := 0) dX10_wears_0 rfl rfl ?_
  refine zz_bipush F (v := (11 : Int32)) dX10_wears_1 (by decide) ?_
  refine zz_iload_n F (i := 1) dX10_wears_3 rfl rfl ?_
  refine zz_iadd F dX10_wears_4 ?_
  refine zz_sipush F (v := (9999 : Int32)) dX10_wears_5 (by decide) ?_
  refine zz_aload_n F (i := 0) dX10_wears_8 rfl rfl ?_
  refine zz_bipush F (v := (11 : Int32)) dX10_wears_9 (by decide) ?_
  refine zz_iload_n F (i := 1) dX10_wears_11 rfl rfl ?_
  refine zz_iadd F dX10_wears_12 ?_
  refine zz_ix fun j1 hj1 hinj1 hej1 => zz_ial F dX10_wears_13 rfl (⟨zlb rfl, zlb rfl, hi⟩) rfl hinj1 hej1 ?_
  refine zz_iload_n F (i := 2) dX10_wears_14 rfl rfl ?_
  refine zz_iadd F dX10_wears_15 ?_
  refine zz_min F dX10_wears_16 wmRX10_116 wMath_min (Nat.le_of_ble_eq_true rfl) (Nat.le_of_ble_eq_true rfl) ?_
  refine zz_ix fun j2 hj2 hinj2 hej2 => zz_ias F (Ms' := [(zu s0 8 i j2 (zmin (9999 : Int32) ((s0 8 i j1) + a2)))]) dX10_wears_19 rfl (⟨zlb rfl, zlb rfl, hi⟩) rfl hinj2 hej2 rfl ?_
  refine zz_letm (Mf := fun s0_3 => [s0_3]) fun s0_3 => ?_
  exact zz_return F dX10_wears_20 rfl (hκ _)
theorem zfMS_wears (i : Nat) (a1 : Int32) (a2 : Int32) (hi : i < 8) (s0 : zM) : ∀ a, fMS_wears i a1 a2 s0 = some a → zMet yX10_wears cX10_wears 3 none 1 23 [(3, [])] [zr 0 8 i, zi a1, zi a2] [s0] ((fun a => ((.inl ((fun _ => (none : Option zV)) a), (fun q => [q]) a) : zO)) a) := fun a ha => zMet_of (L0 := [some (zr 0 8 i), some (zi a1), some (zi a2)]) (φ := Option.bind (fMS_wears i a1 a2 s0) (fun a => some ((fun a => ((.inl ((fun _ => (none : Option zV)) a), (fun q => [q]) a) : zO)) a))) (by decide) (fun _ => Nat.le_of_ble_eq_true rfl) (zl0 0 rfl) (fun X F => bfMS_wears F i a1 a2 hi s0 (fun _ => rfl)) (by rw [ha]; rfl)

theorem dX10_rows_0 : decode cX10_rows 0 = .ok (.iconst 0, 1) := by decide +kernel
theorem dX10_rows_1 : decode cX10_rows 1 = .ok (.istore_n 1, 1) := by decide +kernel
theorem dX10_rows_2 : decode cX10_rows 2 = .ok (.iload_n 1, 1) := by decide +kernel
theorem dX10_rows_3 : decode cX10_rows 3 = .ok (.bipush 30, 2) := by decide +kernel
theorem dX10_rows_5 : decode cX10_rows 5 = .ok (.if_icmp .ge 15, 3) := by decide +kernel
theorem dX10_rows_8 : decode cX10_rows 8 = .ok (.aload_n 0, 1) := by decide +kernel
theorem dX10_rows_9 : decode cX10_rows 9 = .ok (.iload_n 1, 1) := by decide +kernel
theorem dX10_rows_10 : decode cX10_rows 10 = .ok (.iaload, 1) := by decide +kernel
theorem dX10_rows_11 : decode cX10_rows 11 = .ok (.ifCond .le 9, 3) := by decide +kernel
theorem dX10_rows_14 : decode cX10_rows 14 = .ok (.iinc 1 1, 3) := by decide +kernel
theorem dX10_rows_17 : decode cX10_rows 17 = .ok (.goto (-15), 3) := by decide +kernel
theorem dX10_rows_20 : decode cX10_rows 20 = .ok (.iload_n 1, 1) := by decide +kernel
theorem dX10_rows_21 : decode cX10_rows 21 = .ok (.ireturn, 1) := by decide +kernel
def fMS_rows_l2 (i : Nat) (s0 : zM) (q1 : Int32) : Option ((Int32) ⊕ ((Int32))) :=
  if (30 : Int32) ≤ q1 then
  some (.inr q1)
else
  zix q1 30 fun j3 =>
    if (s0 9 i j3) ≤ 0 then
    some (.inr q1)
  else
    zlet (q1 + 1) fun v4 =>
      some (.inl v4)
def fMS_rows (i : Nat) (s0 : zM) : Option (Int32) :=
  Option.bind (ziter (fMS_rows_l2 i s0) 1000 (0 : Int32)) fun q2 =>
  some q2
set_option maxHeartbeats 4000000 in
set_option maxRecDepth 20000 in
theorem bfMS_rows_l2 {X : zX} (F : zFr X cX10_rows 2 RX10 (some .int)) (i : Nat) (s0 : zM) (hi : i < 8) {ψ : (Int32) ⊕ ((Int32)) → Option zO} (h1 : ∀ q1 : Int32, zZ X [(3, [])] 0 0 2 2 [some (zr 0 9 i), some (zi q1)] [] [s0] (ψ (.inl q1))) (h2 : ∀ q2 : Int32, zZ X [(3, [])] 0 0 2 20 [none, some (zi q2)] [] [s0] (ψ (.inr q2))) (q1 : Int32) : zZ X [(3, [])] 0 0 2 2 [some (zr 0 9 i), some (zi q1)] [] [s0] (Option.bind (fMS_rows_l2 i s0 q1) ψ) := by
  unfold fMS_rows_l2
  refine zz_iload_n F (i := 1) dX10_rows_2 rfl rfl ?_
  refine zz_bipush F (v := (30 : Int32)) dX10_rows_3 (by decide) ?_
  refine zz_icmp_ge F (tgt := 20) dX10_rows_5 (by decide) (fun h => zz_t h ?_) (fun h => zz_f h ?_)
  · exact zz_sub (zs_n (zs_k zs_z)) (h2 q1)
  · refine zz_aload_n F (i := 0) dX10_rows_8 rfl rfl ?_
    refine zz_iload_n F (i := 1) dX10_rows_9 rfl rfl ?_
    refine zz_ix fun j3 hj3 hinj3 hej3 => zz_ial F dX10_rows_10 rfl (⟨zlb rfl, zlb rfl, hi⟩) rfl hinj3 hej3 ?_
    refine zz_if_le F (tgt := 20) dX10_rows_11 (by decide) (fun h => zz_t h ?_) (fun h => zz_f h ?_)
    · exact zz_sub (zs_n (zs_k zs_z)) (h2 q1)
    · refine zz_iinc F (i := 1) (v := q1 + 1) (L' := [some (zr 0 9 i), some (zi (q1 + 1))]) dX10_rows_14 rfl (by first | rfl | decide) (by decide) rfl rfl ?_
      refine zz_letl (Lf := fun v4 => [some (zr 0 9 i), some (zi v4)]) fun v4 => ?_
      refine zz_goto F (tgt := 2) dX10_rows_17 (by decide) ?_
      exact zz_sub (zs_k (zs_k zs_z)) (h1 v4)
set_option maxHeartbeats 4000000 in
set_option maxRecDepth 20000 in
theorem bfMS_rows {X : zX} (F : zFr X cX10_rows 2 RX10 (some .int)) (i : Nat) (hi : i < 8) (s0 : zM) {κ : Int32 → Option zO} (hκ : ∀ a, κ a = some ((fun a => ((.inl ((fun q => some (zi q)) a), (fun _ => [s0]) a) : zO)) a)) : zZ X [(3, [])] 0 0 2 0 [some (zr 0 9 i), none] [] [s0] (Option.bind (fMS_rows i s0) κ) := by
  unfold fMS_rows
  refine zz_iconst F (v := (0 : Int32)) dX10_rows_0 (by decide) ?_
  refine zz_istore_n F (i := 1) (L' := [some (zr 0 9 i), some (zi (0 : Int32))]) dX10_rows_1 rfl (by decide) rfl rfl ?_
  refine zz_sub (zs_k (zs_k zs_z)) ?_
  refine zz_bind ?_
  refine zz_iter (Lf := fun q1 => [some (zr 0 9 i), some (zi q1)]) (Mf := fun q1 => [s0]) (fun q1 _ e5 e6 => bfMS_rows_l2 F i s0 hi e5 (fun q2 => ?_)  q1) 1000 (0 : Int32)
  rw [e6]
  refine zz_iload_n F (i := 1) dX10_rows_20 rfl rfl ?_
  exact zz_ireturn F dX10_rows_21 rfl (hκ _)
theorem zfMS_rows (i : Nat) (hi : i < 8) (s0 : zM) : ∀ a, fMS_rows i s0 = some a → zMet yX10_rows cX10_rows 2 (some .int) 0 0 [(3, [])] [zr 0 9 i] [s0] ((fun a => ((.inl ((fun q => some (zi q)) a), (fun _ => [s0]) a) : zO)) a) := fun a ha => zMet_of (L0 := [some (zr 0 9 i), none]) (φ := Option.bind (fMS_rows i s0) (fun a => some ((fun a => ((.inl ((fun q => some (zi q)) a), (fun _ => [s0]) a) : zO)) a))) (by decide) (fun _ => Nat.le_of_ble_eq_true rfl) (zl0 1 rfl) (fun X F => bfMS_rows F i hi s0 (fun _ => rfl)) (by rw [ha]; rfl)

theorem dX10_load_0 : decode cX10_load 0 = .ok (.aload_n 1, 1) := by decide +kernel
theorem dX10_load_1 : decode cX10_load 1 = .ok (.iconst 5, 1) := by decide +kernel
theorem dX10_load_2 : decode cX10_load 2 = .ok (.iaload, 1) := by decide +kernel
theorem dX10_load_3 : decode cX10_load 3 = .ok (.istore_n 3, 1) := by decide +kernel
theorem dX10_load_4 : decode cX10_load 4 = .ok (.aload_n 2, 1) := by decide +kernel
theorem dX10_load_5 : decode cX10_load 5 = .ok (.invokestatic 165, 3) := by decide +kernel
theorem dX10_load_8 : decode cX10_load 8 = .ok (.istore 4, 2) := by decide +kernel
theorem dX10_load_10 : decode cX10_load 10 = .ok (.iload 4, 2) := by decide +kernel
theorem dX10_load_12 : decode cX10_load 12 = .ok (.ifCond .le 17, 3) := by decide +kernel
theorem dX10_load_15 : decode cX10_load 15 = .ok (.aload_n 2, 1) := by decide +kernel
theorem dX10_load_16 : decode cX10_load 16 = .ok (.iload 4, 2) := by decide +kernel
theorem dX10_load_18 : decode cX10_load 18 = .ok (.iconst 1, 1) := by decide +kernel
theorem dX10_load_19 : decode cX10_load 19 = .ok (.isub, 1) := by decide +kernel
theorem dX10_load_20 : decode cX10_load 20 = .ok (.iaload, 1) := by decide +kernel
theorem dX10_load_21 : decode cX10_load 21 = .ok (.iconst 1, 1) := by decide +kernel
theorem dX10_load_22 : decode cX10_load 22 = .ok (.isub, 1) := by decide +kernel
theorem dX10_load_23 : decode cX10_load 23 = .ok (.iload_n 3, 1) := by decide +kernel
theorem dX10_load_24 : decode cX10_load 24 = .ok (.if_icmp .ne 5, 3) := by decide +kernel
theorem dX10_load_27 : decode cX10_load 27 = .ok (.iconst 0, 1) := by decide +kernel
theorem dX10_load_28 : decode cX10_load 28 = .ok (.ireturn, 1) := by decide +kernel
theorem dX10_load_29 : decode cX10_load 29 = .ok (.iload 4, 2) := by decide +kernel
theorem dX10_load_31 : decode cX10_load 31 = .ok (.iconst 1, 1) := by decide +kernel
theorem dX10_load_32 : decode cX10_load 32 = .ok (.if_icmp .le 53, 3) := by decide +kernel
theorem dX10_load_35 : decode cX10_load 35 = .ok (.aload_n 2, 1) := by decide +kernel
theorem dX10_load_36 : decode cX10_load 36 = .ok (.iload 4, 2) := by decide +kernel
theorem dX10_load_38 : decode cX10_load 38 = .ok (.iconst 1, 1) := by decide +kernel
theorem dX10_load_39 : decode cX10_load 39 = .ok (.isub, 1) := by decide +kernel
theorem dX10_load_40 : decode cX10_load 40 = .ok (.iaload, 1) := by decide +kernel
theorem dX10_load_41 : decode cX10_load 41 = .ok (.aload_n 2, 1) := by decide +kernel
theorem dX10_load_42 : decode cX10_load 42 = .ok (.iload 4, 2) := by decide +kernel
theorem dX10_load_44 : decode cX10_load 44 = .ok (.iconst 2, 1) := by decide +kernel
theorem dX10_load_45 : decode cX10_load 45 = .ok (.isub, 1) := by decide +kernel
theorem dX10_load_46 : decode cX10_load 46 = .ok (.iaload, 1) := by decide +kernel
theorem dX10_load_47 : decode cX10_load 47 = .ok (.if_icmp .le 7, 3) := by decide +kernel
theorem dX10_load_50 : decode cX10_load 50 = .ok (.iconst 1, 1) := by decide +kernel
theorem dX10_load_51 : decode cX10_load 51 = .ok (.goto 4, 3) := by decide +kernel
theorem dX10_load_54 : decode cX10_load 54 = .ok (.iconst 0, 1) := by decide +kernel
theorem dX10_load_55 : decode cX10_load 55 = .ok (.iload_n 3, 1) := by decide +kernel
theorem dX10_load_56 : decode cX10_load 56 = .ok (.aload_n 2, 1) := by decide +kernel
theorem dX10_load_57 : decode cX10_load 57 = .ok (.iload 4, 2) := by decide +kernel
theorem dX10_load_59 : decode cX10_load 59 = .ok (.iconst 1, 1) := by decide +kernel
theorem dX10_load_60 : decode cX10_load 60 = .ok (.isub, 1) := by decide +kernel
theorem dX10_load_61 : decode cX10_load 61 = .ok (.iaload, 1) := by decide +kernel
theorem dX10_load_62 : decode cX10_load 62 = .ok (.if_icmp .lt 7, 3) := by decide +kernel
theorem dX10_load_65 : decode cX10_load 65 = .ok (.iconst 1, 1) := by decide +kernel
theorem dX10_load_66 : decode cX10_load 66 = .ok (.goto 4, 3) := by decide +kernel
theorem dX10_load_69 : decode cX10_load 69 = .ok (.iconst 0, 1) := by decide +kernel
theorem dX10_load_70 : decode cX10_load 70 = .ok (.if_icmp .ne 15, 3) := by decide +kernel
theorem dX10_load_73 : decode cX10_load 73 = .ok (.aload_n 2, 1) := by decide +kernel
theorem dX10_load_74 : decode cX10_load 74 = .ok (.iload 4, 2) := by decide +kernel
theorem dX10_load_76 : decode cX10_load 76 = .ok (.iconst 1, 1) := by decide +kernel
theorem dX10_load_77 : decode cX10_load 77 = .ok (.isub, 1) := by decide +kernel
theorem dX10_load_78 : decode cX10_load 78 = .ok (.iload_n 3, 1) := by decide +kernel
theorem dX10_load_79 : decode cX10_load 79 = .ok (.iconst 1, 1) := by decide +kernel
theorem dX10_load_80 : decode cX10_load 80 = .ok (.iadd, 1) := by decide +kernel
theorem dX10_load_81 : decode cX10_load 81 = .ok (.iastore, 1) := by decide +kernel
theorem dX10_load_82 : decode cX10_load 82 = .ok (.goto 32, 3) := by decide +kernel
theorem dX10_load_85 : decode cX10_load 85 = .ok (.iload 4, 2) := by decide +kernel
theorem dX10_load_87 : decode cX10_load 87 = .ok (.bipush 30, 2) := by decide +kernel
theorem dX10_load_89 : decode cX10_load 89 = .ok (.if_icmp .ne 15, 3) := by decide +kernel
theorem dX10_load_92 : decode cX10_load 92 = .ok (.aload_n 2, 1) := by decide +kernel
theorem dX10_load_93 : decode cX10_load 93 = .ok (.iconst 1, 1) := by decide +kernel
theorem dX10_load_94 : decode cX10_load 94 = .ok (.aload_n 2, 1) := by decide +kernel
theorem dX10_load_95 : decode cX10_load 95 = .ok (.iconst 0, 1) := by decide +kernel
theorem dX10_load_96 : decode cX10_load 96 = .ok (.bipush 29, 2) := by decide +kernel
theorem dX10_load_98 : decode cX10_load 98 = .ok (.invokestatic 46, 3) := by decide +kernel
theorem dX10_load_101 : decode cX10_load 101 = .ok (.iinc 4 (-1), 3) := by decide +kernel
theorem dX10_load_104 : decode cX10_load 104 = .ok (.aload_n 2, 1) := by decide +kernel
theorem dX10_load_105 : decode cX10_load 105 = .ok (.iload 4, 2) := by decide +kernel
theorem dX10_load_107 : decode cX10_load 107 = .ok (.iinc 4 1, 3) := by decide +kernel
theorem dX10_load_110 : decode cX10_load 110 = .ok (.iload_n 3, 1) := by decide +kernel
theorem dX10_load_111 : decode cX10_load 111 = .ok (.iconst 1, 1) := by decide +kernel
theorem dX10_load_112 : decode cX10_load 112 = .ok (.iadd, 1) := by decide +kernel
theorem dX10_load_113 : decode cX10_load 113 = .ok (.iastore, 1) := by decide +kernel
theorem dX10_load_114 : decode cX10_load 114 = .ok (.iconst 0, 1) := by decide +kernel
theorem dX10_load_115 : decode cX10_load 115 = .ok (.istore 5, 2) := by decide +kernel
theorem dX10_load_117 : decode cX10_load 117 = .ok (.iload 4, 2) := by decide +kernel
theorem dX10_load_119 : decode cX10_load 119 = .ok (.iconst 2, 1) := by decide +kernel
theorem dX10_load_120 : decode cX10_load 120 = .ok (.if_icmp .le 149, 3) := by decide +kernel
theorem dX10_load_123 : decode cX10_load 123 = .ok (.aload_n 2, 1) := by decide +kernel
theorem dX10_load_124 : decode cX10_load 124 = .ok (.iload 4, 2) := by decide +kernel
theorem dX10_load_126 : decode cX10_load 126 = .ok (.iconst 1, 1) := by decide +kernel
theorem dX10_load_127 : decode cX10_load 127 = .ok (.isub, 1) := by decide +kernel
theorem dX10_load_128 : decode cX10_load 128 = .ok (.iaload, 1) := by decide +kernel
theorem dX10_load_129 : decode cX10_load 129 = .ok (.aload_n 2, 1) := by decide +kernel
theorem dX10_load_130 : decode cX10_load 130 = .ok (.iload 4, 2) := by decide +kernel
theorem dX10_load_132 : decode cX10_load 132 = .ok (.iconst 2, 1) := by decide +kernel
theorem dX10_load_133 : decode cX10_load 133 = .ok (.isub, 1) := by decide +kernel
theorem dX10_load_134 : decode cX10_load 134 = .ok (.iaload, 1) := by decide +kernel
theorem dX10_load_135 : decode cX10_load 135 = .ok (.isub, 1) := by decide +kernel
theorem dX10_load_136 : decode cX10_load 136 = .ok (.invokestatic 99, 3) := by decide +kernel
theorem dX10_load_139 : decode cX10_load 139 = .ok (.aload_n 2, 1) := by decide +kernel
theorem dX10_load_140 : decode cX10_load 140 = .ok (.iload 4, 2) := by decide +kernel
theorem dX10_load_142 : decode cX10_load 142 = .ok (.iconst 2, 1) := by decide +kernel
theorem dX10_load_143 : decode cX10_load 143 = .ok (.isub, 1) := by decide +kernel
theorem dX10_load_144 : decode cX10_load 144 = .ok (.iaload, 1) := by decide +kernel
theorem dX10_load_145 : decode cX10_load 145 = .ok (.aload_n 2, 1) := by decide +kernel
theorem dX10_load_146 : decode cX10_load 146 = .ok (.iload 4, 2) := by decide +kernel
theorem dX10_load_148 : decode cX10_load 148 = .ok (.iconst 3, 1) := by decide +kernel
theorem dX10_load_149 : decode cX10_load 149 = .ok (.isub, 1) := by decide +kernel
theorem dX10_load_150 : decode cX10_load 150 = .ok (.iaload, 1) := by decide +kernel
theorem dX10_load_151 : decode cX10_load 151 = .ok (.isub, 1) := by decide +kernel
theorem dX10_load_152 : decode cX10_load 152 = .ok (.invokestatic 99, 3) := by decide +kernel
theorem dX10_load_155 : decode cX10_load 155 = .ok (.if_icmp .lt 114, 3) := by decide +kernel
theorem dX10_load_158 : decode cX10_load 158 = .ok (.aload_n 2, 1) := by decide +kernel
theorem dX10_load_159 : decode cX10_load 159 = .ok (.iload 4, 2) := by decide +kernel
theorem dX10_load_161 : decode cX10_load 161 = .ok (.iconst 2, 1) := by decide +kernel
theorem dX10_load_162 : decode cX10_load 162 = .ok (.isub, 1) := by decide +kernel
theorem dX10_load_163 : decode cX10_load 163 = .ok (.iaload, 1) := by decide +kernel
theorem dX10_load_164 : decode cX10_load 164 = .ok (.aload_n 2, 1) := by decide +kernel
theorem dX10_load_165 : decode cX10_load 165 = .ok (.iload 4, 2) := by decide +kernel
theorem dX10_load_167 : decode cX10_load 167 = .ok (.iconst 3, 1) := by decide +kernel
theorem dX10_load_168 : decode cX10_load 168 = .ok (.isub, 1) := by decide +kernel
theorem dX10_load_169 : decode cX10_load 169 = .ok (.iaload, 1) := by decide +kernel
theorem dX10_load_170 : decode cX10_load 170 = .ok (.isub, 1) := by decide +kernel
theorem dX10_load_171 : decode cX10_load 171 = .ok (.invokestatic 99, 3) := by decide +kernel
theorem dX10_load_174 : decode cX10_load 174 = .ok (.istore 6, 2) := by decide +kernel
theorem dX10_load_176 : decode cX10_load 176 = .ok (.iload 5, 2) := by decide +kernel
theorem dX10_load_178 : decode cX10_load 178 = .ok (.iload 6, 2) := by decide +kernel
theorem dX10_load_180 : decode cX10_load 180 = .ok (.iload 6, 2) := by decide +kernel
theorem dX10_load_182 : decode cX10_load 182 = .ok (.imul, 1) := by decide +kernel
theorem dX10_load_183 : decode cX10_load 183 = .ok (.bipush 10, 2) := by decide +kernel
theorem dX10_load_185 : decode cX10_load 185 = .ok (.idiv, 1) := by decide +kernel
theorem dX10_load_186 : decode cX10_load 186 = .ok (.iadd, 1) := by decide +kernel
theorem dX10_load_187 : decode cX10_load 187 = .ok (.istore 5, 2) := by decide +kernel
theorem dX10_load_189 : decode cX10_load 189 = .ok (.aload_n 0, 1) := by decide +kernel
theorem dX10_load_190 : decode cX10_load 190 = .ok (.dup, 1) := by decide +kernel
theorem dX10_load_191 : decode cX10_load 191 = .ok (.getfield 88, 3) := by decide +kernel
theorem dX10_load_194 : decode cX10_load 194 = .ok (.iconst 1, 1) := by decide +kernel
theorem dX10_load_195 : decode cX10_load 195 = .ok (.iadd, 1) := by decide +kernel
theorem dX10_load_196 : decode cX10_load 196 = .ok (.putfield 88, 3) := by decide +kernel
theorem dX10_load_199 : decode cX10_load 199 = .ok (.iload 4, 2) := by decide +kernel
theorem dX10_load_201 : decode cX10_load 201 = .ok (.iconst 3, 1) := by decide +kernel
theorem dX10_load_202 : decode cX10_load 202 = .ok (.if_icmp .ne 14, 3) := by decide +kernel
theorem dX10_load_205 : decode cX10_load 205 = .ok (.aload_n 2, 1) := by decide +kernel
theorem dX10_load_206 : decode cX10_load 206 = .ok (.iconst 1, 1) := by decide +kernel
theorem dX10_load_207 : decode cX10_load 207 = .ok (.aload_n 2, 1) := by decide +kernel
theorem dX10_load_208 : decode cX10_load 208 = .ok (.iconst 0, 1) := by decide +kernel
theorem dX10_load_209 : decode cX10_load 209 = .ok (.iconst 2, 1) := by decide +kernel
theorem dX10_load_210 : decode cX10_load 210 = .ok (.invokestatic 46, 3) := by decide +kernel
theorem dX10_load_213 : decode cX10_load 213 = .ok (.goto 15, 3) := by decide +kernel
theorem dX10_load_216 : decode cX10_load 216 = .ok (.aload_n 2, 1) := by decide +kernel
theorem dX10_load_217 : decode cX10_load 217 = .ok (.iload 4, 2) := by decide +kernel
theorem dX10_load_219 : decode cX10_load 219 = .ok (.iconst 3, 1) := by decide +kernel
theorem dX10_load_220 : decode cX10_load 220 = .ok (.isub, 1) := by decide +kernel
theorem dX10_load_221 : decode cX10_load 221 = .ok (.aload_n 2, 1) := by decide +kernel
theorem dX10_load_222 : decode cX10_load 222 = .ok (.iload 4, 2) := by decide +kernel
theorem dX10_load_224 : decode cX10_load 224 = .ok (.iconst 1, 1) := by decide +kernel
theorem dX10_load_225 : decode cX10_load 225 = .ok (.isub, 1) := by decide +kernel
theorem dX10_load_226 : decode cX10_load 226 = .ok (.iaload, 1) := by decide +kernel
theorem dX10_load_227 : decode cX10_load 227 = .ok (.iastore, 1) := by decide +kernel
theorem dX10_load_228 : decode cX10_load 228 = .ok (.iload 4, 2) := by decide +kernel
theorem dX10_load_230 : decode cX10_load 230 = .ok (.iload 4, 2) := by decide +kernel
theorem dX10_load_232 : decode cX10_load 232 = .ok (.iconst 3, 1) := by decide +kernel
theorem dX10_load_233 : decode cX10_load 233 = .ok (.if_icmp .ne 7, 3) := by decide +kernel
theorem dX10_load_236 : decode cX10_load 236 = .ok (.iconst 1, 1) := by decide +kernel
theorem dX10_load_237 : decode cX10_load 237 = .ok (.goto 4, 3) := by decide +kernel
theorem dX10_load_240 : decode cX10_load 240 = .ok (.iconst 2, 1) := by decide +kernel
theorem dX10_load_241 : decode cX10_load 241 = .ok (.isub, 1) := by decide +kernel
theorem dX10_load_242 : decode cX10_load 242 = .ok (.istore 4, 2) := by decide +kernel
theorem dX10_load_244 : decode cX10_load 244 = .ok (.iload 4, 2) := by decide +kernel
theorem dX10_load_246 : decode cX10_load 246 = .ok (.istore 7, 2) := by decide +kernel
theorem dX10_load_248 : decode cX10_load 248 = .ok (.iload 7, 2) := by decide +kernel
theorem dX10_load_250 : decode cX10_load 250 = .ok (.bipush 30, 2) := by decide +kernel
theorem dX10_load_252 : decode cX10_load 252 = .ok (.if_icmp .ge 14, 3) := by decide +kernel
theorem dX10_load_255 : decode cX10_load 255 = .ok (.aload_n 2, 1) := by decide +kernel
theorem dX10_load_256 : decode cX10_load 256 = .ok (.iload 7, 2) := by decide +kernel
theorem dX10_load_258 : decode cX10_load 258 = .ok (.iconst 0, 1) := by decide +kernel
theorem dX10_load_259 : decode cX10_load 259 = .ok (.iastore, 1) := by decide +kernel
theorem dX10_load_260 : decode cX10_load 260 = .ok (.iinc 7 1, 3) := by decide +kernel
theorem dX10_load_263 : decode cX10_load 263 = .ok (.goto (-15), 3) := by decide +kernel
theorem dX10_load_266 : decode cX10_load 266 = .ok (.goto (-149), 3) := by decide +kernel
theorem dX10_load_269 : decode cX10_load 269 = .ok (.aload_n 1, 1) := by decide +kernel
theorem dX10_load_270 : decode cX10_load 270 = .ok (.bipush 7, 2) := by decide +kernel
theorem dX10_load_272 : decode cX10_load 272 = .ok (.dup2, 1) := by decide +kernel
theorem dX10_load_273 : decode cX10_load 273 = .ok (.iaload, 1) := by decide +kernel
theorem dX10_load_274 : decode cX10_load 274 = .ok (.iload 5, 2) := by decide +kernel
theorem dX10_load_276 : decode cX10_load 276 = .ok (.iadd, 1) := by decide +kernel
theorem dX10_load_277 : decode cX10_load 277 = .ok (.iastore, 1) := by decide +kernel
theorem dX10_load_278 : decode cX10_load 278 = .ok (.iload 5, 2) := by decide +kernel
theorem dX10_load_280 : decode cX10_load 280 = .ok (.ireturn, 1) := by decide +kernel
theorem wcRX10_165 : Cond.methodLink RX10 165 yX10_rows ∈ zTg ∧ Cond.static yX10_rows ∈ zTg ∧ Cond.initialized yX10_rows.cls ∈ zTg ∧ Cond.code yX10_rows cX10_rows 2 (some .int) ∈ zTg := ⟨zm_f 1174 (by decide +kernel) rfl, zm_f 1175 (by decide +kernel) rfl, zm_f 47 (by decide +kernel) rfl, zm_f 1176 (by decide +kernel) rfl⟩
theorem wy_yX10_rows : yX10_rows.cls ≠ "java/lang/invoke/MethodHandle" ∧ yX10_rows.cls ≠ "java/lang/invoke/VarHandle" ∧ (parseMethodDescriptor yX10_rows.desc).map (fun d => d.parameters.length) = some 1 := by decide +kernel
theorem wmRX10_46 : Cond.methodLink RX10 46 arraycopyName ∈ zTg := zm_f 1177 (by decide +kernel) rfl
theorem wfRX10_88 : zFl RX10 88 9 22 := ⟨_, rfl, by decide, zm_f 1011 (by decide +kernel) rfl⟩
theorem wpRX10_88 : zFw RX10 88 9 22 .int := ⟨_, rfl, by decide, zm_f 1011 (by decide +kernel) rfl, rfl, by decide +kernel⟩
def fMS_load_l248 (j : Nat) (q68 : Int32 × zM) : Option ((Int32 × zM) ⊕ ((zM))) :=
  if (30 : Int32) ≤ q68.1 then
  some (.inr q68.2)
else
  zix q68.1 30 fun j70 =>
    zlet (zu q68.2 9 j j70 (0 : Int32)) fun s0_71 =>
    zlet (q68.1 + 1) fun v72 =>
    some (.inl (v72, s0_71))
def fMS_load_l117 (j : Nat) (q44 : Int32 × Int32 × zM) : Option ((Int32 × Int32 × zM) ⊕ ((Int32 × zM))) :=
  if q44.1 ≤ (2 : Int32) then
  some (.inr (q44.2.1, q44.2.2))
else
  zix (q44.1 - (1 : Int32)) 30 fun j46 =>
    zix (q44.1 - (2 : Int32)) 30 fun j47 =>
    zix (q44.1 - (2 : Int32)) 30 fun j48 =>
    zix (q44.1 - (3 : Int32)) 30 fun j49 =>
    if (zabs ((q44.2.2 9 j j46) - (q44.2.2 9 j j47))) < (zabs ((q44.2.2 9 j j48) - (q44.2.2 9 j j49))) then
    some (.inr (q44.2.1, q44.2.2))
  else
    zix (q44.1 - (2 : Int32)) 30 fun j50 =>
      zix (q44.1 - (3 : Int32)) 30 fun j51 =>
      zlet ((zabs ((q44.2.2 9 j j50) - (q44.2.2 9 j j51)))) fun v52 =>
      zlet ((q44.2.1 + ((v52 * v52) / (10 : Int32)))) fun v53 =>
      zlet (zu q44.2.2 0 0 22 ((q44.2.2 0 0 22) + (1 : Int32))) fun s0_54 =>
      Option.bind (if q44.1 = (3 : Int32) then
      zlet (zur s0_54 9 j (va_cpy (s0_54 9 j) (s0_54 9 j) 1 0 2)) fun s0_62 =>
        some s0_62
    else
      zix (q44.1 - (1 : Int32)) 30 fun j59 =>
        zix (q44.1 - (3 : Int32)) 30 fun j60 =>
        zlet (zu s0_54 9 j j60 (s0_54 9 j j59)) fun s0_61 =>
        some s0_61) fun q55 =>
      Option.bind (if q44.1 = (3 : Int32) then
      some (1 : Int32)
    else
      some (2 : Int32)) fun q63 =>
      zlet ((q44.1 - q63)) fun v67 =>
      Option.bind (ziter (fMS_load_l248 j) 1000 (v67, q55)) fun q69 =>
      some (.inl (v67, v53, q69))
def fMS_load (i : Nat) (j : Nat) (s0 : zM) : Option (Int32 × zM) :=
  zix (5 : Int32) 23 fun j1 =>
  zlet ((s0 8 i j1)) fun v2 =>
  Option.bind (fMS_rows j s0) fun q3 =>
  Option.bind (if q3 ≤ 0 then
  some (.inl ())
else
  zix (q3 - (1 : Int32)) 30 fun j8 =>
    if ((s0 9 j j8) - (1 : Int32)) = v2 then
    some (.inr ((0 : Int32), s0))
  else
    some (.inl ())) (Sum.elim (fun (_ : Unit) =>
  Option.bind (if q3 ≤ (1 : Int32) then
  Option.bind (if q3 = (30 : Int32) then
    zlet (zur s0 9 j (va_cpy (s0 9 j) (s0 9 j) 1 0 29)) fun s0_17 =>
      zlet (q3 + (-1)) fun v18 =>
      some (v18, s0_17)
  else
    some (q3, s0)) fun q13 =>
    zlet (q13.1 + 1) fun v19 =>
    zix q13.1 30 fun j20 =>
    zlet (zu q13.2 9 j j20 (v2 + (1 : Int32))) fun s0_21 =>
    some (v19, s0_21)
else
  zix (q3 - (1 : Int32)) 30 fun j22 =>
    zix (q3 - (2 : Int32)) 30 fun j23 =>
    Option.bind (if (s0 9 j j22) ≤ (s0 9 j j23) then
    some (0 : Int32)
  else
    some (1 : Int32)) fun q24 =>
    zix (q3 - (1 : Int32)) 30 fun j28 =>
    Option.bind (if v2 < (s0 9 j j28) then
    some (0 : Int32)
  else
    some (1 : Int32)) fun q29 =>
    if q24 = q29 then
    zix (q3 - (1 : Int32)) 30 fun j42 =>
      zlet (zu s0 9 j j42 (v2 + (1 : Int32))) fun s0_43 =>
      some (q3, s0_43)
  else
    Option.bind (if q3 = (30 : Int32) then
      zlet (zur s0 9 j (va_cpy (s0 9 j) (s0 9 j) 1 0 29)) fun s0_37 =>
        zlet (q3 + (-1)) fun v38 =>
        some (v38, s0_37)
    else
      some (q3, s0)) fun q33 =>
      zlet (q33.1 + 1) fun v39 =>
      zix q33.1 30 fun j40 =>
      zlet (zu q33.2 9 j j40 (v2 + (1 : Int32))) fun s0_41 =>
      some (v39, s0_41)) fun q9 =>
  Option.bind (ziter (fMS_load_l117 j) 1000 (q9.1, (0 : Int32), q9.2)) fun q45 =>
  zix (7 : Int32) 23 fun j75 =>
  zix (7 : Int32) 23 fun j76 =>
  zlet (zu q45.2 8 i j76 ((q45.2 8 i j75) + q45.1)) fun s0_77 =>
  some (q45.1, s0_77)) (fun r => some r))
set_option maxHeartbeats 4000000 in
set_option maxRecDepth 20000 in
theorem bfMS_load_l248 {X : zX} (F : zFr X cX10_load 8 RX10 (some .int)) (j : Nat) (i : Nat) (v53 : Int32) (v67 : Int32) (hj : j < 8) {ψ : (Int32 × zM) ⊕ ((zM)) → Option zO} (h1 : ∀ q68 : Int32 × zM, zZ X [(3, [])] 1 60 8 248 [some (zr 0 0 0), some (zr 0 8 i), some (zr 0 9 j), none, some (zi v67), some (zi v53), none, some (zi q68.1)] [] [q68.2] (ψ (.inl q68))) (h2 : ∀ q69 : zM, zZ X [(3, [])] 1 60 8 266 [some (zr 0 0 0), some (zr 0 8 i), some (zr 0 9 j), none, some (zi v67), some (zi v53), none, none] [] [q69] (ψ (.inr q69))) (q68 : Int32 × zM) : zZ X [(3, [])] 1 60 8 248 [some (zr 0 0 0), some (zr 0 8 i), some (zr 0 9 j), none, some (zi v67), some (zi v53), none, some (zi q68.1)] [] [q68.2] (Option.bind (fMS_load_l248 j q68) ψ) := by
  unfold fMS_load_l248
  refine zz_iload F (i := 7) dX10_load_248 rfl ?_
  refine zz_bipush F (v := (30 : Int32)) dX10_load_250 (by decide) ?_
  refine zz_icmp_ge F (tgt := 266) dX10_load_252 (by decide) (fun h => zz_t h ?_) (fun h => zz_f h ?_)
  · exact zz_sub (zs_k (zs_k (zs_k (zs_k (zs_k (zs_k (zs_k (zs_n zs_z)))))))) (h2 q68.2)
  · refine zz_aload_n F (i := 2) dX10_load_255 rfl rfl ?_
    refine zz_iload F (i := 7) dX10_load_256 rfl ?_
    refine zz_iconst F (v := (0 : Int32)) dX10_load_258 (by decide) ?_
    refine zz_ix fun j70 hj70 hinj70 hej70 => zz_ias F (Ms' := [(zu q68.2 9 j j70 (0 : Int32))]) dX10_load_259 rfl (⟨zlb rfl, zlb rfl, hj⟩) rfl hinj70 hej70 rfl ?_
    refine zz_letm (Mf := fun s0_71 => [s0_71]) fun s0_71 => ?_
    refine zz_iinc F (i := 7) (v := q68.1 + 1) (L' := [some (zr 0 0 0), some (zr 0 8 i), some (zr 0 9 j), none, some (zi v67), some (zi v53), none, some (zi (q68.1 + 1))]) dX10_load_260 rfl (by first | rfl | decide) (by decide) rfl rfl ?_
    refine zz_letl (Lf := fun v72 => [some (zr 0 0 0), some (zr 0 8 i), some (zr 0 9 j), none, some (zi v67), some (zi v53), none, some (zi v72)]) fun v72 => ?_
    refine zz_goto F (tgt := 248) dX10_load_263 (by decide) ?_
    exact zz_sub (zs_k (zs_k (zs_k (zs_k (zs_k (zs_k (zs_k (zs_k zs_z)))))))) (h1 (v72, s0_71))
set_option maxHeartbeats 4000000 in
set_option maxRecDepth 20000 in
theorem bfMS_load_l117 {X : zX} (F : zFr X cX10_load 8 RX10 (some .int)) (j : Nat) (i : Nat) (hj : j < 8) {ψ : (Int32 × Int32 × zM) ⊕ ((Int32 × zM)) → Option zO} (h1 : ∀ q44 : Int32 × Int32 × zM, zZ X [(3, [])] 1 60 8 117 [some (zr 0 0 0), some (zr 0 8 i), some (zr 0 9 j), none, some (zi q44.1), some (zi q44.2.1), none, none] [] [q44.2.2] (ψ (.inl q44))) (h2 : ∀ q45 : Int32 × zM, zZ X [(3, [])] 1 60 8 269 [none, some (zr 0 8 i), none, none, none, some (zi q45.1), none, none] [] [q45.2] (ψ (.inr q45))) (q44 : Int32 × Int32 × zM) : zZ X [(3, [])] 1 60 8 117 [some (zr 0 0 0), some (zr 0 8 i), some (zr 0 9 j), none, some (zi q44.1), some (zi q44.2.1), none, none] [] [q44.2.2] (Option.bind (fMS_load_l117 j q44) ψ) := by
  unfold fMS_load_l117
  refine zz_iload F (i := 4) dX10_load_117 rfl ?_
  refine zz_iconst F (v := (2 : Int32)) dX10_load_119 (by decide) ?_
  refine zz_icmp_le F (tgt := 269) dX10_load_120 (by decide) (fun h => zz_t h ?_) (fun h => zz_f h ?_)
  · exact zz_sub (zs_n (zs_k (zs_n (zs_k (zs_n (zs_k (zs_k (zs_k zs_z)))))))) (h2 (q44.2.1, q44.2.2))
  · refine zz_aload_n F (i := 2) dX10_load_123 rfl rfl ?_
    refine zz_iload F (i := 4) dX10_load_124 rfl ?_
    refine zz_iconst F (v := (1 : Int32)) dX10_load_126 (by decide) ?_
    refine zz_isub F dX10_load_127 ?_
    refine zz_ix fun j46 hj46 hinj46 hej46 => zz_ial F dX10_load_128 rfl (⟨zlb rfl, zlb rfl, hj⟩) rfl hinj46 hej46 ?_
    refine zz_aload_n F (i := 2) dX10_load_129 rfl rfl ?_
    refine zz_iload F (i := 4) dX10_load_130 rfl ?_
    refine zz_iconst F (v := (2 : Int32)) dX10_load_132 (by decide) ?_
    refine zz_isub F dX10_load_133 ?_
    refine zz_ix fun j47 hj47 hinj47 hej47 => zz_ial F dX10_load_134 rfl (⟨zlb rfl, zlb rfl, hj⟩) rfl hinj47 hej47 ?_
    refine zz_isub F dX10_load_135 ?_
    refine zz_abs F dX10_load_136 wmRX10_99 wMath_abs (Nat.le_of_ble_eq_true rfl) (Nat.le_of_ble_eq_true rfl) ?_
    refine zz_aload_n F (i := 2) dX10_load_139 rfl rfl ?_
    refine zz_iload F (i := 4) dX10_load_140 rfl ?_
    refine zz_iconst F (v := (2 : Int32)) dX10_load_142 (by decide) ?_
    refine zz_isub F dX10_load_143 ?_
    refine zz_ix fun j48 hj48 hinj48 hej48 => zz_ial F dX10_load_144 rfl (⟨zlb rfl, zlb rfl, hj⟩) rfl hinj48 hej48 ?_
    refine zz_aload_n F (i := 2) dX10_load_145 rfl rfl ?_
    refine zz_iload F (i := 4) dX10_load_146 rfl ?_
    refine zz_iconst F (v := (3 : Int32)) dX10_load_148 (by decide) ?_
    refine zz_isub F dX10_load_149 ?_
    refine zz_ix fun j49 hj49 hinj49 hej49 => zz_ial F dX10_load_150 rfl (⟨zlb rfl, zlb rfl, hj⟩) rfl hinj49 hej49 ?_
    refine zz_isub F dX10_load_151 ?_
    refine zz_abs F dX10_load_152 wmRX10_99 wMath_abs (Nat.le_of_ble_eq_true rfl) (Nat.le_of_ble_eq_true rfl) ?_
    refine zz_icmp_lt F (tgt := 269) dX10_load_155 (by decide) (fun h => zz_t h ?_) (fun h => zz_f h ?_)
    · exact zz_sub (zs_n (zs_k (zs_n (zs_k (zs_n (zs_k (zs_k (zs_k zs_z)))))))) (h2 (q44.2.1, q44.2.2))
    · refine zz_aload_n F (i := 2) dX10_load_158 rfl rfl ?_
      refine zz_iload F (i := 4) dX10_load_159 rfl ?_
      refine zz_iconst F (v := (2 : Int32)) dX10_load_161 (by decide) ?_
      refine zz_isub F dX10_load_162 ?_
      refine zz_ix fun j50 hj50 hinj50 hej50 => zz_ial F dX10_load_163 rfl (⟨zlb rfl, zlb rfl, hj⟩) rfl hinj50 hej50 ?_
      refine zz_aload_n F (i := 2) dX10_load_164 rfl rfl ?_
      refine zz_iload F (i := 4) dX10_load_165 rfl ?_
      refine zz_iconst F (v := (3 : Int32)) dX10_load_167 (by decide) ?_
      refine zz_isub F dX10_load_168 ?_
      refine zz_ix fun j51 hj51 hinj51 hej51 => zz_ial F dX10_load_169 rfl (⟨zlb rfl, zlb rfl, hj⟩) rfl hinj51 hej51 ?_
      refine zz_isub F dX10_load_170 ?_
      refine zz_abs F dX10_load_171 wmRX10_99 wMath_abs (Nat.le_of_ble_eq_true rfl) (Nat.le_of_ble_eq_true rfl) ?_
      refine zz_istore F (i := 6) (L' := [some (zr 0 0 0), some (zr 0 8 i), some (zr 0 9 j), none, some (zi q44.1), some (zi q44.2.1), some (zi (zabs ((q44.2.2 9 j j50) - (q44.2.2 9 j j51)))), none]) dX10_load_174 (by decide) rfl rfl ?_
      refine zz_letl (Lf := fun v52 => [some (zr 0 0 0), some (zr 0 8 i), some (zr 0 9 j), none, some (zi q44.1), some (zi q44.2.1), some (zi v52), none]) fun v52 => ?_
      refine zz_iload F (i := 5) dX10_load_176 rfl ?_
      refine zz_iload F (i := 6) dX10_load_178 rfl ?_
      refine zz_iload F (i := 6) dX10_load_180 rfl ?_
      refine zz_imul F dX10_load_182 ?_
      refine zz_bipush F (v := (10 : Int32)) dX10_load_183 (by decide) ?_
      refine zz_idiv F dX10_load_185 (by decide) ?_
      refine zz_iadd F dX10_load_186 ?_
      refine zz_istore F (i := 5) (L' := [some (zr 0 0 0), some (zr 0 8 i), some (zr 0 9 j), none, some (zi q44.1), some (zi (q44.2.1 + ((v52 * v52) / (10 : Int32)))), some (zi v52), none]) dX10_load_187 (by decide) rfl rfl ?_
      refine zz_letl (Lf := fun v53 => [some (zr 0 0 0), some (zr 0 8 i), some (zr 0 9 j), none, some (zi q44.1), some (zi v53), some (zi v52), none]) fun v53 => ?_
      refine zz_aload_n F (i := 0) dX10_load_189 rfl rfl ?_
      refine zz_dup F dX10_load_190 rfl ?_
      refine zz_getf F dX10_load_191 wfRX10_88 zCl_9 rfl (⟨zlb rfl, zlb rfl, zlb rfl⟩) rfl (by decide) rfl rfl ?_
      refine zz_iconst F (v := (1 : Int32)) dX10_load_194 (by decide) ?_
      refine zz_iadd F dX10_load_195 ?_
      refine zz_put F (Ms' := [(zu q44.2.2 0 0 22 ((q44.2.2 0 0 22) + (1 : Int32)))]) dX10_load_196 wpRX10_88 zCl_9 rfl (⟨zlb rfl, zlb rfl, zlb rfl⟩) rfl (by decide) rfl rfl rfl ?_
      refine zz_letm (Mf := fun s0_54 => [s0_54]) fun s0_54 => ?_
      refine zz_iload F (i := 4) dX10_load_199 rfl ?_
      refine zz_iconst F (v := (3 : Int32)) dX10_load_201 (by decide) ?_
      refine zz_join (pj := 228) (Lj := fun q55 => [some (zr 0 0 0), some (zr 0 8 i), some (zr 0 9 j), none, some (zi q44.1), some (zi v53), none, none]) (Sj := fun q55 => []) (Mj := fun q55 => [q55]) (fun q55 => ?_) (fun κ57 hj56 => ?_)
      · refine zz_iload F (i := 4) dX10_load_228 rfl ?_
        refine zz_iload F (i := 4) dX10_load_230 rfl ?_
        refine zz_iconst F (v := (3 : Int32)) dX10_load_232 (by decide) ?_
        refine zz_join (pj := 241) (Lj := fun q63 => [some (zr 0 0 0), some (zr 0 8 i), some (zr 0 9 j), none, none, some (zi v53), none, none]) (Sj := fun q63 => [zi q63, zi q44.1]) (Mj := fun q63 => [q55]) (fun q63 => ?_) (fun κ65 hj64 => ?_)
        · refine zz_isub F dX10_load_241 ?_
          refine zz_istore F (i := 4) (L' := [some (zr 0 0 0), some (zr 0 8 i), some (zr 0 9 j), none, some (zi (q44.1 - q63)), some (zi v53), none, none]) dX10_load_242 (by decide) rfl rfl ?_
          refine zz_letl (Lf := fun v67 => [some (zr 0 0 0), some (zr 0 8 i), some (zr 0 9 j), none, some (zi v67), some (zi v53), none, none]) fun v67 => ?_
          refine zz_iload F (i := 4) dX10_load_244 rfl ?_
          refine zz_istore F (i := 7) (L' := [some (zr 0 0 0), some (zr 0 8 i), some (zr 0 9 j), none, some (zi v67), some (zi v53), none, some (zi v67)]) dX10_load_246 (by decide) rfl rfl ?_
          refine zz_sub (zs_k (zs_k (zs_k (zs_k (zs_k (zs_k (zs_k (zs_k zs_z)))))))) ?_
          refine zz_bind ?_
          refine zz_iter (Lf := fun q68 => [some (zr 0 0 0), some (zr 0 8 i), some (zr 0 9 j), none, some (zi v67), some (zi v53), none, some (zi q68.1)]) (Mf := fun q68 => [q68.2]) (fun q68 _ e73 e74 => bfMS_load_l248 F j i v53 v67 hj e73 (fun q69 => ?_)  q68) 1000 (v67, q55)
          rw [e74]
          refine zz_goto F (tgt := 117) dX10_load_266 (by decide) ?_
          exact zz_sub (zs_k (zs_k (zs_k (zs_k (zs_k (zs_k (zs_k (zs_k zs_z)))))))) (h1 (v67, v53, q69))
        · refine zz_icmp_ne F (tgt := 240) dX10_load_233 (by decide) (fun h => zz_f h ?_) (fun h => zz_t h ?_)
          · refine zz_iconst F (v := (2 : Int32)) dX10_load_240 (by decide) ?_
            exact zz_sub (zs_k (zs_k (zs_k (zs_k (zs_n (zs_k (zs_k (zs_k zs_z)))))))) (hj64 (2 : Int32))
          · refine zz_iconst F (v := (1 : Int32)) dX10_load_236 (by decide) ?_
            refine zz_goto F (tgt := 241) dX10_load_237 (by decide) ?_
            exact zz_sub (zs_k (zs_k (zs_k (zs_k (zs_n (zs_k (zs_k (zs_k zs_z)))))))) (hj64 (1 : Int32))
      · refine zz_icmp_ne F (tgt := 216) dX10_load_202 (by decide) (fun h => zz_f h ?_) (fun h => zz_t h ?_)
        · refine zz_aload_n F (i := 2) dX10_load_216 rfl rfl ?_
          refine zz_iload F (i := 4) dX10_load_217 rfl ?_
          refine zz_iconst F (v := (3 : Int32)) dX10_load_219 (by decide) ?_
          refine zz_isub F dX10_load_220 ?_
          refine zz_aload_n F (i := 2) dX10_load_221 rfl rfl ?_
          refine zz_iload F (i := 4) dX10_load_222 rfl ?_
          refine zz_iconst F (v := (1 : Int32)) dX10_load_224 (by decide) ?_
          refine zz_isub F dX10_load_225 ?_
          refine zz_ix fun j59 hj59 hinj59 hej59 => zz_ial F dX10_load_226 rfl (⟨zlb rfl, zlb rfl, hj⟩) rfl hinj59 hej59 ?_
          refine zz_ix fun j60 hj60 hinj60 hej60 => zz_ias F (Ms' := [(zu s0_54 9 j j60 (s0_54 9 j j59))]) dX10_load_227 rfl (⟨zlb rfl, zlb rfl, hj⟩) rfl hinj60 hej60 rfl ?_
          refine zz_letm (Mf := fun s0_61 => [s0_61]) fun s0_61 => ?_
          exact zz_sub (zs_k (zs_k (zs_k (zs_k (zs_k (zs_k (zs_n (zs_k zs_z)))))))) (hj56 s0_61)
        · refine zz_aload_n F (i := 2) dX10_load_205 rfl rfl ?_
          refine zz_iconst F (v := (1 : Int32)) dX10_load_206 (by decide) ?_
          refine zz_aload_n F (i := 2) dX10_load_207 rfl rfl ?_
          refine zz_iconst F (v := (0 : Int32)) dX10_load_208 (by decide) ?_
          refine zz_iconst F (v := (2 : Int32)) dX10_load_209 (by decide) ?_
          refine zz_copy F (Ms' := [(zur s0_54 9 j (va_cpy (s0_54 9 j) (s0_54 9 j) 1 0 2))]) dX10_load_210 wmRX10_46 wCopy rfl (⟨zlb rfl, zlb rfl, hj⟩) rfl rfl (⟨zlb rfl, zlb rfl, hj⟩) rfl (by decide) (by decide) (by decide) (Nat.le_of_ble_eq_true rfl) (Nat.le_of_ble_eq_true rfl) (Nat.le_of_ble_eq_true rfl) (Nat.le_of_ble_eq_true rfl) rfl ?_
          refine zz_letm (Mf := fun s0_62 => [s0_62]) fun s0_62 => ?_
          refine zz_goto F (tgt := 228) dX10_load_213 (by decide) ?_
          exact zz_sub (zs_k (zs_k (zs_k (zs_k (zs_k (zs_k (zs_n (zs_k zs_z)))))))) (hj56 s0_62)
set_option maxHeartbeats 4000000 in
set_option maxRecDepth 20000 in
theorem bfMS_load {X : zX} (F : zFr X cX10_load 8 RX10 (some .int)) (i : Nat) (j : Nat) (hi : i < 8) (hj : j < 8) (s0 : zM) {κ : Int32 × zM → Option zO} (hκ : ∀ a, κ a = some ((fun a => ((.inl ((fun q => some (zi q.1)) a), (fun q => [q.2]) a) : zO)) a)) : zZ X [(3, [])] 1 60 8 0 [some (zr 0 0 0), some (zr 0 8 i), some (zr 0 9 j), none, none, none, none, none] [] [s0] (Option.bind (fMS_load i j s0) κ) := by
  unfold fMS_load
  refine zz_aload_n F (i := 1) dX10_load_0 rfl rfl ?_
  refine zz_iconst F (v := (5 : Int32)) dX10_load_1 (by decide) ?_
  refine zz_ix fun j1 hj1 hinj1 hej1 => zz_ial F dX10_load_2 rfl (⟨zlb rfl, zlb rfl, hi⟩) rfl hinj1 hej1 ?_
  refine zz_istore_n F (i := 3) (L' := [some (zr 0 0 0), some (zr 0 8 i), some (zr 0 9 j), some (zi (s0 8 i j1)), none, none, none, none]) dX10_load_3 rfl (by decide) rfl rfl ?_
  refine zz_letl (Lf := fun v2 => [some (zr 0 0 0), some (zr 0 8 i), some (zr 0 9 j), some (zi v2), none, none, none, none]) fun v2 => ?_
  refine zz_aload_n F (i := 2) dX10_load_4 rfl rfl ?_
  refine zz_bind ?_
  refine zz_callSr F (ρ := [0]) (so := fun q3 => [zi q3]) (Mo := fun q3 => [s0]) (zfMS_rows j hj s0) dX10_load_5 wcRX10_165 wy_yX10_rows rfl ⟨rel18, rfl, rfl, Nat.le_of_ble_eq_true rfl, Nat.le_of_ble_eq_true rfl, Nat.le_of_ble_eq_true rfl⟩ rfl (fun _ => rfl) (fun _ => rfl) fun q3 => ?_
  refine zz_istore F (i := 4) (L' := [some (zr 0 0 0), some (zr 0 8 i), some (zr 0 9 j), some (zi v2), some (zi q3), none, none, none]) dX10_load_8 (by decide) rfl rfl ?_
  refine zz_iload F (i := 4) dX10_load_10 rfl ?_
  refine zz_joinE (pj := 29) (Lj := fun _ => [some (zr 0 0 0), some (zr 0 8 i), some (zr 0 9 j), some (zi v2), some (zi q3), none, none, none]) (Sj := fun _ => []) (Mj := fun _ => [s0]) (fun _ => ?_) (fun κ6 hj5 hr7 => ?_)
  · refine zz_iload F (i := 4) dX10_load_29 rfl ?_
    refine zz_iconst F (v := (1 : Int32)) dX10_load_31 (by decide) ?_
    refine zz_join (pj := 114) (Lj := fun q9 => [some (zr 0 0 0), some (zr 0 8 i), some (zr 0 9 j), none, some (zi q9.1), none, none, none]) (Sj := fun q9 => []) (Mj := fun q9 => [q9.2]) (fun q9 => ?_) (fun κ11 hj10 => ?_)
    · refine zz_iconst F (v := (0 : Int32)) dX10_load_114 (by decide) ?_
      refine zz_istore F (i := 5) (L' := [some (zr 0 0 0), some (zr 0 8 i), some (zr 0 9 j), none, some (zi q9.1), some (zi (0 : Int32)), none, none]) dX10_load_115 (by decide) rfl rfl ?_
      refine zz_sub (zs_k (zs_k (zs_k (zs_k (zs_k (zs_k (zs_k (zs_k zs_z)))))))) ?_
      refine zz_bind ?_
      refine zz_iter (Lf := fun q44 => [some (zr 0 0 0), some (zr 0 8 i), some (zr 0 9 j), none, some (zi q44.1), some (zi q44.2.1), none, none]) (Mf := fun q44 => [q44.2.2]) (fun q44 _ e78 e79 => bfMS_load_l117 F j i hj e78 (fun q45 => ?_)  q44) 1000 (q9.1, (0 : Int32), q9.2)
      rw [e79]
      refine zz_aload_n F (i := 1) dX10_load_269 rfl rfl ?_
      refine zz_bipush F (v := (7 : Int32)) dX10_load_270 (by decide) ?_
      refine zz_dup2 F dX10_load_272 rfl rfl ?_
      refine zz_ix fun j75 hj75 hinj75 hej75 => zz_ial F dX10_load_273 rfl (⟨zlb rfl, zlb rfl, hi⟩) rfl hinj75 hej75 ?_
      refine zz_iload F (i := 5) dX10_load_274 rfl ?_
      refine zz_iadd F dX10_load_276 ?_
      refine zz_ix fun j76 hj76 hinj76 hej76 => zz_ias F (Ms' := [(zu q45.2 8 i j76 ((q45.2 8 i j75) + q45.1))]) dX10_load_277 rfl (⟨zlb rfl, zlb rfl, hi⟩) rfl hinj76 hej76 rfl ?_
      refine zz_letm (Mf := fun s0_77 => [s0_77]) fun s0_77 => ?_
      refine zz_iload F (i := 5) dX10_load_278 rfl ?_
      exact zz_ireturn F dX10_load_280 rfl (hκ _)
    · refine zz_icmp_le F (tgt := 85) dX10_load_32 (by decide) (fun h => zz_t h ?_) (fun h => zz_f h ?_)
      · refine zz_iload F (i := 4) dX10_load_85 rfl ?_
        refine zz_bipush F (v := (30 : Int32)) dX10_load_87 (by decide) ?_
        refine zz_join (pj := 104) (Lj := fun q13 => [some (zr 0 0 0), some (zr 0 8 i), some (zr 0 9 j), some (zi v2), some (zi q13.1), none, none, none]) (Sj := fun q13 => []) (Mj := fun q13 => [q13.2]) (fun q13 => ?_) (fun κ15 hj14 => ?_)
        · refine zz_aload_n F (i := 2) dX10_load_104 rfl rfl ?_
          refine zz_iload F (i := 4) dX10_load_105 rfl ?_
          refine zz_iinc F (i := 4) (v := q13.1 + 1) (L' := [some (zr 0 0 0), some (zr 0 8 i), some (zr 0 9 j), some (zi v2), some (zi (q13.1 + 1)), none, none, none]) dX10_load_107 rfl (by first | rfl | decide) (by decide) rfl rfl ?_
          refine zz_letl (Lf := fun v19 => [some (zr 0 0 0), some (zr 0 8 i), some (zr 0 9 j), some (zi v2), some (zi v19), none, none, none]) fun v19 => ?_
          refine zz_iload_n F (i := 3) dX10_load_110 rfl rfl ?_
          refine zz_iconst F (v := (1 : Int32)) dX10_load_111 (by decide) ?_
          refine zz_iadd F dX10_load_112 ?_
          refine zz_ix fun j20 hj20 hinj20 hej20 => zz_ias F (Ms' := [(zu q13.2 9 j j20 (v2 + (1 : Int32)))]) dX10_load_113 rfl (⟨zlb rfl, zlb rfl, hj⟩) rfl hinj20 hej20 rfl ?_
          refine zz_letm (Mf := fun s0_21 => [s0_21]) fun s0_21 => ?_
          exact zz_sub (zs_k (zs_k (zs_k (zs_n (zs_k (zs_k (zs_k (zs_k zs_z)))))))) (hj10 (v19, s0_21))
        · refine zz_icmp_ne F (tgt := 104) dX10_load_89 (by decide) (fun h => zz_f h ?_) (fun h => zz_t h ?_)
          · exact zz_sub (zs_k (zs_k (zs_k (zs_k (zs_k (zs_k (zs_k (zs_k zs_z)))))))) (hj14 (q3, s0))
          · refine zz_aload_n F (i := 2) dX10_load_92 rfl rfl ?_
            refine zz_iconst F (v := (1 : Int32)) dX10_load_93 (by decide) ?_
            refine zz_aload_n F (i := 2) dX10_load_94 rfl rfl ?_
            refine zz_iconst F (v := (0 : Int32)) dX10_load_95 (by decide) ?_
            refine zz_bipush F (v := (29 : Int32)) dX10_load_96 (by decide) ?_
            refine zz_copy F (Ms' := [(zur s0 9 j (va_cpy (s0 9 j) (s0 9 j) 1 0 29))]) dX10_load_98 wmRX10_46 wCopy rfl (⟨zlb rfl, zlb rfl, hj⟩) rfl rfl (⟨zlb rfl, zlb rfl, hj⟩) rfl (by decide) (by decide) (by decide) (Nat.le_of_ble_eq_true rfl) (Nat.le_of_ble_eq_true rfl) (Nat.le_of_ble_eq_true rfl) (Nat.le_of_ble_eq_true rfl) rfl ?_
            refine zz_letm (Mf := fun s0_17 => [s0_17]) fun s0_17 => ?_
            refine zz_iinc F (i := 4) (v := q3 + (-1)) (L' := [some (zr 0 0 0), some (zr 0 8 i), some (zr 0 9 j), some (zi v2), some (zi (q3 + (-1))), none, none, none]) dX10_load_101 rfl (by first | rfl | decide) (by decide) rfl rfl ?_
            refine zz_letl (Lf := fun v18 => [some (zr 0 0 0), some (zr 0 8 i), some (zr 0 9 j), some (zi v2), some (zi v18), none, none, none]) fun v18 => ?_
            exact zz_sub (zs_k (zs_k (zs_k (zs_k (zs_k (zs_k (zs_k (zs_k zs_z)))))))) (hj14 (v18, s0_17))
      · refine zz_aload_n F (i := 2) dX10_load_35 rfl rfl ?_
        refine zz_iload F (i := 4) dX10_load_36 rfl ?_
        refine zz_iconst F (v := (1 : Int32)) dX10_load_38 (by decide) ?_
        refine zz_isub F dX10_load_39 ?_
        refine zz_ix fun j22 hj22 hinj22 hej22 => zz_ial F dX10_load_40 rfl (⟨zlb rfl, zlb rfl, hj⟩) rfl hinj22 hej22 ?_
        refine zz_aload_n F (i := 2) dX10_load_41 rfl rfl ?_
        refine zz_iload F (i := 4) dX10_load_42 rfl ?_
        refine zz_iconst F (v := (2 : Int32)) dX10_load_44 (by decide) ?_
        refine zz_isub F dX10_load_45 ?_
        refine zz_ix fun j23 hj23 hinj23 hej23 => zz_ial F dX10_load_46 rfl (⟨zlb rfl, zlb rfl, hj⟩) rfl hinj23 hej23 ?_
        refine zz_join (pj := 55) (Lj := fun q24 => [some (zr 0 0 0), some (zr 0 8 i), some (zr 0 9 j), some (zi v2), some (zi q3), none, none, none]) (Sj := fun q24 => [zi q24]) (Mj := fun q24 => [s0]) (fun q24 => ?_) (fun κ26 hj25 => ?_)
        · refine zz_iload_n F (i := 3) dX10_load_55 rfl rfl ?_
          refine zz_aload_n F (i := 2) dX10_load_56 rfl rfl ?_
          refine zz_iload F (i := 4) dX10_load_57 rfl ?_
          refine zz_iconst F (v := (1 : Int32)) dX10_load_59 (by decide) ?_
          refine zz_isub F dX10_load_60 ?_
          refine zz_ix fun j28 hj28 hinj28 hej28 => zz_ial F dX10_load_61 rfl (⟨zlb rfl, zlb rfl, hj⟩) rfl hinj28 hej28 ?_
          refine zz_join (pj := 70) (Lj := fun q29 => [some (zr 0 0 0), some (zr 0 8 i), some (zr 0 9 j), some (zi v2), some (zi q3), none, none, none]) (Sj := fun q29 => [zi q29, zi q24]) (Mj := fun q29 => [s0]) (fun q29 => ?_) (fun κ31 hj30 => ?_)
          · refine zz_icmp_ne F (tgt := 85) dX10_load_70 (by decide) (fun h => zz_f h ?_) (fun h => zz_t h ?_)
            · refine zz_iload F (i := 4) dX10_load_85 rfl ?_
              refine zz_bipush F (v := (30 : Int32)) dX10_load_87 (by decide) ?_
              refine zz_join (pj := 104) (Lj := fun q33 => [some (zr 0 0 0), some (zr 0 8 i), some (zr 0 9 j), some (zi v2), some (zi q33.1), none, none, none]) (Sj := fun q33 => []) (Mj := fun q33 => [q33.2]) (fun q33 => ?_) (fun κ35 hj34 => ?_)
              · refine zz_aload_n F (i := 2) dX10_load_104 rfl rfl ?_
                refine zz_iload F (i := 4) dX10_load_105 rfl ?_
                refine zz_iinc F (i := 4) (v := q33.1 + 1) (L' := [some (zr 0 0 0), some (zr 0 8 i), some (zr 0 9 j), some (zi v2), some (zi (q33.1 + 1)), none, none, none]) dX10_load_107 rfl (by first | rfl | decide) (by decide) rfl rfl ?_
                refine zz_letl (Lf := fun v39 => [some (zr 0 0 0), some (zr 0 8 i), some (zr 0 9 j), some (zi v2), some (zi v39), none, none, none]) fun v39 => ?_
                refine zz_iload_n F (i := 3) dX10_load_110 rfl rfl ?_
                refine zz_iconst F (v := (1 : Int32)) dX10_load_111 (by decide) ?_
                refine zz_iadd F dX10_load_112 ?_
                refine zz_ix fun j40 hj40 hinj40 hej40 => zz_ias F (Ms' := [(zu q33.2 9 j j40 (v2 + (1 : Int32)))]) dX10_load_113 rfl (⟨zlb rfl, zlb rfl, hj⟩) rfl hinj40 hej40 rfl ?_
                refine zz_letm (Mf := fun s0_41 => [s0_41]) fun s0_41 => ?_
                exact zz_sub (zs_k (zs_k (zs_k (zs_n (zs_k (zs_k (zs_k (zs_k zs_z)))))))) (hj10 (v39, s0_41))
              · refine zz_icmp_ne F (tgt := 104) dX10_load_89 (by decide) (fun h => zz_f h ?_) (fun h => zz_t h ?_)
                · exact zz_sub (zs_k (zs_k (zs_k (zs_k (zs_k (zs_k (zs_k (zs_k zs_z)))))))) (hj34 (q3, s0))
                · refine zz_aload_n F (i := 2) dX10_load_92 rfl rfl ?_
                  refine zz_iconst F (v := (1 : Int32)) dX10_load_93 (by decide) ?_
                  refine zz_aload_n F (i := 2) dX10_load_94 rfl rfl ?_
                  refine zz_iconst F (v := (0 : Int32)) dX10_load_95 (by decide) ?_
                  refine zz_bipush F (v := (29 : Int32)) dX10_load_96 (by decide) ?_
                  refine zz_copy F (Ms' := [(zur s0 9 j (va_cpy (s0 9 j) (s0 9 j) 1 0 29))]) dX10_load_98 wmRX10_46 wCopy rfl (⟨zlb rfl, zlb rfl, hj⟩) rfl rfl (⟨zlb rfl, zlb rfl, hj⟩) rfl (by decide) (by decide) (by decide) (Nat.le_of_ble_eq_true rfl) (Nat.le_of_ble_eq_true rfl) (Nat.le_of_ble_eq_true rfl) (Nat.le_of_ble_eq_true rfl) rfl ?_
                  refine zz_letm (Mf := fun s0_37 => [s0_37]) fun s0_37 => ?_
                  refine zz_iinc F (i := 4) (v := q3 + (-1)) (L' := [some (zr 0 0 0), some (zr 0 8 i), some (zr 0 9 j), some (zi v2), some (zi (q3 + (-1))), none, none, none]) dX10_load_101 rfl (by first | rfl | decide) (by decide) rfl rfl ?_
                  refine zz_letl (Lf := fun v38 => [some (zr 0 0 0), some (zr 0 8 i), some (zr 0 9 j), some (zi v2), some (zi v38), none, none, none]) fun v38 => ?_
                  exact zz_sub (zs_k (zs_k (zs_k (zs_k (zs_k (zs_k (zs_k (zs_k zs_z)))))))) (hj34 (v38, s0_37))
            · refine zz_aload_n F (i := 2) dX10_load_73 rfl rfl ?_
              refine zz_iload F (i := 4) dX10_load_74 rfl ?_
              refine zz_iconst F (v := (1 : Int32)) dX10_load_76 (by decide) ?_
              refine zz_isub F dX10_load_77 ?_
              refine zz_iload_n F (i := 3) dX10_load_78 rfl rfl ?_
              refine zz_iconst F (v := (1 : Int32)) dX10_load_79 (by decide) ?_
              refine zz_iadd F dX10_load_80 ?_
              refine zz_ix fun j42 hj42 hinj42 hej42 => zz_ias F (Ms' := [(zu s0 9 j j42 (v2 + (1 : Int32)))]) dX10_load_81 rfl (⟨zlb rfl, zlb rfl, hj⟩) rfl hinj42 hej42 rfl ?_
              refine zz_letm (Mf := fun s0_43 => [s0_43]) fun s0_43 => ?_
              refine zz_goto F (tgt := 114) dX10_load_82 (by decide) ?_
              exact zz_sub (zs_k (zs_k (zs_k (zs_n (zs_k (zs_k (zs_k (zs_k zs_z)))))))) (hj10 (q3, s0_43))
          · refine zz_icmp_lt F (tgt := 69) dX10_load_62 (by decide) (fun h => zz_t h ?_) (fun h => zz_f h ?_)
            · refine zz_iconst F (v := (0 : Int32)) dX10_load_69 (by decide) ?_
              exact zz_sub (zs_k (zs_k (zs_k (zs_k (zs_k (zs_k (zs_k (zs_k zs_z)))))))) (hj30 (0 : Int32))
            · refine zz_iconst F (v := (1 : Int32)) dX10_load_65 (by decide) ?_
              refine zz_goto F (tgt := 70) dX10_load_66 (by decide) ?_
              exact zz_sub (zs_k (zs_k (zs_k (zs_k (zs_k (zs_k (zs_k (zs_k zs_z)))))))) (hj30 (1 : Int32))
        · refine zz_icmp_le F (tgt := 54) dX10_load_47 (by decide) (fun h => zz_t h ?_) (fun h => zz_f h ?_)
          · refine zz_iconst F (v := (0 : Int32)) dX10_load_54 (by decide) ?_
            exact zz_sub (zs_k (zs_k (zs_k (zs_k (zs_k (zs_k (zs_k (zs_k zs_z)))))))) (hj25 (0 : Int32))
          · refine zz_iconst F (v := (1 : Int32)) dX10_load_50 (by decide) ?_
            refine zz_goto F (tgt := 55) dX10_load_51 (by decide) ?_
            exact zz_sub (zs_k (zs_k (zs_k (zs_k (zs_k (zs_k (zs_k (zs_k zs_z)))))))) (hj25 (1 : Int32))
  · refine zz_if_le F (tgt := 29) dX10_load_12 (by decide) (fun h => zz_t h ?_) (fun h => zz_f h ?_)
    · exact zz_sub (zs_k (zs_k (zs_k (zs_k (zs_k (zs_k (zs_k (zs_k zs_z)))))))) (hj5 ())
    · refine zz_aload_n F (i := 2) dX10_load_15 rfl rfl ?_
      refine zz_iload F (i := 4) dX10_load_16 rfl ?_
      refine zz_iconst F (v := (1 : Int32)) dX10_load_18 (by decide) ?_
      refine zz_isub F dX10_load_19 ?_
      refine zz_ix fun j8 hj8 hinj8 hej8 => zz_ial F dX10_load_20 rfl (⟨zlb rfl, zlb rfl, hj⟩) rfl hinj8 hej8 ?_
      refine zz_iconst F (v := (1 : Int32)) dX10_load_21 (by decide) ?_
      refine zz_isub F dX10_load_22 ?_
      refine zz_iload_n F (i := 3) dX10_load_23 rfl rfl ?_
      refine zz_icmp_ne F (tgt := 29) dX10_load_24 (by decide) (fun h => zz_f h ?_) (fun h => zz_t h ?_)
      · exact zz_sub (zs_k (zs_k (zs_k (zs_k (zs_k (zs_k (zs_k (zs_k zs_z)))))))) (hj5 ())
      · refine zz_iconst F (v := (0 : Int32)) dX10_load_27 (by decide) ?_
        exact zz_ireturn F dX10_load_28 rfl ((hr7 _).trans (hκ _))
theorem zfMS_load (i : Nat) (j : Nat) (hi : i < 8) (hj : j < 8) (s0 : zM) : ∀ a, fMS_load i j s0 = some a → zMet yX10_load cX10_load 8 (some .int) 1 60 [(3, [])] [zr 0 0 0, zr 0 8 i, zr 0 9 j] [s0] ((fun a => ((.inl ((fun q => some (zi q.1)) a), (fun q => [q.2]) a) : zO)) a) := fun a ha => zMet_of (L0 := [some (zr 0 0 0), some (zr 0 8 i), some (zr 0 9 j), none, none, none, none, none]) (φ := Option.bind (fMS_load i j s0) (fun a => some ((fun a => ((.inl ((fun q => some (zi q.1)) a), (fun q => [q.2]) a) : zO)) a))) (by decide) (fun _ => Nat.le_of_ble_eq_true rfl) (zl0 5 rfl) (fun X F => bfMS_load F i j hi hj s0 (fun _ => rfl)) (by rw [ha]; rfl)
