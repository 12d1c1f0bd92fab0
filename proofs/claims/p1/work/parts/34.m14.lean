theorem dX10_run_0 : decode cX10_run 0 = .ok (.iconst 0, 1) := by decide +kernel
theorem dX10_run_1 : decode cX10_run 1 = .ok (.istore_n 2, 1) := by decide +kernel
theorem dX10_run_2 : decode cX10_run 2 = .ok (.iconst 0, 1) := by decide +kernel
theorem dX10_run_3 : decode cX10_run 3 = .ok (.istore_n 3, 1) := by decide +kernel
theorem dX10_run_4 : decode cX10_run 4 = .ok (.iload_n 3, 1) := by decide +kernel
theorem dX10_run_5 : decode cX10_run 5 = .ok (.iload_n 1, 1) := by decide +kernel
theorem dX10_run_6 : decode cX10_run 6 = .ok (.if_icmp .ge 16, 3) := by decide +kernel
theorem dX10_run_9 : decode cX10_run 9 = .ok (.iload_n 2, 1) := by decide +kernel
theorem dX10_run_10 : decode cX10_run 10 = .ok (.aload_n 0, 1) := by decide +kernel
theorem dX10_run_11 : decode cX10_run 11 = .ok (.invokevirtual 169, 3) := by decide +kernel
theorem dX10_run_14 : decode cX10_run 14 = .ok (.iadd, 1) := by decide +kernel
theorem dX10_run_15 : decode cX10_run 15 = .ok (.istore_n 2, 1) := by decide +kernel
theorem dX10_run_16 : decode cX10_run 16 = .ok (.iinc 3 1, 3) := by decide +kernel
theorem dX10_run_19 : decode cX10_run 19 = .ok (.goto (-15), 3) := by decide +kernel
theorem dX10_run_22 : decode cX10_run 22 = .ok (.iload_n 2, 1) := by decide +kernel
theorem dX10_run_23 : decode cX10_run 23 = .ok (.ireturn, 1) := by decide +kernel
theorem wcRX10_169 : Cond.methodLink RX10 169 yX10_hour ∈ zTg ∧ Cond.instanceMethod yX10_hour ∈ zTg ∧ Cond.selects RX10 yX10_hour yX10_hour ∈ zTg ∧ Cond.initialized RX10 ∈ zTg ∧ Cond.code yX10_hour cX10_hour 5 (some .int) ∈ zTg := ⟨zm_f 1111 (by decide +kernel) rfl, zm_f 1112 (by decide +kernel) rfl, zm_f 1113 (by decide +kernel) rfl, zm_f 47 (by decide +kernel) rfl, zm_f 1114 (by decide +kernel) rfl⟩
theorem wy_yX10_hour : yX10_hour.cls = RX10 ∧ yX10_hour.cls ≠ "java/lang/invoke/MethodHandle" ∧ yX10_hour.cls ≠ "java/lang/invoke/VarHandle" ∧ (parseMethodDescriptor yX10_hour.desc).map (fun d => d.parameters.length) = some 0 := by decide +kernel
def fMS_run_l4 (a1 : Int32) (q1 : Int32 × Int32 × zM) : Option ((Int32 × Int32 × zM) ⊕ ((Int32 × zM))) :=
  if a1 ≤ q1.2.1 then
  some (.inr (q1.1, q1.2.2))
else
  Option.bind (fMS_hour q1.2.2) fun q3 =>
    zlet ((q1.1 + q3.1)) fun v4 =>
    zlet (q1.2.1 + 1) fun v5 =>
    some (.inl (v4, v5, q3.2))
def fMS_run (a1 : Int32) (s0 : zM) : Option (Int32 × zM) :=
  Option.bind (ziter (fMS_run_l4 a1) 1000 ((0 : Int32), (0 : Int32), s0)) fun q2 =>
  some (q2.1, q2.2)
set_option maxHeartbeats 4000000 in
set_option maxRecDepth 20000 in
theorem bfMS_run_l4 {X : zX} (F : zFr X cX10_run 4 RX10 (some .int)) (a1 : Int32)  {ψ : (Int32 × Int32 × zM) ⊕ ((Int32 × zM)) → Option zO} (h1 : ∀ q1 : Int32 × Int32 × zM, zZ X [(3, [])] 5 133 4 4 [some (zr 0 0 0), some (zi a1), some (zi q1.1), some (zi q1.2.1)] [] [q1.2.2] (ψ (.inl q1))) (h2 : ∀ q2 : Int32 × zM, zZ X [(3, [])] 5 133 4 22 [none, none, some (zi q2.1), none] [] [q2.2] (ψ (.inr q2))) (q1 : Int32 × Int32 × zM) : zZ X [(3, [])] 5 133 4 4 [some (zr 0 0 0), some (zi a1), some (zi q1.1), some (zi q1.2.1)] [] [q1.2.2] (Option.bind (fMS_run_l4 a1 q1) ψ) := by
  unfold fMS_run_l4
  refine zz_iload_n F (i := 3) dX10_run_4 rfl rfl ?_
  refine zz_iload_n F (i := 1) dX10_run_5 rfl rfl ?_
  refine zz_icmp_ge F (tgt := 22) dX10_run_6 (by decide) (fun h => zz_t h ?_) (fun h => zz_f h ?_)
  · exact zz_sub (zs_n (zs_n (zs_k (zs_n zs_z)))) (h2 (q1.1, q1.2.2))
  · refine zz_iload_n F (i := 2) dX10_run_9 rfl rfl ?_
    refine zz_aload_n F (i := 0) dX10_run_10 rfl rfl ?_
    refine zz_bind ?_
    refine zz_callVr F (ρ := [0]) (so := fun q3 => [zi q3.1, zi q1.1]) (Mo := fun q3 => [q3.2]) (zfMS_hour q1.2.2) dX10_run_11 wcRX10_169 wy_yX10_hour rfl ⟨rel18, rfl, rfl, Nat.le_of_ble_eq_true rfl, Nat.le_of_ble_eq_true rfl, Nat.le_of_ble_eq_true rfl⟩ (⟨zlb rfl, zlb rfl, zlb rfl⟩) rfl rfl rfl (fun _ => rfl) (fun _ => rfl) fun q3 => ?_
    refine zz_iadd F dX10_run_14 ?_
    refine zz_istore_n F (i := 2) (L' := [some (zr 0 0 0), some (zi a1), some (zi (q1.1 + q3.1)), some (zi q1.2.1)]) dX10_run_15 rfl (by decide) rfl rfl ?_
    refine zz_letl (Lf := fun v4 => [some (zr 0 0 0), some (zi a1), some (zi v4), some (zi q1.2.1)]) fun v4 => ?_
    refine zz_iinc F (i := 3) (v := q1.2.1 + 1) (L' := [some (zr 0 0 0), some (zi a1), some (zi v4), some (zi (q1.2.1 + 1))]) dX10_run_16 rfl (by first | rfl | decide) (by decide) rfl rfl ?_
    refine zz_letl (Lf := fun v5 => [some (zr 0 0 0), some (zi a1), some (zi v4), some (zi v5)]) fun v5 => ?_
    refine zz_goto F (tgt := 4) dX10_run_19 (by decide) ?_
    exact zz_sub (zs_k (zs_k (zs_k (zs_k zs_z)))) (h1 (v4, v5, q3.2))
set_option maxHeartbeats 4000000 in
set_option maxRecDepth 20000 in
theorem bfMS_run {X : zX} (F : zFr X cX10_run 4 RX10 (some .int)) (a1 : Int32)  (s0 : zM) {κ : Int32 × zM → Option zO} (hκ : ∀ a, κ a = some ((fun a => ((.inl ((fun q => some (zi q.1)) a), (fun q => [q.2]) a) : zO)) a)) : zZ X [(3, [])] 5 133 4 0 [some (zr 0 0 0), some (zi a1), none, none] [] [s0] (Option.bind (fMS_run a1 s0) κ) := by
  unfold fMS_run
  refine zz_iconst F (v := (0 : Int32)) dX10_run_0 (by decide) ?_
  refine zz_istore_n F (i := 2) (L' := [some (zr 0 0 0), some (zi a1), some (zi (0 : Int32)), none]) dX10_run_1 rfl (by decide) rfl rfl ?_
  refine zz_iconst F (v := (0 : Int32)) dX10_run_2 (by decide) ?_
  refine zz_istore_n F (i := 3) (L' := [some (zr 0 0 0), some (zi a1), some (zi (0 : Int32)), some (zi (0 : Int32))]) dX10_run_3 rfl (by decide) rfl rfl ?_
  refine zz_sub (zs_k (zs_k (zs_k (zs_k zs_z)))) ?_
  refine zz_bind ?_
  refine zz_iter (Lf := fun q1 => [some (zr 0 0 0), some (zi a1), some (zi q1.1), some (zi q1.2.1)]) (Mf := fun q1 => [q1.2.2]) (fun q1 _ e6 e7 => bfMS_run_l4 F a1  e6 (fun q2 => ?_)  q1) 1000 ((0 : Int32), (0 : Int32), s0)
  rw [e7]
  refine zz_iload_n F (i := 2) dX10_run_22 rfl rfl ?_
  exact zz_ireturn F dX10_run_23 rfl (hκ _)
theorem zfMS_run (a1 : Int32)  (s0 : zM) : ∀ a, fMS_run a1 s0 = some a → zMet yX10_run cX10_run 4 (some .int) 5 133 [(3, [])] [zr 0 0 0, zi a1] [s0] ((fun a => ((.inl ((fun q => some (zi q.1)) a), (fun q => [q.2]) a) : zO)) a) := fun a ha => zMet_of (L0 := [some (zr 0 0 0), some (zi a1), none, none]) (φ := Option.bind (fMS_run a1 s0) (fun a => some ((fun a => ((.inl ((fun q => some (zi q.1)) a), (fun q => [q.2]) a) : zO)) a))) (by decide) (fun _ => Nat.le_of_ble_eq_true rfl) (zl0 2 rfl) (fun X F => bfMS_run F a1 s0 (fun _ => rfl)) (by rw [ha]; rfl)

theorem dX11_blow_0 : decode cX11_blow 0 = .ok (.aload_n 0, 1) := by decide +kernel
theorem dX11_blow_1 : decode cX11_blow 1 = .ok (.iconst 0, 1) := by decide +kernel
theorem dX11_blow_2 : decode cX11_blow 2 = .ok (.putfield 16, 3) := by decide +kernel
theorem dX11_blow_5 : decode cX11_blow 5 = .ok (.iload_n 1, 1) := by decide +kernel
theorem dX11_blow_6 : decode cX11_blow 6 = .ok (.iconst 1, 1) := by decide +kernel
theorem dX11_blow_7 : decode cX11_blow 7 = .ok (.bipush 24, 2) := by decide +kernel
theorem dX11_blow_9 : decode cX11_blow 9 = .ok (.invokestatic 20, 3) := by decide +kernel
theorem dX11_blow_12 : decode cX11_blow 12 = .ok (.ifCond .eq 59, 3) := by decide +kernel
theorem dX11_blow_15 : decode cX11_blow 15 = .ok (.iload_n 2, 1) := by decide +kernel
theorem dX11_blow_16 : decode cX11_blow 16 = .ok (.iconst 0, 1) := by decide +kernel
theorem dX11_blow_17 : decode cX11_blow 17 = .ok (.bipush 7, 2) := by decide +kernel
theorem dX11_blow_19 : decode cX11_blow 19 = .ok (.invokestatic 20, 3) := by decide +kernel
theorem dX11_blow_22 : decode cX11_blow 22 = .ok (.ifCond .eq 49, 3) := by decide +kernel
theorem dX11_blow_25 : decode cX11_blow 25 = .ok (.iload_n 3, 1) := by decide +kernel
theorem dX11_blow_26 : decode cX11_blow 26 = .ok (.iconst 0, 1) := by decide +kernel
theorem dX11_blow_27 : decode cX11_blow 27 = .ok (.bipush 30, 2) := by decide +kernel
theorem dX11_blow_29 : decode cX11_blow 29 = .ok (.invokestatic 20, 3) := by decide +kernel
theorem dX11_blow_32 : decode cX11_blow 32 = .ok (.ifCond .eq 39, 3) := by decide +kernel
theorem dX11_blow_35 : decode cX11_blow 35 = .ok (.iload 4, 2) := by decide +kernel
theorem dX11_blow_37 : decode cX11_blow 37 = .ok (.iconst 0, 1) := by decide +kernel
theorem dX11_blow_38 : decode cX11_blow 38 = .ok (.bipush 60, 2) := by decide +kernel
theorem dX11_blow_40 : decode cX11_blow 40 = .ok (.invokestatic 20, 3) := by decide +kernel
theorem dX11_blow_43 : decode cX11_blow 43 = .ok (.ifCond .eq 28, 3) := by decide +kernel
theorem dX11_blow_46 : decode cX11_blow 46 = .ok (.iload 5, 2) := by decide +kernel
theorem dX11_blow_48 : decode cX11_blow 48 = .ok (.bipush (-50), 2) := by decide +kernel
theorem dX11_blow_50 : decode cX11_blow 50 = .ok (.sipush 200, 3) := by decide +kernel
theorem dX11_blow_53 : decode cX11_blow 53 = .ok (.invokestatic 20, 3) := by decide +kernel
theorem dX11_blow_56 : decode cX11_blow 56 = .ok (.ifCond .eq 15, 3) := by decide +kernel
theorem dX11_blow_59 : decode cX11_blow 59 = .ok (.iload 6, 2) := by decide +kernel
theorem dX11_blow_61 : decode cX11_blow 61 = .ok (.iconst 0, 1) := by decide +kernel
theorem dX11_blow_62 : decode cX11_blow 62 = .ok (.sipush 20000, 3) := by decide +kernel
theorem dX11_blow_65 : decode cX11_blow 65 = .ok (.invokestatic 20, 3) := by decide +kernel
theorem dX11_blow_68 : decode cX11_blow 68 = .ok (.ifCond .ne 9, 3) := by decide +kernel
theorem dX11_blow_71 : decode cX11_blow 71 = .ok (.aload_n 0, 1) := by decide +kernel
theorem dX11_blow_72 : decode cX11_blow 72 = .ok (.iconst 1, 1) := by decide +kernel
theorem dX11_blow_73 : decode cX11_blow 73 = .ok (.invokevirtual 40, 3) := by decide +kernel
theorem dX11_blow_76 : decode cX11_blow 76 = .ok (.ireturn, 1) := by decide +kernel
theorem dX11_blow_77 : decode cX11_blow 77 = .ok (.aload_n 0, 1) := by decide +kernel
theorem dX11_blow_78 : decode cX11_blow 78 = .ok (.getfield 10, 3) := by decide +kernel
theorem dX11_blow_81 : decode cX11_blow 81 = .ok (.iload_n 2, 1) := by decide +kernel
theorem dX11_blow_82 : decode cX11_blow 82 = .ok (.putfield 77, 3) := by decide +kernel
theorem dX11_blow_85 : decode cX11_blow 85 = .ok (.aload_n 0, 1) := by decide +kernel
theorem dX11_blow_86 : decode cX11_blow 86 = .ok (.getfield 10, 3) := by decide +kernel
theorem dX11_blow_89 : decode cX11_blow 89 = .ok (.iload_n 3, 1) := by decide +kernel
theorem dX11_blow_90 : decode cX11_blow 90 = .ok (.putfield 80, 3) := by decide +kernel
theorem dX11_blow_93 : decode cX11_blow 93 = .ok (.aload_n 0, 1) := by decide +kernel
theorem dX11_blow_94 : decode cX11_blow 94 = .ok (.getfield 10, 3) := by decide +kernel
theorem dX11_blow_97 : decode cX11_blow 97 = .ok (.iload 4, 2) := by decide +kernel
theorem dX11_blow_99 : decode cX11_blow 99 = .ok (.putfield 83, 3) := by decide +kernel
theorem dX11_blow_102 : decode cX11_blow 102 = .ok (.aload_n 0, 1) := by decide +kernel
theorem dX11_blow_103 : decode cX11_blow 103 = .ok (.getfield 10, 3) := by decide +kernel
theorem dX11_blow_106 : decode cX11_blow 106 = .ok (.iload 5, 2) := by decide +kernel
theorem dX11_blow_108 : decode cX11_blow 108 = .ok (.putfield 86, 3) := by decide +kernel
theorem dX11_blow_111 : decode cX11_blow 111 = .ok (.aload_n 0, 1) := by decide +kernel
theorem dX11_blow_112 : decode cX11_blow 112 = .ok (.getfield 10, 3) := by decide +kernel
theorem dX11_blow_115 : decode cX11_blow 115 = .ok (.iload 6, 2) := by decide +kernel
theorem dX11_blow_117 : decode cX11_blow 117 = .ok (.putfield 89, 3) := by decide +kernel
theorem dX11_blow_120 : decode cX11_blow 120 = .ok (.aload_n 0, 1) := by decide +kernel
theorem dX11_blow_121 : decode cX11_blow 121 = .ok (.getfield 10, 3) := by decide +kernel
theorem dX11_blow_124 : decode cX11_blow 124 = .ok (.iload_n 1, 1) := by decide +kernel
theorem dX11_blow_125 : decode cX11_blow 125 = .ok (.invokevirtual 92, 3) := by decide +kernel
theorem dX11_blow_128 : decode cX11_blow 128 = .ok (.ireturn, 1) := by decide +kernel
theorem wpRX11_77 : zFw RX11 77 9 11 .int := ⟨_, rfl, by decide, zm_f 990 (by decide +kernel) rfl, rfl, by decide +kernel⟩
theorem wpRX11_80 : zFw RX11 80 9 12 .int := ⟨_, rfl, by decide, zm_f 992 (by decide +kernel) rfl, rfl, by decide +kernel⟩
theorem wpRX11_83 : zFw RX11 83 9 13 .int := ⟨_, rfl, by decide, zm_f 994 (by decide +kernel) rfl, rfl, by decide +kernel⟩
theorem wpRX11_86 : zFw RX11 86 9 14 .int := ⟨_, rfl, by decide, zm_f 996 (by decide +kernel) rfl, rfl, by decide +kernel⟩
theorem wpRX11_89 : zFw RX11 89 9 15 .int := ⟨_, rfl, by decide, zm_f 998 (by decide +kernel) rfl, rfl, by decide +kernel⟩
theorem wcRX11_92 : Cond.methodLink RX11 92 yX10_run ∈ zTg ∧ Cond.instanceMethod yX10_run ∈ zTg ∧ Cond.selects RX10 yX10_run yX10_run ∈ zTg ∧ Cond.initialized RX10 ∈ zTg ∧ Cond.code yX10_run cX10_run 4 (some .int) ∈ zTg := ⟨zm_f 1107 (by decide +kernel) rfl, zm_f 1108 (by decide +kernel) rfl, zm_f 1109 (by decide +kernel) rfl, zm_f 47 (by decide +kernel) rfl, zm_f 1110 (by decide +kernel) rfl⟩
theorem wy_yX10_run : yX10_run.cls = RX10 ∧ yX10_run.cls ≠ "java/lang/invoke/MethodHandle" ∧ yX10_run.cls ≠ "java/lang/invoke/VarHandle" ∧ (parseMethodDescriptor yX10_run.desc).map (fun d => d.parameters.length) = some 1 := by decide +kernel
def fMO_blow (a1 : Int32) (a2 : Int32) (a3 : Int32) (a4 : Int32) (a5 : Int32) (a6 : Int32) (s0 : zM) (s1 : zM) : Option (Int32 × zM × zM) :=
  zlet (zu s0 0 0 0 (0 : Int32)) fun s0_1 =>
  Option.bind (fMO_in a1 (1 : Int32) (24 : Int32)) fun q2 =>
  if q2 = 0 then
  Option.bind (fMO_no (1 : Int32) s0_1 s1) fun q3 =>
    some (q3.1, q3.2, s1)
else
  Option.bind (fMO_in a2 (0 : Int32) (7 : Int32)) fun q4 =>
    if q4 = 0 then
    Option.bind (fMO_no (1 : Int32) s0_1 s1) fun q5 =>
      some (q5.1, q5.2, s1)
  else
    Option.bind (fMO_in a3 (0 : Int32) (30 : Int32)) fun q6 =>
      if q6 = 0 then
      Option.bind (fMO_no (1 : Int32) s0_1 s1) fun q7 =>
        some (q7.1, q7.2, s1)
    else
      Option.bind (fMO_in a4 (0 : Int32) (60 : Int32)) fun q8 =>
        if q8 = 0 then
        Option.bind (fMO_no (1 : Int32) s0_1 s1) fun q9 =>
          some (q9.1, q9.2, s1)
      else
        Option.bind (fMO_in a5 (-50 : Int32) (200 : Int32)) fun q10 =>
          if q10 = 0 then
          Option.bind (fMO_no (1 : Int32) s0_1 s1) fun q11 =>
            some (q11.1, q11.2, s1)
        else
          Option.bind (fMO_in a6 (0 : Int32) (20000 : Int32)) fun q12 =>
            if q12 = 0 then
            Option.bind (fMO_no (1 : Int32) s0_1 s1) fun q19 =>
              some (q19.1, q19.2, s1)
          else
            zlet (zu s1 0 0 11 a2) fun s1_13 =>
              zlet (zu s1_13 0 0 12 a3) fun s1_14 =>
              zlet (zu s1_14 0 0 13 a4) fun s1_15 =>
              zlet (zu s1_15 0 0 14 a5) fun s1_16 =>
              zlet (zu s1_16 0 0 15 a6) fun s1_17 =>
              Option.bind (fMS_run a1 s1_17) fun q18 =>
              some (q18.1, s0_1, q18.2)
set_option maxHeartbeats 4000000 in
set_option maxRecDepth 20000 in
theorem bfMO_blow {X : zX} (F : zFr X cX11_blow 7 RX11 (some .int)) (a1 : Int32) (a2 : Int32) (a3 : Int32) (a4 : Int32) (a5 : Int32) (a6 : Int32)  (s0 : zM) (s1 : zM) {κ : Int32 × zM × zM → Option zO} (hκ : ∀ a, κ a = some ((fun a => ((.inl ((fun q => some (zi q.1)) a), (fun q => [q.2.1, q.2.2]) a) : zO)) a)) : zZ X [(4, [1]), (3, [])] 6 156 7 0 [some (zr 0 0 0), some (zi a1), some (zi a2), some (zi a3), some (zi a4), some (zi a5), some (zi a6)] [] [s0, s1] (Option.bind (fMO_blow a1 a2 a3 a4 a5 a6 s0 s1) κ) := by
  unfold fMO_blow
  refine zz_aload_n F (i := 0) dX11_blow_0 rfl rfl ?_
  refine zz_iconst F (v := (0 : Int32)) dX11_blow_1 (by decide) ?_
  refine zz_put F (Ms' := [(zu s0 0 0 0 (0 : Int32)), s1]) dX11_blow_2 wpRX11_16 zCl_10 rfl (⟨zlb rfl, zlb rfl, zlb rfl⟩) rfl (by decide) rfl rfl rfl ?_
  refine zz_letm (Mf := fun s0_1 => [s0_1, s1]) fun s0_1 => ?_
  refine zz_iload_n F (i := 1) dX11_blow_5 rfl rfl ?_
  refine zz_iconst F (v := (1 : Int32)) dX11_blow_6 (by decide) ?_
  refine zz_bipush F (v := (24 : Int32)) dX11_blow_7 (by decide) ?_
  refine zz_bind ?_
  refine zz_callSr F (ρ := []) (so := fun q2 => [zi q2]) (Mo := fun q2 => [s0_1, s1]) (zfMO_in a1 (1 : Int32) (24 : Int32)) dX11_blow_9 wcRX11_20 wy_yX11_in rfl ⟨rel14, rfl, rfl, Nat.le_of_ble_eq_true rfl, Nat.le_of_ble_eq_true rfl, Nat.le_of_ble_eq_true rfl⟩ rfl (fun _ => rfl) (fun _ => rfl) fun q2 => ?_
  refine zz_if_eq F (tgt := 71) dX11_blow_12 (by decide) (fun h => zz_t h ?_) (fun h => zz_f h ?_)
  · refine zz_aload_n F (i := 0) dX11_blow_71 rfl rfl ?_
    refine zz_iconst F (v := (1 : Int32)) dX11_blow_72 (by decide) ?_
    refine zz_bind ?_
    refine zz_callVr F (ρ := [0, 1]) (so := fun q3 => [zi q3.1]) (Mo := fun q3 => [q3.2, s1]) (zfMO_no (1 : Int32) s0_1 s1) dX11_blow_73 wcRX11_40 wy_yX11_no rfl ⟨rel15, rfl, rfl, Nat.le_of_ble_eq_true rfl, Nat.le_of_ble_eq_true rfl, Nat.le_of_ble_eq_true rfl⟩ (⟨zlb rfl, zlb rfl, zlb rfl⟩) rfl rfl rfl (fun _ => rfl) (fun _ => rfl) fun q3 => ?_
    exact zz_ireturn F dX11_blow_76 rfl (hκ _)
  · refine zz_iload_n F (i := 2) dX11_blow_15 rfl rfl ?_
    refine zz_iconst F (v := (0 : Int32)) dX11_blow_16 (by decide) ?_
    refine zz_bipush F (v := (7 : Int32)) dX11_blow_17 (by decide) ?_
    refine zz_bind ?_
    refine zz_callSr F (ρ := []) (so := fun q4 => [zi q4]) (Mo := fun q4 => [s0_1, s1]) (zfMO_in a2 (0 : Int32) (7 : Int32)) dX11_blow_19 wcRX11_20 wy_yX11_in rfl ⟨rel14, rfl, rfl, Nat.le_of_ble_eq_true rfl, Nat.le_of_ble_eq_true rfl, Nat.le_of_ble_eq_true rfl⟩ rfl (fun _ => rfl) (fun _ => rfl) fun q4 => ?_
    refine zz_if_eq F (tgt := 71) dX11_blow_22 (by decide) (fun h => zz_t h ?_) (fun h => zz_f h ?_)
    · refine zz_aload_n F (i := 0) dX11_blow_71 rfl rfl ?_
      refine zz_iconst F (v := (1 : Int32)) dX11_blow_72 (by decide) ?_
      refine zz_bind ?_
      refine zz_callVr F (ρ := [0, 1]) (so := fun q5 => [zi q5.1]) (Mo := fun q5 => [q5.2, s1]) (zfMO_no (1 : Int32) s0_1 s1) dX11_blow_73 wcRX11_40 wy_yX11_no rfl ⟨rel15, rfl, rfl, Nat.le_of_ble_eq_true rfl, Nat.le_of_ble_eq_true rfl, Nat.le_of_ble_eq_true rfl⟩ (⟨zlb rfl, zlb rfl, zlb rfl⟩) rfl rfl rfl (fun _ => rfl) (fun _ => rfl) fun q5 => ?_
      exact zz_ireturn F dX11_blow_76 rfl (hκ _)
    · refine zz_iload_n F (i := 3) dX11_blow_25 rfl rfl ?_
      refine zz_iconst F (v := (0 : Int32)) dX11_blow_26 (by decide) ?_
      refine zz_bipush F (v := (30 : Int32)) dX11_blow_27 (by decide) ?_
      refine zz_bind ?_
      refine zz_callSr F (ρ := []) (so := fun q6 => [zi q6]) (Mo := fun q6 => [s0_1, s1]) (zfMO_in a3 (0 : Int32) (30 : Int32)) dX11_blow_29 wcRX11_20 wy_yX11_in rfl ⟨rel14, rfl, rfl, Nat.le_of_ble_eq_true rfl, Nat.le_of_ble_eq_true rfl, Nat.le_of_ble_eq_true rfl⟩ rfl (fun _ => rfl) (fun _ => rfl) fun q6 => ?_
      refine zz_if_eq F (tgt := 71) dX11_blow_32 (by decide) (fun h => zz_t h ?_) (fun h => zz_f h ?_)
      · refine zz_aload_n F (i := 0) dX11_blow_71 rfl rfl ?_
        refine zz_iconst F (v := (1 : Int32)) dX11_blow_72 (by decide) ?_
        refine zz_bind ?_
        refine zz_callVr F (ρ := [0, 1]) (so := fun q7 => [zi q7.1]) (Mo := fun q7 => [q7.2, s1]) (zfMO_no (1 : Int32) s0_1 s1) dX11_blow_73 wcRX11_40 wy_yX11_no rfl ⟨rel15, rfl, rfl, Nat.le_of_ble_eq_true rfl, Nat.le_of_ble_eq_true rfl, Nat.le_of_ble_eq_true rfl⟩ (⟨zlb rfl, zlb rfl, zlb rfl⟩) rfl rfl rfl (fun _ => rfl) (fun _ => rfl) fun q7 => ?_
        exact zz_ireturn F dX11_blow_76 rfl (hκ _)
      · refine zz_iload F (i := 4) dX11_blow_35 rfl ?_
        refine zz_iconst F (v := (0 : Int32)) dX11_blow_37 (by decide) ?_
        refine zz_bipush F (v := (60 : Int32)) dX11_blow_38 (by decide) ?_
        refine zz_bind ?_
        refine zz_callSr F (ρ := []) (so := fun q8 => [zi q8]) (Mo := fun q8 => [s0_1, s1]) (zfMO_in a4 (0 : Int32) (60 : Int32)) dX11_blow_40 wcRX11_20 wy_yX11_in rfl ⟨rel14, rfl, rfl, Nat.le_of_ble_eq_true rfl, Nat.le_of_ble_eq_true rfl, Nat.le_of_ble_eq_true rfl⟩ rfl (fun _ => rfl) (fun _ => rfl) fun q8 => ?_
        refine zz_if_eq F (tgt := 71) dX11_blow_43 (by decide) (fun h => zz_t h ?_) (fun h => zz_f h ?_)
        · refine zz_aload_n F (i := 0) dX11_blow_71 rfl rfl ?_
          refine zz_iconst F (v := (1 : Int32)) dX11_blow_72 (by decide) ?_
          refine zz_bind ?_
          refine zz_callVr F (ρ := [0, 1]) (so := fun q9 => [zi q9.1]) (Mo := fun q9 => [q9.2, s1]) (zfMO_no (1 : Int32) s0_1 s1) dX11_blow_73 wcRX11_40 wy_yX11_no rfl ⟨rel15, rfl, rfl, Nat.le_of_ble_eq_true rfl, Nat.le_of_ble_eq_true rfl, Nat.le_of_ble_eq_true rfl⟩ (⟨zlb rfl, zlb rfl, zlb rfl⟩) rfl rfl rfl (fun _ => rfl) (fun _ => rfl) fun q9 => ?_
          exact zz_ireturn F dX11_blow_76 rfl (hκ _)
        · refine zz_iload F (i := 5) dX11_blow_46 rfl ?_
          refine zz_bipush F (v := (-50 : Int32)) dX11_blow_48 (by decide) ?_
          refine zz_sipush F (v := (200 : Int32)) dX11_blow_50 (by decide) ?_
          refine zz_bind ?_
          refine zz_callSr F (ρ := []) (so := fun q10 => [zi q10]) (Mo := fun q10 => [s0_1, s1]) (zfMO_in a5 (-50 : Int32) (200 : Int32)) dX11_blow_53 wcRX11_20 wy_yX11_in rfl ⟨rel14, rfl, rfl, Nat.le_of_ble_eq_true rfl, Nat.le_of_ble_eq_true rfl, Nat.le_of_ble_eq_true rfl⟩ rfl (fun _ => rfl) (fun _ => rfl) fun q10 => ?_
          refine zz_if_eq F (tgt := 71) dX11_blow_56 (by decide) (fun h => zz_t h ?_) (fun h => zz_f h ?_)
          · refine zz_aload_n F (i := 0) dX11_blow_71 rfl rfl ?_
            refine zz_iconst F (v := (1 : Int32)) dX11_blow_72 (by decide) ?_
            refine zz_bind ?_
            refine zz_callVr F (ρ := [0, 1]) (so := fun q11 => [zi q11.1]) (Mo := fun q11 => [q11.2, s1]) (zfMO_no (1 : Int32) s0_1 s1) dX11_blow_73 wcRX11_40 wy_yX11_no rfl ⟨rel15, rfl, rfl, Nat.le_of_ble_eq_true rfl, Nat.le_of_ble_eq_true rfl, Nat.le_of_ble_eq_true rfl⟩ (⟨zlb rfl, zlb rfl, zlb rfl⟩) rfl rfl rfl (fun _ => rfl) (fun _ => rfl) fun q11 => ?_
            exact zz_ireturn F dX11_blow_76 rfl (hκ _)
          · refine zz_iload F (i := 6) dX11_blow_59 rfl ?_
            refine zz_iconst F (v := (0 : Int32)) dX11_blow_61 (by decide) ?_
            refine zz_sipush F (v := (20000 : Int32)) dX11_blow_62 (by decide) ?_
            refine zz_bind ?_
            refine zz_callSr F (ρ := []) (so := fun q12 => [zi q12]) (Mo := fun q12 => [s0_1, s1]) (zfMO_in a6 (0 : Int32) (20000 : Int32)) dX11_blow_65 wcRX11_20 wy_yX11_in rfl ⟨rel14, rfl, rfl, Nat.le_of_ble_eq_true rfl, Nat.le_of_ble_eq_true rfl, Nat.le_of_ble_eq_true rfl⟩ rfl (fun _ => rfl) (fun _ => rfl) fun q12 => ?_
            refine zz_if_ne F (tgt := 77) dX11_blow_68 (by decide) (fun h => zz_f h ?_) (fun h => zz_t h ?_)
            · refine zz_aload_n F (i := 0) dX11_blow_77 rfl rfl ?_
              refine zz_getr F dX11_blow_78 wfRX11_10 zCl_10 rfl (⟨zlb rfl, zlb rfl, zlb rfl⟩) rfl (by decide) rfl (r' := 1) (by decide) ?_
              refine zz_iload_n F (i := 2) dX11_blow_81 rfl rfl ?_
              refine zz_put F (Ms' := [s0_1, (zu s1 0 0 11 a2)]) dX11_blow_82 wpRX11_77 zCl_9 rfl (⟨zlb rfl, zlb rfl, zlb rfl⟩) rfl (by decide) rfl rfl rfl ?_
              refine zz_letm (Mf := fun s1_13 => [s0_1, s1_13]) fun s1_13 => ?_
              refine zz_aload_n F (i := 0) dX11_blow_85 rfl rfl ?_
              refine zz_getr F dX11_blow_86 wfRX11_10 zCl_10 rfl (⟨zlb rfl, zlb rfl, zlb rfl⟩) rfl (by decide) rfl (r' := 1) (by decide) ?_
              refine zz_iload_n F (i := 3) dX11_blow_89 rfl rfl ?_
              refine zz_put F (Ms' := [s0_1, (zu s1_13 0 0 12 a3)]) dX11_blow_90 wpRX11_80 zCl_9 rfl (⟨zlb rfl, zlb rfl, zlb rfl⟩) rfl (by decide) rfl rfl rfl ?_
              refine zz_letm (Mf := fun s1_14 => [s0_1, s1_14]) fun s1_14 => ?_
              refine zz_aload_n F (i := 0) dX11_blow_93 rfl rfl ?_
              refine zz_getr F dX11_blow_94 wfRX11_10 zCl_10 rfl (⟨zlb rfl, zlb rfl, zlb rfl⟩) rfl (by decide) rfl (r' := 1) (by decide) ?_
              refine zz_iload F (i := 4) dX11_blow_97 rfl ?_
              refine zz_put F (Ms' := [s0_1, (zu s1_14 0 0 13 a4)]) dX11_blow_99 wpRX11_83 zCl_9 rfl (⟨zlb rfl, zlb rfl, zlb rfl⟩) rfl (by decide) rfl rfl rfl ?_
              refine zz_letm (Mf := fun s1_15 => [s0_1, s1_15]) fun s1_15 => ?_
              refine zz_aload_n F (i := 0) dX11_blow_102 rfl rfl ?_
              refine zz_getr F dX11_blow_103 wfRX11_10 zCl_10 rfl (⟨zlb rfl, zlb rfl, zlb rfl⟩) rfl (by decide) rfl (r' := 1) (by decide) ?_
              refine zz_iload F (i := 5) dX11_blow_106 rfl ?_
              refine zz_put F (Ms' := [s0_1, (zu s1_15 0 0 14 a5)]) dX11_blow_108 wpRX11_86 zCl_9 rfl (⟨zlb rfl, zlb rfl, zlb rfl⟩) rfl (by decide) rfl rfl rfl ?_
              refine zz_letm (Mf := fun s1_16 => [s0_1, s1_16]) fun s1_16 => ?_
              refine zz_aload_n F (i := 0) dX11_blow_111 rfl rfl ?_
              refine zz_getr F dX11_blow_112 wfRX11_10 zCl_10 rfl (⟨zlb rfl, zlb rfl, zlb rfl⟩) rfl (by decide) rfl (r' := 1) (by decide) ?_
              refine zz_iload F (i := 6) dX11_blow_115 rfl ?_
              refine zz_put F (Ms' := [s0_1, (zu s1_16 0 0 15 a6)]) dX11_blow_117 wpRX11_89 zCl_9 rfl (⟨zlb rfl, zlb rfl, zlb rfl⟩) rfl (by decide) rfl rfl rfl ?_
              refine zz_letm (Mf := fun s1_17 => [s0_1, s1_17]) fun s1_17 => ?_
              refine zz_aload_n F (i := 0) dX11_blow_120 rfl rfl ?_
              refine zz_getr F dX11_blow_121 wfRX11_10 zCl_10 rfl (⟨zlb rfl, zlb rfl, zlb rfl⟩) rfl (by decide) rfl (r' := 1) (by decide) ?_
              refine zz_iload_n F (i := 1) dX11_blow_124 rfl rfl ?_
              refine zz_bind ?_
              refine zz_callVr F (ρ := [1]) (so := fun q18 => [zi q18.1]) (Mo := fun q18 => [s0_1, q18.2]) (zfMS_run a1 s1_17) dX11_blow_125 wcRX11_92 wy_yX10_run rfl ⟨rel16, rfl, rfl, Nat.le_of_ble_eq_true rfl, Nat.le_of_ble_eq_true rfl, Nat.le_of_ble_eq_true rfl⟩ (⟨zlb rfl, zlb rfl, zlb rfl⟩) rfl rfl rfl (fun _ => rfl) (fun _ => rfl) fun q18 => ?_
              exact zz_ireturn F dX11_blow_128 rfl (hκ _)
            · refine zz_aload_n F (i := 0) dX11_blow_71 rfl rfl ?_
              refine zz_iconst F (v := (1 : Int32)) dX11_blow_72 (by decide) ?_
              refine zz_bind ?_
              refine zz_callVr F (ρ := [0, 1]) (so := fun q19 => [zi q19.1]) (Mo := fun q19 => [q19.2, s1]) (zfMO_no (1 : Int32) s0_1 s1) dX11_blow_73 wcRX11_40 wy_yX11_no rfl ⟨rel15, rfl, rfl, Nat.le_of_ble_eq_true rfl, Nat.le_of_ble_eq_true rfl, Nat.le_of_ble_eq_true rfl⟩ (⟨zlb rfl, zlb rfl, zlb rfl⟩) rfl rfl rfl (fun _ => rfl) (fun _ => rfl) fun q19 => ?_
              exact zz_ireturn F dX11_blow_76 rfl (hκ _)
theorem zfMO_blow (a1 : Int32) (a2 : Int32) (a3 : Int32) (a4 : Int32) (a5 : Int32) (a6 : Int32)  (s0 : zM) (s1 : zM) : ∀ a, fMO_blow a1 a2 a3 a4 a5 a6 s0 s1 = some a → zMet yX11_blow cX11_blow 7 (some .int) 6 156 [(4, [1]), (3, [])] [zr 0 0 0, zi a1, zi a2, zi a3, zi a4, zi a5, zi a6] [s0, s1] ((fun a => ((.inl ((fun q => some (zi q.1)) a), (fun q => [q.2.1, q.2.2]) a) : zO)) a) := fun a ha => zMet_of (L0 := [some (zr 0 0 0), some (zi a1), some (zi a2), some (zi a3), some (zi a4), some (zi a5), some (zi a6)]) (φ := Option.bind (fMO_blow a1 a2 a3 a4 a5 a6 s0 s1) (fun a => some ((fun a => ((.inl ((fun q => some (zi q.1)) a), (fun q => [q.2.1, q.2.2]) a) : zO)) a))) (by decide) (fun _ => Nat.le_of_ble_eq_true rfl) (zl0 0 rfl) (fun X F => bfMO_blow F a1 a2 a3 a4 a5 a6 s0 s1 (fun _ => rfl)) (by rw [ha]; rfl)

theorem dX11_turn_0 : decode cX11_turn 0 = .ok (.aload_n 0, 1) := by decide +kernel
theorem dX11_turn_1 : decode cX11_turn 1 = .ok (.iconst 0, 1) := by decide +kernel
theorem dX11_turn_2 : decode cX11_turn 2 = .ok (.putfield 16, 3) := by decide +kernel
theorem dX11_turn_5 : decode cX11_turn 5 = .ok (.aload_n 0, 1) := by decide +kernel
theorem dX11_turn_6 : decode cX11_turn 6 = .ok (.iload_n 1, 1) := by decide +kernel
theorem dX11_turn_7 : decode cX11_turn 7 = .ok (.invokevirtual 95, 3) := by decide +kernel
theorem dX11_turn_10 : decode cX11_turn 10 = .ok (.ifCond .ne 9, 3) := by decide +kernel
theorem dX11_turn_13 : decode cX11_turn 13 = .ok (.aload_n 0, 1) := by decide +kernel
theorem dX11_turn_14 : decode cX11_turn 14 = .ok (.iconst 1, 1) := by decide +kernel
theorem dX11_turn_15 : decode cX11_turn 15 = .ok (.invokevirtual 40, 3) := by decide +kernel
theorem dX11_turn_18 : decode cX11_turn 18 = .ok (.ireturn, 1) := by decide +kernel
theorem dX11_turn_19 : decode cX11_turn 19 = .ok (.iload_n 2, 1) := by decide +kernel
theorem dX11_turn_20 : decode cX11_turn 20 = .ok (.bipush (-2), 2) := by decide +kernel
theorem dX11_turn_22 : decode cX11_turn 22 = .ok (.iconst 2, 1) := by decide +kernel
theorem dX11_turn_23 : decode cX11_turn 23 = .ok (.invokestatic 20, 3) := by decide +kernel
theorem dX11_turn_26 : decode cX11_turn 26 = .ok (.ifCond .ne 9, 3) := by decide +kernel
theorem dX11_turn_29 : decode cX11_turn 29 = .ok (.aload_n 0, 1) := by decide +kernel
theorem dX11_turn_30 : decode cX11_turn 30 = .ok (.iconst 2, 1) := by decide +kernel
theorem dX11_turn_31 : decode cX11_turn 31 = .ok (.invokevirtual 40, 3) := by decide +kernel
theorem dX11_turn_34 : decode cX11_turn 34 = .ok (.ireturn, 1) := by decide +kernel
theorem dX11_turn_35 : decode cX11_turn 35 = .ok (.aload_n 0, 1) := by decide +kernel
theorem dX11_turn_36 : decode cX11_turn 36 = .ok (.getfield 10, 3) := by decide +kernel
theorem dX11_turn_39 : decode cX11_turn 39 = .ok (.getfield 36, 3) := by decide +kernel
theorem dX11_turn_42 : decode cX11_turn 42 = .ok (.iload_n 1, 1) := by decide +kernel
theorem dX11_turn_43 : decode cX11_turn 43 = .ok (.aaload, 1) := by decide +kernel
theorem dX11_turn_44 : decode cX11_turn 44 = .ok (.iconst 4, 1) := by decide +kernel
theorem dX11_turn_45 : decode cX11_turn 45 = .ok (.iaload, 1) := by decide +kernel
theorem dX11_turn_46 : decode cX11_turn 46 = .ok (.istore_n 3, 1) := by decide +kernel
theorem dX11_turn_47 : decode cX11_turn 47 = .ok (.aload_n 0, 1) := by decide +kernel
theorem dX11_turn_48 : decode cX11_turn 48 = .ok (.getfield 10, 3) := by decide +kernel
theorem dX11_turn_51 : decode cX11_turn 51 = .ok (.getfield 36, 3) := by decide +kernel
theorem dX11_turn_54 : decode cX11_turn 54 = .ok (.iload_n 1, 1) := by decide +kernel
theorem dX11_turn_55 : decode cX11_turn 55 = .ok (.aaload, 1) := by decide +kernel
theorem dX11_turn_56 : decode cX11_turn 56 = .ok (.iconst 4, 1) := by decide +kernel
theorem dX11_turn_57 : decode cX11_turn 57 = .ok (.iload_n 2, 1) := by decide +kernel
theorem dX11_turn_58 : decode cX11_turn 58 = .ok (.iastore, 1) := by decide +kernel
theorem dX11_turn_59 : decode cX11_turn 59 = .ok (.iload_n 3, 1) := by decide +kernel
theorem dX11_turn_60 : decode cX11_turn 60 = .ok (.ireturn, 1) := by decide +kernel
theorem wcRX11_95 : Cond.methodLink RX11 95 yX11_isTurbine ∈ zTg ∧ Cond.instanceMethod yX11_isTurbine ∈ zTg ∧ Cond.selects RX11 yX11_isTurbine yX11_isTurbine ∈ zTg ∧ Cond.initialized RX11 ∈ zTg ∧ Cond.code yX11_isTurbine cX11_isTurbine 2 (some .boolean) ∈ zTg := ⟨zm_f 1186 (by decide +kernel) rfl, zm_f 1188 (by decide +kernel) rfl, zm_f 29 (by decide +kernel) rfl, zm_f 46 (by decide +kernel) rfl, zm_f 1189 (by decide +kernel) rfl⟩
theorem wy_yX11_isTurbine : yX11_isTurbine.cls = RX11 ∧ yX11_isTurbine.cls ≠ "java/lang/invoke/MethodHandle" ∧ yX11_isTurbine.cls ≠ "java/lang/invoke/VarHandle" ∧ (parseMethodDescriptor yX11_isTurbine.desc).map (fun d => d.parameters.length) = some 1 := by decide +kernel
def fMO_turn (a1 : Int32) (a2 : Int32) (s0 : zM) (s1 : zM) : Option (Int32 × zM × zM) :=
  zlet (zu s0 0 0 0 (0 : Int32)) fun s0_1 =>
  Option.bind (fMO_isTurbine a1 s0_1 s1) fun q2 =>
  if q2 = 0 then
  Option.bind (fMO_no (1 : Int32) s0_1 s1) fun q11 =>
    some (q11.1, q11.2, s1)
else
  Option.bind (fMO_in a2 (-2 : Int32) (2 : Int32)) fun q3 =>
    if q3 = 0 then
    Option.bind (fMO_no (2 : Int32) s0_1 s1) fun q10 =>
      some (q10.1, q10.2, s1)
  else
    zix a1 8 fun j4 =>
      zix (4 : Int32) 23 fun j5 =>
      zlet ((s1 8 j4 j5)) fun v6 =>
      zix a1 8 fun j7 =>
      zix (4 : Int32) 23 fun j8 =>
      zlet (zu s1 8 j7 j8 a2) fun s1_9 =>
      some (v6, s0_1, s1_9)
set_option maxHeartbeats 4000000 in
set_option maxRecDepth 20000 in
theorem bfMO_turn {X : zX} (F : zFr X cX11_turn 4 RX11 (some .int)) (a1 : Int32) (a2 : Int32)  (s0 : zM) (s1 : zM) {κ : Int32 × zM × zM → Option zO} (hκ : ∀ a, κ a = some ((fun a => ((.inl ((fun q => some (zi q.1)) a), (fun q => [q.2.1, q.2.2]) a) : zO)) a)) : zZ X [(4, [1]), (3, [])] 2 43 4 0 [some (zr 0 0 0), some (zi a1), some (zi a2), none] [] [s0, s1] (Option.bind (fMO_turn a1 a2 s0 s1) κ) := by
  unfold fMO_turn
  refine zz_aload_n F (i := 0) dX11_turn_0 rfl rfl ?_
  refine zz_iconst F (v := (0 : Int32)) dX11_turn_1 (by decide) ?_
  refine zz_put F (Ms' := [(zu s0 0 0 0 (0 : Int32)), s1]) dX11_turn_2 wpRX11_16 zCl_10 rfl (⟨zlb rfl, zlb rfl, zlb rfl⟩) rfl (by decide) rfl rfl rfl ?_
  refine zz_letm (Mf := fun s0_1 => [s0_1, s1]) fun s0_1 => ?_
  refine zz_aload_n F (i := 0) dX11_turn_5 rfl rfl ?_
  refine zz_iload_n F (i := 1) dX11_turn_6 rfl rfl ?_
  refine zz_bind ?_
  refine zz_callVr F (ρ := [0, 1]) (so := fun q2 => [zi q2]) (Mo := fun q2 => [s0_1, s1]) (zfMO_isTurbine a1 s0_1 s1) dX11_turn_7 wcRX11_95 wy_yX11_isTurbine rfl ⟨rel15, rfl, rfl, Nat.le_of_ble_eq_true rfl, Nat.le_of_ble_eq_true rfl, Nat.le_of_ble_eq_true rfl⟩ (⟨zlb rfl, zlb rfl, zlb rfl⟩) rfl rfl rfl (fun _ => rfl) (fun _ => rfl) fun q2 => ?_
  refine zz_if_ne F (tgt := 19) dX11_turn_10 (by decide) (fun h => zz_f h ?_) (fun h => zz_t h ?_)
  · refine zz_iload_n F (i := 2) dX11_turn_19 rfl rfl ?_
    refine zz_bipush F (v := (-2 : Int32)) dX11_turn_20 (by decide) ?_
    refine zz_iconst F (v := (2 : Int32)) dX11_turn_22 (by decide) ?_
    refine zz_bind ?_
    refine zz_callSr F (ρ := []) (so := fun q3 => [zi q3]) (Mo := fun q3 => [s0_1, s1]) (zfMO_in a2 (-2 : Int32) (2 : Int32)) dX11_turn_23 wcRX11_20 wy_yX11_in rfl ⟨rel14, rfl, rfl, Nat.le_of_ble_eq_true rfl, Nat.le_of_ble_eq_true rfl, Nat.le_of_ble_eq_true rfl⟩ rfl (fun _ => rfl) (fun _ => rfl) fun q3 => ?_
    refine zz_if_ne F (tgt := 35) dX11_turn_26 (by decide) (fun h => zz_f h ?_) (fun h => zz_t h ?_)
    · refine zz_aload_n F (i := 0) dX11_turn_35 rfl rfl ?_
      refine zz_getr F dX11_turn_36 wfRX11_10 zCl_10 rfl (⟨zlb rfl, zlb rfl, zlb rfl⟩) rfl (by decide) rfl (r' := 1) (by decide) ?_
      refine zz_getr F dX11_turn_39 wfRX11_36 zCl_9 rfl (⟨zlb rfl, zlb rfl, zlb rfl⟩) rfl (by decide) rfl (r' := 1) (by decide) ?_
      refine zz_iload_n F (i := 1) dX11_turn_42 rfl rfl ?_
      refine zz_ix fun j4 hj4 hinj4 hej4 => zz_aal F dX11_turn_43 rfl (⟨zlb rfl, zlb rfl, zlb rfl⟩) rfl (by decide) rfl hinj4 hej4 rfl ?_
      refine zz_iconst F (v := (4 : Int32)) dX11_turn_44 (by decide) ?_
      refine zz_ix fun j5 hj5 hinj5 hej5 => zz_ial F dX11_turn_45 rfl (⟨zlb rfl, zlb rfl, hj4⟩) rfl hinj5 hej5 ?_
      refine zz_istore_n F (i := 3) (L' := [some (zr 0 0 0), some (zi a1), some (zi a2), some (zi (s1 8 j4 j5))]) dX11_turn_46 rfl (by decide) rfl rfl ?_
      refine zz_letl (Lf := fun v6 => [some (zr 0 0 0), some (zi a1), some (zi a2), some (zi v6)]) fun v6 => ?_
      refine zz_aload_n F (i := 0) dX11_turn_47 rfl rfl ?_
      refine zz_getr F dX11_turn_48 wfRX11_10 zCl_10 rfl (⟨zlb rfl, zlb rfl, zlb rfl⟩) rfl (by decide) rfl (r' := 1) (by decide) ?_
      refine zz_getr F dX11_turn_51 wfRX11_36 zCl_9 rfl (⟨zlb rfl, zlb rfl, zlb rfl⟩) rfl (by decide) rfl (r' := 1) (by decide) ?_
      refine zz_iload_n F (i := 1) dX11_turn_54 rfl rfl ?_
      refine zz_ix fun j7 hj7 hinj7 hej7 => zz_aal F dX11_turn_55 rfl (⟨zlb rfl, zlb rfl, zlb rfl⟩) rfl (by decide) rfl hinj7 hej7 rfl ?_
      refine zz_iconst F (v := (4 : Int32)) dX11_turn_56 (by decide) ?_
      refine zz_iload_n F (i := 2) dX11_turn_57 rfl rfl ?_
      refine zz_ix fun j8 hj8 hinj8 hej8 => zz_ias F (Ms' := [s0_1, (zu s1 8 j7 j8 a2)]) dX11_turn_58 rfl (⟨zlb rfl, zlb rfl, hj7⟩) rfl hinj8 hej8 rfl ?_
      refine zz_letm (Mf := fun s1_9 => [s0_1, s1_9]) fun s1_9 => ?_
      refine zz_iload_n F (i := 3) dX11_turn_59 rfl rfl ?_
      exact zz_ireturn F dX11_turn_60 rfl (hκ _)
    · refine zz_aload_n F (i := 0) dX11_turn_29 rfl rfl ?_
      refine zz_iconst F (v := (2 : Int32)) dX11_turn_30 (by decide) ?_
      refine zz_bind ?_
      refine zz_callVr F (ρ := [0, 1]) (so := fun q10 => [zi q10.1]) (Mo := fun q10 => [q10.2, s1]) (zfMO_no (2 : Int32) s0_1 s1) dX11_turn_31 wcRX11_40 wy_yX11_no rfl ⟨rel15, rfl, rfl, Nat.le_of_ble_eq_true rfl, Nat.le_of_ble_eq_true rfl, Nat.le_of_ble_eq_true rfl⟩ (⟨zlb rfl, zlb rfl, zlb rfl⟩) rfl rfl rfl (fun _ => rfl) (fun _ => rfl) fun q10 => ?_
      exact zz_ireturn F dX11_turn_34 rfl (hκ _)
  · refine zz_aload_n F (i := 0) dX11_turn_13 rfl rfl ?_
    refine zz_iconst F (v := (1 : Int32)) dX11_turn_14 (by decide) ?_
    refine zz_bind ?_
    refine zz_callVr F (ρ := [0, 1]) (so := fun q11 => [zi q11.1]) (Mo := fun q11 => [q11.2, s1]) (zfMO_no (1 : Int32) s0_1 s1) dX11_turn_15 wcRX11_40 wy_yX11_no rfl ⟨rel15, rfl, rfl, Nat.le_of_ble_eq_true rfl, Nat.le_of_ble_eq_true rfl, Nat.le_of_ble_eq_true rfl⟩ (⟨zlb rfl, zlb rfl, zlb rfl⟩) rfl rfl rfl (fun _ => rfl) (fun _ => rfl) fun q11 => ?_
    exact zz_ireturn F dX11_turn_18 rfl (hκ _)
theorem zfMO_turn (a1 : Int32) (a2 : Int32)  (s0 : zM) (s1 : zM) : ∀ a, fMO_turn a1 a2 s0 s1 = some a → zMet yX11_turn cX11_turn 4 (some .int) 2 43 [(4, [1]), (3, [])] [zr 0 0 0, zi a1, zi a2] [s0, s1] ((fun a => ((.inl ((fun q => some (zi q.1)) a), (fun q => [q.2.1, q.2.2]) a) : zO)) a) := fun a ha => zMet_of (L0 := [some (zr 0 0 0), some (zi a1), some (zi a2), none]) (φ := Option.bind (fMO_turn a1 a2 s0 s1) (fun a => some ((fun a => ((.inl ((fun q => some (zi q.1)) a), (fun q => [q.2.1, q.2.2]) a) : zO)) a))) (by decide) (fun _ => Nat.le_of_ble_eq_true rfl) (zl0 1 rfl) (fun X F => bfMO_turn F a1 a2 s0 s1 (fun _ => rfl)) (by rw [ha]; rfl)

theorem dX11_call_0 : decode cX11_call 0 = .ok (.aload_n 0, 1) := by decide +kernel
theorem dX11_call_1 : decode cX11_call 1 = .ok (.iconst 0, 1) := by decide +kernel
theorem dX11_call_2 : decode cX11_call 2 = .ok (.putfield 16, 3) := by decide +kernel
theorem dX11_call_5 : decode cX11_call 5 = .ok (.aload_n 0, 1) := by decide +kernel
theorem dX11_call_6 : decode cX11_call 6 = .ok (.iload_n 1, 1) := by decide +kernel
theorem dX11_call_7 : decode cX11_call 7 = .ok (.invokevirtual 95, 3) := by decide +kernel
theorem dX11_call_10 : decode cX11_call 10 = .ok (.ifCond .ne 9, 3) := by decide +kernel
theorem dX11_call_13 : decode cX11_call 13 = .ok (.aload_n 0, 1) := by decide +kernel
theorem dX11_call_14 : decode cX11_call 14 = .ok (.iconst 1, 1) := by decide +kernel
theorem dX11_call_15 : decode cX11_call 15 = .ok (.invokevirtual 40, 3) := by decide +kernel
theorem dX11_call_18 : decode cX11_call 18 = .ok (.ireturn, 1) := by decide +kernel
theorem dX11_call_19 : decode cX11_call 19 = .ok (.aload_n 0, 1) := by decide +kernel
theorem dX11_call_20 : decode cX11_call 20 = .ok (.getfield 10, 3) := by decide +kernel
theorem dX11_call_23 : decode cX11_call 23 = .ok (.getfield 36, 3) := by decide +kernel
theorem dX11_call_26 : decode cX11_call 26 = .ok (.iload_n 1, 1) := by decide +kernel
theorem dX11_call_27 : decode cX11_call 27 = .ok (.aaload, 1) := by decide +kernel
theorem dX11_call_28 : decode cX11_call 28 = .ok (.astore_n 3, 1) := by decide +kernel
theorem dX11_call_29 : decode cX11_call 29 = .ok (.aload_n 3, 1) := by decide +kernel
theorem dX11_call_30 : decode cX11_call 30 = .ok (.iconst 3, 1) := by decide +kernel
theorem dX11_call_31 : decode cX11_call 31 = .ok (.iaload, 1) := by decide +kernel
theorem dX11_call_32 : decode cX11_call 32 = .ok (.ifCond .ne 15, 3) := by decide +kernel
theorem dX11_call_35 : decode cX11_call 35 = .ok (.aload_n 3, 1) := by decide +kernel
theorem dX11_call_36 : decode cX11_call 36 = .ok (.bipush 10, 2) := by decide +kernel
theorem dX11_call_38 : decode cX11_call 38 = .ok (.iaload, 1) := by decide +kernel
theorem dX11_call_39 : decode cX11_call 39 = .ok (.iconst 1, 1) := by decide +kernel
theorem dX11_call_40 : decode cX11_call 40 = .ok (.if_icmp .ne 7, 3) := by decide +kernel
theorem dX11_call_43 : decode cX11_call 43 = .ok (.iconst 1, 1) := by decide +kernel
theorem dX11_call_44 : decode cX11_call 44 = .ok (.goto 4, 3) := by decide +kernel
theorem dX11_call_47 : decode cX11_call 47 = .ok (.iconst 0, 1) := by decide +kernel
theorem dX11_call_48 : decode cX11_call 48 = .ok (.istore 4, 2) := by decide +kernel
theorem dX11_call_50 : decode cX11_call 50 = .ok (.aload_n 3, 1) := by decide +kernel
theorem dX11_call_51 : decode cX11_call 51 = .ok (.iconst 3, 1) := by decide +kernel
theorem dX11_call_52 : decode cX11_call 52 = .ok (.iaload, 1) := by decide +kernel
theorem dX11_call_53 : decode cX11_call 53 = .ok (.iconst 2, 1) := by decide +kernel
theorem dX11_call_54 : decode cX11_call 54 = .ok (.if_icmp .gt 9, 3) := by decide +kernel
theorem dX11_call_57 : decode cX11_call 57 = .ok (.iload_n 2, 1) := by decide +kernel
theorem dX11_call_58 : decode cX11_call 58 = .ok (.iload 4, 2) := by decide +kernel
theorem dX11_call_60 : decode cX11_call 60 = .ok (.if_icmp .eq 9, 3) := by decide +kernel
theorem dX11_call_63 : decode cX11_call 63 = .ok (.aload_n 0, 1) := by decide +kernel
theorem dX11_call_64 : decode cX11_call 64 = .ok (.iconst 2, 1) := by decide +kernel
theorem dX11_call_65 : decode cX11_call 65 = .ok (.invokevirtual 40, 3) := by decide +kernel
theorem dX11_call_68 : decode cX11_call 68 = .ok (.ireturn, 1) := by decide +kernel
theorem dX11_call_69 : decode cX11_call 69 = .ok (.aload_n 3, 1) := by decide +kernel
theorem dX11_call_70 : decode cX11_call 70 = .ok (.iconst 3, 1) := by decide +kernel
theorem dX11_call_71 : decode cX11_call 71 = .ok (.iaload, 1) := by decide +kernel
theorem dX11_call_72 : decode cX11_call 72 = .ok (.istore 5, 2) := by decide +kernel
theorem dX11_call_74 : decode cX11_call 74 = .ok (.iload_n 2, 1) := by decide +kernel
theorem dX11_call_75 : decode cX11_call 75 = .ok (.ifCond .eq 10, 3) := by decide +kernel
theorem dX11_call_78 : decode cX11_call 78 = .ok (.aload_n 3, 1) := by decide +kernel
theorem dX11_call_79 : decode cX11_call 79 = .ok (.invokestatic 99, 3) := by decide +kernel
theorem dX11_call_82 : decode cX11_call 82 = .ok (.goto 8, 3) := by decide +kernel
theorem dX11_call_85 : decode cX11_call 85 = .ok (.aload_n 3, 1) := by decide +kernel
theorem dX11_call_86 : decode cX11_call 86 = .ok (.iconst 1, 1) := by decide +kernel
theorem dX11_call_87 : decode cX11_call 87 = .ok (.invokestatic 103, 3) := by decide +kernel
theorem dX11_call_90 : decode cX11_call 90 = .ok (.iload 5, 2) := by decide +kernel
theorem dX11_call_92 : decode cX11_call 92 = .ok (.ireturn, 1) := by decide +kernel
theorem wcRX11_103 : Cond.methodLinkNest RX11 103 yX10_stop "WakeBanksModel" ∈ zNws ∧ Cond.static yX10_stop ∈ zTg ∧ Cond.initialized yX10_stop.cls ∈ zTg ∧ Cond.code yX10_stop cX10_stop 2 none ∈ zTg := ⟨by decide +kernel, zm_f 1120 (by decide +kernel) rfl, zm_f 47 (by decide +kernel) rfl, zm_f 1121 (by decide +kernel) rfl⟩
theorem wcRX11_99 : Cond.methodLinkNest RX11 99 yX10_start "WakeBanksModel" ∈ zNws ∧ Cond.static yX10_start ∈ zTg ∧ Cond.initialized yX10_start.cls ∈ zTg ∧ Cond.code yX10_start cX10_start 1 none ∈ zTg := ⟨by decide +kernel, zm_f 1123 (by decide +kernel) rfl, zm_f 47 (by decide +kernel) rfl, zm_f 1124 (by decide +kernel) rfl⟩
def fMO_call (a1 : Int32) (a2 : Int32) (s0 : zM) (s1 : zM) : Option (Int32 × zM × zM) :=
  zlet (zu s0 0 0 0 (0 : Int32)) fun s0_1 =>
  Option.bind (fMO_isTurbine a1 s0_1 s1) fun q2 =>
  if q2 = 0 then
  Option.bind (fMO_no (1 : Int32) s0_1 s1) fun q21 =>
    some (q21.1, q21.2, s1)
else
  zix a1 8 fun j3 =>
    zix (3 : Int32) 23 fun j4 =>
    Option.bind (if (s1 8 j3 j4) = 0 then
    zix (10 : Int32) 23 fun j9 =>
      if (s1 8 j3 j9) = (1 : Int32) then
      some (1 : Int32)
    else
      some (0 : Int32)
  else
    some (0 : Int32)) fun q5 =>
    zix (3 : Int32) 23 fun j10 =>
    if (2 : Int32) < (s1 8 j3 j10) then
    Option.bind (fMO_no (2 : Int32) s0_1 s1) fun q11 =>
      some (q11.1, q11.2, s1)
  else
    if a2 = q5 then
      zix (3 : Int32) 23 fun j12 =>
        zlet ((s1 8 j3 j12)) fun v13 =>
        Option.bind (if a2 = 0 then
        Option.bind (fMS_stop j3 (1 : Int32) s1) fun q18 =>
          some q18
      else
        Option.bind (fMS_start j3 s1) fun q19 =>
          some q19) fun q14 =>
        some (v13, s0_1, q14)
    else
      Option.bind (fMO_no (2 : Int32) s0_1 s1) fun q20 =>
        some (q20.1, q20.2, s1)
set_option maxHeartbeats 4000000 in
set_option maxRecDepth 20000 in
theorem bfMO_call {X : zX} (F : zFr X cX11_call 6 RX11 (some .int)) (a1 : Int32) (a2 : Int32)  (s0 : zM) (s1 : zM) {κ : Int32 × zM × zM → Option zO} (hκ : ∀ a, κ a = some ((fun a => ((.inl ((fun q => some (zi q.1)) a), (fun q => [q.2.1, q.2.2]) a) : zO)) a)) : zZ X [(4, [1]), (3, [])] 2 43 6 0 [some (zr 0 0 0), some (zi a1), some (zi a2), none, none, none] [] [s0, s1] (Option.bind (fMO_call a1 a2 s0 s1) κ) := by
  unfold fMO_call
  refine zz_aload_n F (i := 0) dX11_call_0 rfl rfl ?_
  refine zz_iconst F (v := (0 : Int32)) dX11_call_1 (by decide) ?_
  refine zz_put F (Ms' := [(zu s0 0 0 0 (0 : Int32)), s1]) dX11_call_2 wpRX11_16 zCl_10 rfl (⟨zlb rfl, zlb rfl, zlb rfl⟩) rfl (by decide) rfl rfl rfl ?_
  refine zz_letm (Mf := fun s0_1 => [s0_1, s1]) fun s0_1 => ?_
  refine zz_aload_n F (i := 0) dX11_call_5 rfl rfl ?_
  refine zz_iload_n F (i := 1) dX11_call_6 rfl rfl ?_
  refine zz_bind ?_
  refine zz_callVr F (ρ := [0, 1]) (so := fun q2 => [zi q2]) (Mo := fun q2 => [s0_1, s1]) (zfMO_isTurbine a1 s0_1 s1) dX11_call_7 wcRX11_95 wy_yX11_isTurbine rfl ⟨rel15, rfl, rfl, Nat.le_of_ble_eq_true rfl, Nat.le_of_ble_eq_true rfl, Nat.le_of_ble_eq_true rfl⟩ (⟨zlb rfl, zlb rfl, zlb rfl⟩) rfl rfl rfl (fun _ => rfl) (fun _ => rfl) fun q2 => ?_
  refine zz_if_ne F (tgt := 19) dX11_call_10 (by decide) (fun h => zz_f h ?_) (fun h => zz_t h ?_)
  · refine zz_aload_n F (i := 0) dX11_call_19 rfl rfl ?_
    refine zz_getr F dX11_call_20 wfRX11_10 zCl_10 rfl (⟨zlb rfl, zlb rfl, zlb rfl⟩) rfl (by decide) rfl (r' := 1) (by decide) ?_
    refine zz_getr F dX11_call_23 wfRX11_36 zCl_9 rfl (⟨zlb rfl, zlb rfl, zlb rfl⟩) rfl (by decide) rfl (r' := 1) (by decide) ?_
    refine zz_iload_n F (i := 1) dX11_call_26 rfl rfl ?_
    refine zz_ix fun j3 hj3 hinj3 hej3 => zz_aal F dX11_call_27 rfl (⟨zlb rfl, zlb rfl, zlb rfl⟩) rfl (by decide) rfl hinj3 hej3 rfl ?_
    refine zz_astore_n F (i := 3) (L' := [some (zr 0 0 0), some (zi a1), some (zi a2), some (zr 1 8 j3), none, none]) dX11_call_28 rfl (by decide) rfl rfl ?_
    refine zz_aload_n F (i := 3) dX11_call_29 rfl rfl ?_
    refine zz_iconst F (v := (3 : Int32)) dX11_call_30 (by decide) ?_
    refine zz_ix fun j4 hj4 hinj4 hej4 => zz_ial F dX11_call_31 rfl (⟨zlb rfl, zlb rfl, hj3⟩) rfl hinj4 hej4 ?_
    refine zz_join (pj := 48) (Lj := fun q5 => [some (zr 0 0 0), none, some (zi a2), some (zr 1 8 j3), none, none]) (Sj := fun q5 => [zi q5]) (Mj := fun q5 => [s0_1, s1]) (fun q5 => ?_) (fun κ7 hj6 => ?_)
    · refine zz_istore F (i := 4) (L' := [some (zr 0 0 0), none, some (zi a2), some (zr 1 8 j3), some (zi q5), none]) dX11_call_48 (by decide) rfl rfl ?_
      refine zz_aload_n F (i := 3) dX11_call_50 rfl rfl ?_
      refine zz_iconst F (v := (3 : Int32)) dX11_call_51 (by decide) ?_
      refine zz_ix fun j10 hj10 hinj10 hej10 => zz_ial F dX11_call_52 rfl (⟨zlb rfl, zlb rfl, hj3⟩) rfl hinj10 hej10 ?_
      refine zz_iconst F (v := (2 : Int32)) dX11_call_53 (by decide) ?_
      refine zz_icmp_gt F (tgt := 63) dX11_call_54 (by decide) (fun h => zz_t h ?_) (fun h => zz_f h ?_)
      · refine zz_aload_n F (i := 0) dX11_call_63 rfl rfl ?_
        refine zz_iconst F (v := (2 : Int32)) dX11_call_64 (by decide) ?_
        refine zz_bind ?_
        refine zz_callVr F (ρ := [0, 1]) (so := fun q11 => [zi q11.1]) (Mo := fun q11 => [q11.2, s1]) (zfMO_no (2 : Int32) s0_1 s1) dX11_call_65 wcRX11_40 wy_yX11_no rfl ⟨rel15, rfl, rfl, Nat.le_of_ble_eq_true rfl, Nat.le_of_ble_eq_true rfl, Nat.le_of_ble_eq_true rfl⟩ (⟨zlb rfl, zlb rfl, zlb rfl⟩) rfl rfl rfl (fun _ => rfl) (fun _ => rfl) fun q11 => ?_
        exact zz_ireturn F dX11_call_68 rfl (hκ _)
      · refine zz_iload_n F (i := 2) dX11_call_57 rfl rfl ?_
        refine zz_iload F (i := 4) dX11_call_58 rfl ?_
        refine zz_icmp_eq F (tgt := 69) dX11_call_60 (by decide) (fun h => zz_t h ?_) (fun h => zz_f h ?_)
        · refine zz_aload_n F (i := 3) dX11_call_69 rfl rfl ?_
          refine zz_iconst F (v := (3 : Int32)) dX11_call_70 (by decide) ?_
          refine zz_ix fun j12 hj12 hinj12 hej12 => zz_ial F dX11_call_71 rfl (⟨zlb rfl, zlb rfl, hj3⟩) rfl hinj12 hej12 ?_
          refine zz_istore F (i := 5) (L' := [some (zr 0 0 0), none, some (zi a2), some (zr 1 8 j3), some (zi q5), some (zi (s1 8 j3 j12))]) dX11_call_72 (by decide) rfl rfl ?_
          refine zz_letl (Lf := fun v13 => [some (zr 0 0 0), none, some (zi a2), some (zr 1 8 j3), some (zi q5), some (zi v13)]) fun v13 => ?_
          refine zz_iload_n F (i := 2) dX11_call_74 rfl rfl ?_
          refine zz_join (pj := 90) (Lj := fun q14 => [none, none, none, none, none, some (zi v13)]) (Sj := fun q14 => []) (Mj := fun q14 => [s0_1, q14]) (fun q14 => ?_) (fun κ16 hj15 => ?_)
          · refine zz_iload F (i := 5) dX11_call_90 rfl ?_
            exact zz_ireturn F dX11_call_92 rfl (hκ _)
          · refine zz_if_eq F (tgt := 85) dX11_call_75 (by decide) (fun h => zz_t h ?_) (fun h => zz_f h ?_)
            · refine zz_aload_n F (i := 3) dX11_call_85 rfl rfl ?_
              refine zz_iconst F (v := (1 : Int32)) dX11_call_86 (by decide) ?_
              refine zz_bind ?_
              refine zz_callSNr F (ρ := [1]) (so := fun q18 => []) (Mo := fun q18 => [s0_1, q18]) (zfMS_stop j3 (1 : Int32) hj3 s1) dX11_call_87 wcRX11_103 wy_yX10_stop rfl ⟨rel16, rfl, rfl, Nat.le_of_ble_eq_true rfl, Nat.le_of_ble_eq_true rfl, Nat.le_of_ble_eq_true rfl⟩ rfl (fun _ => rfl) (fun _ => rfl) fun q18 => ?_
              exact zz_sub (zs_n (zs_k (zs_n (zs_n (zs_n (zs_k zs_z)))))) (hj15 q18)
            · refine zz_aload_n F (i := 3) dX11_call_78 rfl rfl ?_
              refine zz_bind ?_
              refine zz_callSNr F (ρ := [1]) (so := fun q19 => []) (Mo := fun q19 => [s0_1, q19]) (zfMS_start j3 hj3 s1) dX11_call_79 wcRX11_99 wy_yX10_start rfl ⟨rel16, rfl, rfl, Nat.le_of_ble_eq_true rfl, Nat.le_of_ble_eq_true rfl, Nat.le_of_ble_eq_true rfl⟩ rfl (fun _ => rfl) (fun _ => rfl) fun q19 => ?_
              refine zz_goto F (tgt := 90) dX11_call_82 (by decide) ?_
              exact zz_sub (zs_n (zs_k (zs_n (zs_n (zs_n (zs_k zs_z)))))) (hj15 q19)
        · refine zz_aload_n F (i := 0) dX11_call_63 rfl rfl ?_
          refine zz_iconst F (v := (2 : Int32)) dX11_call_64 (by decide) ?_
          refine zz_bind ?_
          refine zz_callVr F (ρ := [0, 1]) (so := fun q20 => [zi q20.1]) (Mo := fun q20 => [q20.2, s1]) (zfMO_no (2 : Int32) s0_1 s1) dX11_call_65 wcRX11_40 wy_yX11_no rfl ⟨rel15, rfl, rfl, Nat.le_of_ble_eq_true rfl, Nat.le_of_ble_eq_true rfl, Nat.le_of_ble_eq_true rfl⟩ (⟨zlb rfl, zlb rfl, zlb rfl⟩) rfl rfl rfl (fun _ => rfl) (fun _ => rfl) fun q20 => ?_
          exact zz_ireturn F dX11_call_68 rfl (hκ _)
    · refine zz_if_ne F (tgt := 47) dX11_call_32 (by decide) (fun h => zz_f h ?_) (fun h => zz_t h ?_)
      · refine zz_iconst F (v := (0 : Int32)) dX11_call_47 (by decide) ?_
        exact zz_sub (zs_k (zs_n (zs_k (zs_k (zs_k (zs_k zs_z)))))) (hj6 (0 : Int32))
      · refine zz_aload_n F (i := 3) dX11_call_35 rfl rfl ?_
        refine zz_bipush F (v := (10 : Int32)) dX11_call_36 (by decide) ?_
        refine zz_ix fun j9 hj9 hinj9 hej9 => zz_ial F dX11_call_38 rfl (⟨zlb rfl, zlb rfl, hj3⟩) rfl hinj9 hej9 ?_
        refine zz_iconst F (v := (1 : Int32)) dX11_call_39 (by decide) ?_
        refine zz_icmp_ne F (tgt := 47) dX11_call_40 (by decide) (fun h => zz_f h ?_) (fun h => zz_t h ?_)
        · refine zz_iconst F (v := (0 : Int32)) dX11_call_47 (by decide) ?_
          exact zz_sub (zs_k (zs_n (zs_k (zs_k (zs_k (zs_k zs_z)))))) (hj6 (0 : Int32))
        · refine zz_iconst F (v := (1 : Int32)) dX11_call_43 (by decide) ?_
          refine zz_goto F (tgt := 48) dX11_call_44 (by decide) ?_
          exact zz_sub (zs_k (zs_n (zs_k (zs_k (zs_k (zs_k zs_z)))))) (hj6 (1 : Int32))
  · refine zz_aload_n F (i := 0) dX11_call_13 rfl rfl ?_
    refine zz_iconst F (v := (1 : Int32)) dX11_call_14 (by decide) ?_
    refine zz_bind ?_
    refine zz_callVr F (ρ := [0, 1]) (so := fun q21 => [zi q21.1]) (Mo := fun q21 => [q21.2, s1]) (zfMO_no (1 : Int32) s0_1 s1) dX11_call_15 wcRX11_40 wy_yX11_no rfl ⟨rel15, rfl, rfl, Nat.le_of_ble_eq_true rfl, Nat.le_of_ble_eq_true rfl, Nat.le_of_ble_eq_true rfl⟩ (⟨zlb rfl, zlb rfl, zlb rfl⟩) rfl rfl rfl (fun _ => rfl) (fun _ => rfl) fun q21 => ?_
    exact zz_ireturn F dX11_call_18 rfl (hκ _)
theorem zfMO_call (a1 : Int32) (a2 : Int32)  (s0 : zM) (s1 : zM) : ∀ a, fMO_call a1 a2 s0 s1 = some a → zMet yX11_call cX11_call 6 (some .int) 2 43 [(4, [1]), (3, [])] [zr 0 0 0, zi a1, zi a2] [s0, s1] ((fun a => ((.inl ((fun q => some (zi q.1)) a), (fun q => [q.2.1, q.2.2]) a) : zO)) a) := fun a ha => zMet_of (L0 := [some (zr 0 0 0), some (zi a1), some (zi a2), none, none, none]) (φ := Option.bind (fMO_call a1 a2 s0 s1) (fun a => some ((fun a => ((.inl ((fun q => some (zi q.1)) a), (fun q => [q.2.1, q.2.2]) a) : zO)) a))) (by decide) (fun _ => Nat.le_of_ble_eq_true rfl) (zl0 3 rfl) (fun X F => bfMO_call F a1 a2 s0 s1 (fun _ => rfl)) (by rw [ha]; rfl)

theorem dX11_floor_0 : decode cX11_floor 0 = .ok (.aload_n 0, 1) := by decide +kernel
theorem dX11_floor_1 : decode cX11_floor 1 = .ok (.iconst 0, 1) := by decide +kernel
theorem dX11_floor_2 : decode cX11_floor 2 = .ok (.putfield 16, 3) := by decide +kernel
theorem dX11_floor_5 : decode cX11_floor 5 = .ok (.iload_n 1, 1) := by decide +kernel
theorem dX11_floor_6 : decode cX11_floor 6 = .ok (.bipush (-51), 2) := by decide +kernel
theorem dX11_floor_8 : decode cX11_floor 8 = .ok (.bipush 50, 2) := by decide +kernel
theorem dX11_floor_10 : decode cX11_floor 10 = .ok (.invokestatic 20, 3) := by decide +kernel
theorem dX11_floor_13 : decode cX11_floor 13 = .ok (.ifCond .ne 9, 3) := by decide +kernel
theorem dX11_floor_16 : decode cX11_floor 16 = .ok (.aload_n 0, 1) := by decide +kernel
theorem dX11_floor_17 : decode cX11_floor 17 = .ok (.iconst 1, 1) := by decide +kernel
theorem dX11_floor_18 : decode cX11_floor 18 = .ok (.invokevirtual 40, 3) := by decide +kernel
theorem dX11_floor_21 : decode cX11_floor 21 = .ok (.ireturn, 1) := by decide +kernel
theorem dX11_floor_22 : decode cX11_floor 22 = .ok (.aload_n 0, 1) := by decide +kernel
theorem dX11_floor_23 : decode cX11_floor 23 = .ok (.getfield 10, 3) := by decide +kernel
theorem dX11_floor_26 : decode cX11_floor 26 = .ok (.getfield 107, 3) := by decide +kernel
theorem dX11_floor_29 : decode cX11_floor 29 = .ok (.istore_n 2, 1) := by decide +kernel
theorem dX11_floor_30 : decode cX11_floor 30 = .ok (.aload_n 0, 1) := by decide +kernel
theorem dX11_floor_31 : decode cX11_floor 31 = .ok (.getfield 10, 3) := by decide +kernel
theorem dX11_floor_34 : decode cX11_floor 34 = .ok (.iload_n 1, 1) := by decide +kernel
theorem dX11_floor_35 : decode cX11_floor 35 = .ok (.putfield 107, 3) := by decide +kernel
theorem dX11_floor_38 : decode cX11_floor 38 = .ok (.iload_n 2, 1) := by decide +kernel
theorem dX11_floor_39 : decode cX11_floor 39 = .ok (.ireturn, 1) := by decide +kernel
theorem wfRX11_107 : zFl RX11 107 9 16 := ⟨_, rfl, by decide, zm_f 1000 (by decide +kernel) rfl⟩
theorem wpRX11_107 : zFw RX11 107 9 16 .int := ⟨_, rfl, by decide, zm_f 1000 (by decide +kernel) rfl, rfl, by decide +kernel⟩
def fMO_floor (a1 : Int32) (s0 : zM) (s1 : zM) : Option (Int32 × zM × zM) :=
  zlet (zu s0 0 0 0 (0 : Int32)) fun s0_1 =>
  Option.bind (fMO_in a1 (-51 : Int32) (50 : Int32)) fun q2 =>
  if q2 = 0 then
  Option.bind (fMO_no (1 : Int32) s0_1 s1) fun q5 =>
    some (q5.1, q5.2, s1)
else
  zlet ((s1 0 0 16)) fun v3 =>
    zlet (zu s1 0 0 16 a1) fun s1_4 =>
    some (v3, s0_1, s1_4)
set_option maxHeartbeats 4000000 in
set_option maxRecDepth 20000 in
theorem bfMO_floor {X : zX} (F : zFr X cX11_floor 3 RX11 (some .int)) (a1 : Int32)  (s0 : zM) (s1 : zM) {κ : Int32 × zM × zM → Option zO} (hκ : ∀ a, κ a = some ((fun a => ((.inl ((fun q => some (zi q.1)) a), (fun q => [q.2.1, q.2.2]) a) : zO)) a)) : zZ X [(4, [1]), (3, [])] 1 22 3 0 [some (zr 0 0 0), some (zi a1), none] [] [s0, s1] (Option.bind (fMO_floor a1 s0 s1) κ) := by
  unfold fMO_floor
  refine zz_aload_n F (i := 0) dX11_floor_0 rfl rfl ?_
  refine zz_iconst F (v := (0 : Int32)) dX11_floor_1 (by decide) ?_
  refine zz_put F (Ms' := [(zu s0 0 0 0 (0 : Int32)), s1]) dX11_floor_2 wpRX11_16 zCl_10 rfl (⟨zlb rfl, zlb rfl, zlb rfl⟩) rfl (by decide) rfl rfl rfl ?_
  refine zz_letm (Mf := fun s0_1 => [s0_1, s1]) fun s0_1 => ?_
  refine zz_iload_n F (i := 1) dX11_floor_5 rfl rfl ?_
  refine zz_bipush F (v := (-51 : Int32)) dX11_floor_6 (by decide) ?_
  refine zz_bipush F (v := (50 : Int32)) dX11_floor_8 (by decide) ?_
  refine zz_bind ?_
  refine zz_callSr F (ρ := []) (so := fun q2 => [zi q2]) (Mo := fun q2 => [s0_1, s1]) (zfMO_in a1 (-51 : Int32) (50 : Int32)) dX11_floor_10 wcRX11_20 wy_yX11_in rfl ⟨rel14, rfl, rfl, Nat.le_of_ble_eq_true rfl, Nat.le_of_ble_eq_true rfl, Nat.le_of_ble_eq_true rfl⟩ rfl (fun _ => rfl) (fun _ => rfl) fun q2 => ?_
  refine zz_if_ne F (tgt := 22) dX11_floor_13 (by decide) (fun h => zz_f h ?_) (fun h => zz_t h ?_)
  · refine zz_aload_n F (i := 0) dX11_floor_22 rfl rfl ?_
    refine zz_getr F dX11_floor_23 wfRX11_10 zCl_10 rfl (⟨zlb rfl, zlb rfl, zlb rfl⟩) rfl (by decide) rfl (r' := 1) (by decide) ?_
    refine zz_getf F dX11_floor_26 wfRX11_107 zCl_9 rfl (⟨zlb rfl, zlb rfl, zlb rfl⟩) rfl (by decide) rfl rfl ?_
    refine zz_istore_n F (i := 2) (L' := [some (zr 0 0 0), some (zi a1), some (zi (s1 0 0 16))]) dX11_floor_29 rfl (by decide) rfl rfl ?_
    refine zz_letl (Lf := fun v3 => [some (zr 0 0 0), some (zi a1), some (zi v3)]) fun v3 => ?_
    refine zz_aload_n F (i := 0) dX11_floor_30 rfl rfl ?_
    refine zz_getr F dX11_floor_31 wfRX11_10 zCl_10 rfl (⟨zlb rfl, zlb rfl, zlb rfl⟩) rfl (by decide) rfl (r' := 1) (by decide) ?_
    refine zz_iload_n F (i := 1) dX11_floor_34 rfl rfl ?_
    refine zz_put F (Ms' := [s0_1, (zu s1 0 0 16 a1)]) dX11_floor_35 wpRX11_107 zCl_9 rfl (⟨zlb rfl, zlb rfl, zlb rfl⟩) rfl (by decide) rfl rfl rfl ?_
    refine zz_letm (Mf := fun s1_4 => [s0_1, s1_4]) fun s1_4 => ?_
    refine zz_iload_n F (i := 2) dX11_floor_38 rfl rfl ?_
    exact zz_ireturn F dX11_floor_39 rfl (hκ _)
  · refine zz_aload_n F (i := 0) dX11_floor_16 rfl rfl ?_
    refine zz_iconst F (v := (1 : Int32)) dX11_floor_17 (by decide) ?_
    refine zz_bind ?_
    refine zz_callVr F (ρ := [0, 1]) (so := fun q5 => [zi q5.1]) (Mo := fun q5 => [q5.2, s1]) (zfMO_no (1 : Int32) s0_1 s1) dX11_floor_18 wcRX11_40 wy_yX11_no rfl ⟨rel15, rfl, rfl, Nat.le_of_ble_eq_true rfl, Nat.le_of_ble_eq_true rfl, Nat.le_of_ble_eq_true rfl⟩ (⟨zlb rfl, zlb rfl, zlb rfl⟩) rfl rfl rfl (fun _ => rfl) (fun _ => rfl) fun q5 => ?_
    exact zz_ireturn F dX11_floor_21 rfl (hκ _)
theorem zfMO_floor (a1 : Int32)  (s0 : zM) (s1 : zM) : ∀ a, fMO_floor a1 s0 s1 = some a → zMet yX11_floor cX11_floor 3 (some .int) 1 22 [(4, [1]), (3, [])] [zr 0 0 0, zi a1] [s0, s1] ((fun a => ((.inl ((fun q => some (zi q.1)) a), (fun q => [q.2.1, q.2.2]) a) : zO)) a) := fun a ha => zMet_of (L0 := [some (zr 0 0 0), some (zi a1), none]) (φ := Option.bind (fMO_floor a1 s0 s1) (fun a => some ((fun a => ((.inl ((fun q => some (zi q.1)) a), (fun q => [q.2.1, q.2.2]) a) : zO)) a))) (by decide) (fun _ => Nat.le_of_ble_eq_true rfl) (zl0 1 rfl) (fun X F => bfMO_floor F a1 s0 s1 (fun _ => rfl)) (by rw [ha]; rfl)

theorem dX11_sail_0 : decode cX11_sail 0 = .ok (.aload_n 0, 1) := by decide +kernel
theorem dX11_sail_1 : decode cX11_sail 1 = .ok (.iconst 0, 1) := by decide +kernel
theorem dX11_sail_2 : decode cX11_sail 2 = .ok (.putfield 16, 3) := by decide +kernel
theorem dX11_sail_5 : decode cX11_sail 5 = .ok (.aload_n 0, 1) := by decide +kernel
theorem dX11_sail_6 : decode cX11_sail 6 = .ok (.iload_n 1, 1) := by decide +kernel
theorem dX11_sail_7 : decode cX11_sail 7 = .ok (.invokevirtual 110, 3) := by decide +kernel
theorem dX11_sail_10 : decode cX11_sail 10 = .ok (.ifCond .eq 16, 3) := by decide +kernel
theorem dX11_sail_13 : decode cX11_sail 13 = .ok (.iload_n 2, 1) := by decide +kernel
theorem dX11_sail_14 : decode cX11_sail 14 = .ok (.iconst (-1), 1) := by decide +kernel
theorem dX11_sail_15 : decode cX11_sail 15 = .ok (.if_icmp .eq 17, 3) := by decide +kernel
theorem dX11_sail_18 : decode cX11_sail 18 = .ok (.aload_n 0, 1) := by decide +kernel
theorem dX11_sail_19 : decode cX11_sail 19 = .ok (.iload_n 2, 1) := by decide +kernel
theorem dX11_sail_20 : decode cX11_sail 20 = .ok (.invokevirtual 95, 3) := by decide +kernel
theorem dX11_sail_23 : decode cX11_sail 23 = .ok (.ifCond .ne 9, 3) := by decide +kernel
theorem dX11_sail_26 : decode cX11_sail 26 = .ok (.aload_n 0, 1) := by decide +kernel
theorem dX11_sail_27 : decode cX11_sail 27 = .ok (.iconst 1, 1) := by decide +kernel
theorem dX11_sail_28 : decode cX11_sail 28 = .ok (.invokevirtual 40, 3) := by decide +kernel
theorem dX11_sail_31 : decode cX11_sail 31 = .ok (.ireturn, 1) := by decide +kernel
theorem dX11_sail_32 : decode cX11_sail 32 = .ok (.aload_n 0, 1) := by decide +kernel
theorem dX11_sail_33 : decode cX11_sail 33 = .ok (.getfield 10, 3) := by decide +kernel
theorem dX11_sail_36 : decode cX11_sail 36 = .ok (.getfield 54, 3) := by decide +kernel
theorem dX11_sail_39 : decode cX11_sail 39 = .ok (.iload_n 1, 1) := by decide +kernel
theorem dX11_sail_40 : decode cX11_sail 40 = .ok (.aaload, 1) := by decide +kernel
theorem dX11_sail_41 : decode cX11_sail 41 = .ok (.astore_n 3, 1) := by decide +kernel
theorem dX11_sail_42 : decode cX11_sail 42 = .ok (.iconst 0, 1) := by decide +kernel
theorem dX11_sail_43 : decode cX11_sail 43 = .ok (.istore 4, 2) := by decide +kernel
theorem dX11_sail_45 : decode cX11_sail 45 = .ok (.iconst 0, 1) := by decide +kernel
theorem dX11_sail_46 : decode cX11_sail 46 = .ok (.istore 5, 2) := by decide +kernel
theorem dX11_sail_48 : decode cX11_sail 48 = .ok (.iload 5, 2) := by decide +kernel
theorem dX11_sail_50 : decode cX11_sail 50 = .ok (.aload_n 0, 1) := by decide +kernel
theorem dX11_sail_51 : decode cX11_sail 51 = .ok (.getfield 10, 3) := by decide +kernel
theorem dX11_sail_54 : decode cX11_sail 54 = .ok (.getfield 33, 3) := by decide +kernel
theorem dX11_sail_57 : decode cX11_sail 57 = .ok (.if_icmp .ge 46, 3) := by decide +kernel
theorem dX11_sail_60 : decode cX11_sail 60 = .ok (.iload 4, 2) := by decide +kernel
theorem dX11_sail_62 : decode cX11_sail 62 = .ok (.iload 5, 2) := by decide +kernel
theorem dX11_sail_64 : decode cX11_sail 64 = .ok (.iload_n 1, 1) := by decide +kernel
theorem dX11_sail_65 : decode cX11_sail 65 = .ok (.if_icmp .eq 28, 3) := by decide +kernel
theorem dX11_sail_68 : decode cX11_sail 68 = .ok (.iload_n 2, 1) := by decide +kernel
theorem dX11_sail_69 : decode cX11_sail 69 = .ok (.iconst (-1), 1) := by decide +kernel
theorem dX11_sail_70 : decode cX11_sail 70 = .ok (.if_icmp .eq 23, 3) := by decide +kernel
theorem dX11_sail_73 : decode cX11_sail 73 = .ok (.aload_n 0, 1) := by decide +kernel
theorem dX11_sail_74 : decode cX11_sail 74 = .ok (.getfield 10, 3) := by decide +kernel
theorem dX11_sail_77 : decode cX11_sail 77 = .ok (.getfield 54, 3) := by decide +kernel
theorem dX11_sail_80 : decode cX11_sail 80 = .ok (.iload 5, 2) := by decide +kernel
theorem dX11_sail_82 : decode cX11_sail 82 = .ok (.aaload, 1) := by decide +kernel
theorem dX11_sail_83 : decode cX11_sail 83 = .ok (.iconst 1, 1) := by decide +kernel
theorem dX11_sail_84 : decode cX11_sail 84 = .ok (.iaload, 1) := by decide +kernel
theorem dX11_sail_85 : decode cX11_sail 85 = .ok (.iload_n 2, 1) := by decide +kernel
theorem dX11_sail_86 : decode cX11_sail 86 = .ok (.if_icmp .ne 7, 3) := by decide +kernel
theorem dX11_sail_89 : decode cX11_sail 89 = .ok (.iconst 1, 1) := by decide +kernel
theorem dX11_sail_90 : decode cX11_sail 90 = .ok (.goto 4, 3) := by decide +kernel
theorem dX11_sail_93 : decode cX11_sail 93 = .ok (.iconst 0, 1) := by decide +kernel
theorem dX11_sail_94 : decode cX11_sail 94 = .ok (.ior, 1) := by decide +kernel
theorem dX11_sail_95 : decode cX11_sail 95 = .ok (.istore 4, 2) := by decide +kernel
theorem dX11_sail_97 : decode cX11_sail 97 = .ok (.iinc 5 1, 3) := by decide +kernel
theorem dX11_sail_100 : decode cX11_sail 100 = .ok (.goto (-52), 3) := by decide +kernel
theorem dX11_sail_103 : decode cX11_sail 103 = .ok (.aload_n 3, 1) := by decide +kernel
theorem dX11_sail_104 : decode cX11_sail 104 = .ok (.iconst 2, 1) := by decide +kernel
theorem dX11_sail_105 : decode cX11_sail 105 = .ok (.iaload, 1) := by decide +kernel
theorem dX11_sail_106 : decode cX11_sail 106 = .ok (.iconst 1, 1) := by decide +kernel
theorem dX11_sail_107 : decode cX11_sail 107 = .ok (.if_icmp .eq 8, 3) := by decide +kernel
theorem dX11_sail_110 : decode cX11_sail 110 = .ok (.iload 4, 2) := by decide +kernel
theorem dX11_sail_112 : decode cX11_sail 112 = .ok (.ifCond .eq 9, 3) := by decide +kernel
theorem dX11_sail_115 : decode cX11_sail 115 = .ok (.aload_n 0, 1) := by decide +kernel
theorem dX11_sail_116 : decode cX11_sail 116 = .ok (.iconst 2, 1) := by decide +kernel
theorem dX11_sail_117 : decode cX11_sail 117 = .ok (.invokevirtual 40, 3) := by decide +kernel
theorem dX11_sail_120 : decode cX11_sail 120 = .ok (.ireturn, 1) := by decide +kernel
theorem dX11_sail_121 : decode cX11_sail 121 = .ok (.aload_n 3, 1) := by decide +kernel
theorem dX11_sail_122 : decode cX11_sail 122 = .ok (.iconst 1, 1) := by decide +kernel
theorem dX11_sail_123 : decode cX11_sail 123 = .ok (.iaload, 1) := by decide +kernel
theorem dX11_sail_124 : decode cX11_sail 124 = .ok (.istore 5, 2) := by decide +kernel
theorem dX11_sail_126 : decode cX11_sail 126 = .ok (.aload_n 3, 1) := by decide +kernel
theorem dX11_sail_127 : decode cX11_sail 127 = .ok (.iconst 1, 1) := by decide +kernel
theorem dX11_sail_128 : decode cX11_sail 128 = .ok (.iload_n 2, 1) := by decide +kernel
theorem dX11_sail_129 : decode cX11_sail 129 = .ok (.iastore, 1) := by decide +kernel
theorem dX11_sail_130 : decode cX11_sail 130 = .ok (.iload 5, 2) := by decide +kernel
theorem dX11_sail_132 : decode cX11_sail 132 = .ok (.ireturn, 1) := by decide +kernel
theorem wcRX11_110 : Cond.methodLink RX11 110 yX11_isVessel ∈ zTg ∧ Cond.instanceMethod yX11_isVessel ∈ zTg ∧ Cond.selects RX11 yX11_isVessel yX11_isVessel ∈ zTg ∧ Cond.initialized RX11 ∈ zTg ∧ Cond.code yX11_isVessel cX11_isVessel 2 (some .boolean) ∈ zTg := ⟨zm_f 1204 (by decide +kernel) rfl, zm_f 1206 (by decide +kernel) rfl, zm_f 30 (by decide +kernel) rfl, zm_f 46 (by decide +kernel) rfl, zm_f 1207 (by decide +kernel) rfl⟩
theorem wy_yX11_isVessel : yX11_isVessel.cls = RX11 ∧ yX11_isVessel.cls ≠ "java/lang/invoke/MethodHandle" ∧ yX11_isVessel.cls ≠ "java/lang/invoke/VarHandle" ∧ (parseMethodDescriptor yX11_isVessel.desc).map (fun d => d.parameters.length) = some 1 := by decide +kernel
theorem wfRX11_54 : zFl RX11 54 9 3 := ⟨_, rfl, by decide, zm_f 975 (by decide +kernel) rfl⟩
def fMO_sail_l48 (a1 : Int32) (a2 : Int32) (s1 : zM) (q11 : Int32 × Int32) : Option ((Int32 × Int32) ⊕ ((Int32))) :=
  if (s1 0 0 9) ≤ q11.2 then
  some (.inr q11.1)
else
  Option.bind (if q11.2 = a1 then
    some (0 : Int32)
  else
    if a2 = (-1 : Int32) then
      some (0 : Int32)
    else
      zix q11.2 3 fun j17 =>
        zix (1 : Int32) 6 fun j18 =>
        if (s1 11 j17 j18) = a2 then
        some (1 : Int32)
      else
        some (0 : Int32)) fun q13 =>
    zlet ((q11.1 ||| q13)) fun v19 =>
    zlet (q11.2 + 1) fun v20 =>
    some (.inl (v19, v20))
def fMO_sail (a1 : Int32) (a2 : Int32) (s0 : zM) (s1 : zM) : Option (Int32 × zM × zM) :=
  zlet (zu s0 0 0 0 (0 : Int32)) fun s0_1 =>
  Option.bind (fMO_isVessel a1 s0_1 s1) fun q2 =>
  if q2 = 0 then
  Option.bind (fMO_no (1 : Int32) s0_1 s1) fun q3 =>
    some (q3.1, q3.2, s1)
else
  Option.bind (if a2 = (-1 : Int32) then
    some (.inl ())
  else
    Option.bind (fMO_isTurbine a2 s0_1 s1) fun q8 =>
      if q8 = 0 then
      Option.bind (fMO_no (1 : Int32) s0_1 s1) fun q9 =>
        some (.inr (q9.1, q9.2, s1))
    else
      some (.inl ())) (Sum.elim (fun (_ : Unit) =>
    zix a1 3 fun j10 =>
    Option.bind (ziter (fMO_sail_l48 a1 a2 s1) 1000 ((0 : Int32), (0 : Int32))) fun q12 =>
    zix (2 : Int32) 6 fun j21 =>
    if (s1 11 j10 j21) = (1 : Int32) then
    Option.bind (fMO_no (2 : Int32) s0_1 s1) fun q22 =>
      some (q22.1, q22.2, s1)
  else
    if q12 = 0 then
      zix (1 : Int32) 6 fun j23 =>
        zlet ((s1 11 j10 j23)) fun v24 =>
        zix (1 : Int32) 6 fun j25 =>
        zlet (zu s1 11 j10 j25 a2) fun s1_26 =>
        some (v24, s0_1, s1_26)
    else
      Option.bind (fMO_no (2 : Int32) s0_1 s1) fun q27 =>
        some (q27.1, q27.2, s1)) (fun r => some r))
set_option maxHeartbeats 4000000 in
set_option maxRecDepth 20000 in
theorem bfMO_sail_l48 {X : zX} (F : zFr X cX11_sail 6 RX11 (some .int)) (a1 : Int32) (a2 : Int32) (s1 : zM) (s0_1 : zM) (j10 : Nat)  {ψ : (Int32 × Int32) ⊕ ((Int32)) → Option zO} (h1 : ∀ q11 : Int32 × Int32, zZ X [(4, [1]), (3, [])] 2 43 6 48 [some (zr 0 0 0), some (zi a1), some (zi a2), some (zr 1 11 j10), some (zi q11.1), some (zi q11.2)] [] [s0_1, s1] (ψ (.inl q11))) (h2 : ∀ q12 : Int32, zZ X [(4, [1]), (3, [])] 2 43 6 103 [some (zr 0 0 0), none, some (zi a2), some (zr 1 11 j10), some (zi q12), none] [] [s0_1, s1] (ψ (.inr q12))) (q11 : Int32 × Int32) : zZ X [(4, [1]), (3, [])] 2 43 6 48 [some (zr 0 0 0), some (zi a1), some (zi a2), some (zr 1 11 j10), some (zi q11.1), some (zi q11.2)] [] [s0_1, s1] (Option.bind (fMO_sail_l48 a1 a2 s1 q11) ψ) := by
  unfold fMO_sail_l48
  refine zz_iload F (i := 5) dX11_sail_48 rfl ?_
  refine zz_aload_n F (i := 0) dX11_sail_50 rfl rfl ?_
  refine zz_getr F dX11_sail_51 wfRX11_10 zCl_10 rfl (⟨zlb rfl, zlb rfl, zlb rfl⟩) rfl (by decide) rfl (r' := 1) (by decide) ?_
  refine zz_getf F dX11_sail_54 wfRX11_33 zCl_9 rfl (⟨zlb rfl, zlb rfl, zlb rfl⟩) rfl (by decide) rfl rfl ?_
  refine zz_icmp_ge F (tgt := 103) dX11_sail_57 (by decide) (fun h => zz_t h ?_) (fun h => zz_f h ?_)
  · exact zz_sub (zs_k (zs_n (zs_k (zs_k (zs_k (zs_n zs_z)))))) (h2 q11.1)
  · refine zz_iload F (i := 4) dX11_sail_60 rfl ?_
    refine zz_iload F (i := 5) dX11_sail_62 rfl ?_
    refine zz_iload_n F (i := 1) dX11_sail_64 rfl rfl ?_
    refine zz_join (pj := 94) (Lj := fun q13 => [some (zr 0 0 0), some (zi a1), some (zi a2), some (zr 1 11 j10), none, some (zi q11.2)]) (Sj := fun q13 => [zi q13, zi q11.1]) (Mj := fun q13 => [s0_1, s1]) (fun q13 => ?_) (fun κ15 hj14 => ?_)
    · refine zz_ior F dX11_sail_94 ?_
      refine zz_istore F (i := 4) (L' := [some (zr 0 0 0), some (zi a1), some (zi a2), some (zr 1 11 j10), some (zi (q11.1 ||| q13)), some (zi q11.2)]) dX11_sail_95 (by decide) rfl rfl ?_
      refine zz_letl (Lf := fun v19 => [some (zr 0 0 0), some (zi a1), some (zi a2), some (zr 1 11 j10), some (zi v19), some (zi q11.2)]) fun v19 => ?_
      refine zz_iinc F (i := 5) (v := q11.2 + 1) (L' := [some (zr 0 0 0), some (zi a1), some (zi a2), some (zr 1 11 j10), some (zi v19), some (zi (q11.2 + 1))]) dX11_sail_97 rfl (by first | rfl | decide) (by decide) rfl rfl ?_
      refine zz_letl (Lf := fun v20 => [some (zr 0 0 0), some (zi a1), some (zi a2), some (zr 1 11 j10), some (zi v19), some (zi v20)]) fun v20 => ?_
      refine zz_goto F (tgt := 48) dX11_sail_100 (by decide) ?_
      exact zz_sub (zs_k (zs_k (zs_k (zs_k (zs_k (zs_k zs_z)))))) (h1 (v19, v20))
    · refine zz_icmp_eq F (tgt := 93) dX11_sail_65 (by decide) (fun h => zz_t h ?_) (fun h => zz_f h ?_)
      · refine zz_iconst F (v := (0 : Int32)) dX11_sail_93 (by decide) ?_
        exact zz_sub (zs_k (zs_k (zs_k (zs_k (zs_n (zs_k zs_z)))))) (hj14 (0 : Int32))
      · refine zz_iload_n F (i := 2) dX11_sail_68 rfl rfl ?_
        refine zz_iconst F (v := (-1 : Int32)) dX11_sail_69 (by decide) ?_
        refine zz_icmp_eq F (tgt := 93) dX11_sail_70 (by decide) (fun h => zz_t h ?_) (fun h => zz_f h ?_)
        · refine zz_iconst F (v := (0 : Int32)) dX11_sail_93 (by decide) ?_
          exact zz_sub (zs_k (zs_k (zs_k (zs_k (zs_n (zs_k zs_z)))))) (hj14 (0 : Int32))
        · refine zz_aload_n F (i := 0) dX11_sail_73 rfl rfl ?_
          refine zz_getr F dX11_sail_74 wfRX11_10 zCl_10 rfl (⟨zlb rfl, zlb rfl, zlb rfl⟩) rfl (by decide) rfl (r' := 1) (by decide) ?_
          refine zz_getr F dX11_sail_77 wfRX11_54 zCl_9 rfl (⟨zlb rfl, zlb rfl, zlb rfl⟩) rfl (by decide) rfl (r' := 1) (by decide) ?_
          refine zz_iload F (i := 5) dX11_sail_80 rfl ?_
          refine zz_ix fun j17 hj17 hinj17 hej17 => zz_aal F dX11_sail_82 rfl (⟨zlb rfl, zlb rfl, zlb rfl⟩) rfl (by decide) rfl hinj17 hej17 rfl ?_
          refine zz_iconst F (v := (1 : Int32)) dX11_sail_83 (by decide) ?_
          refine zz_ix fun j18 hj18 hinj18 hej18 => zz_ial F dX11_sail_84 rfl (⟨zlb rfl, zlb rfl, hj17⟩) rfl hinj18 hej18 ?_
          refine zz_iload_n F (i := 2) dX11_sail_85 rfl rfl ?_
          refine zz_icmp_ne F (tgt := 93) dX11_sail_86 (by decide) (fun h => zz_f h ?_) (fun h => zz_t h ?_)
          · refine zz_iconst F (v := (0 : Int32)) dX11_sail_93 (by decide) ?_
            exact zz_sub (zs_k (zs_k (zs_k (zs_k (zs_n (zs_k zs_z)))))) (hj14 (0 : Int32))
          · refine zz_iconst F (v := (1 : Int32)) dX11_sail_89 (by decide) ?_
            refine zz_goto F (tgt := 94) dX11_sail_90 (by decide) ?_
            exact zz_sub (zs_k (zs_k (zs_k (zs_k (zs_n (zs_k zs_z)))))) (hj14 (1 : Int32))
set_option maxHeartbeats 4000000 in
set_option maxRecDepth 20000 in
theorem bfMO_sail {X : zX} (F : zFr X cX11_sail 6 RX11 (some .int)) (a1 : Int32) (a2 : Int32)  (s0 : zM) (s1 : zM) {κ : Int32 × zM × zM → Option zO} (hκ : ∀ a, κ a = some ((fun a => ((.inl ((fun q => some (zi q.1)) a), (fun q => [q.2.1, q.2.2]) a) : zO)) a)) : zZ X [(4, [1]), (3, [])] 2 43 6 0 [some (zr 0 0 0), some (zi a1), some (zi a2), none, none, none] [] [s0, s1] (Option.bind (fMO_sail a1 a2 s0 s1) κ) := by
  unfold fMO_sail
  refine zz_aload_n F (i := 0) dX11_sail_0 rfl rfl ?_
  refine zz_iconst F (v := (0 : Int32)) dX11_sail_1 (by decide) ?_
  refine zz_put F (Ms' := [(zu s0 0 0 0 (0 : Int32)), s1]) dX11_sail_2 wpRX11_16 zCl_10 rfl (⟨zlb rfl, zlb rfl, zlb rfl⟩) rfl (by decide) rfl rfl rfl ?_
  refine zz_letm (Mf := fun s0_1 => [s0_1, s1]) fun s0_1 => ?_
  refine zz_aload_n F (i := 0) dX11_sail_5 rfl rfl ?_
  refine zz_iload_n F (i := 1) dX11_sail_6 rfl rfl ?_
  refine zz_bind ?_
  refine zz_callVr F (ρ := [0, 1]) (so := fun q2 => [zi q2]) (Mo := fun q2 => [s0_1, s1]) (zfMO_isVessel a1 s0_1 s1) dX11_sail_7 wcRX11_110 wy_yX11_isVessel rfl ⟨rel15, rfl, rfl, Nat.le_of_ble_eq_true rfl, Nat.le_of_ble_eq_true rfl, Nat.le_of_ble_eq_true rfl⟩ (⟨zlb rfl, zlb rfl, zlb rfl⟩) rfl rfl rfl (fun _ => rfl) (fun _ => rfl) fun q2 => ?_
  refine zz_if_eq F (tgt := 26) dX11_sail_10 (by decide) (fun h => zz_t h ?_) (fun h => zz_f h ?_)
  · refine zz_aload_n F (i := 0) dX11_sail_26 rfl rfl ?_
    refine zz_iconst F (v := (1 : Int32)) dX11_sail_27 (by decide) ?_
    refine zz_bind ?_
    refine zz_callVr F (ρ := [0, 1]) (so := fun q3 => [zi q3.1]) (Mo := fun q3 => [q3.2, s1]) (zfMO_no (1 : Int32) s0_1 s1) dX11_sail_28 wcRX11_40 wy_yX11_no rfl ⟨rel15, rfl, rfl, Nat.le_of_ble_eq_true rfl, Nat.le_of_ble_eq_true rfl, Nat.le_of_ble_eq_true rfl⟩ (⟨zlb rfl, zlb rfl, zlb rfl⟩) rfl rfl rfl (fun _ => rfl) (fun _ => rfl) fun q3 => ?_
    exact zz_ireturn F dX11_sail_31 rfl (hκ _)
  · refine zz_iload_n F (i := 2) dX11_sail_13 rfl rfl ?_
    refine zz_iconst F (v := (-1 : Int32)) dX11_sail_14 (by decide) ?_
    refine zz_joinE (pj := 32) (Lj := fun _ => [some (zr 0 0 0), some (zi a1), some (zi a2), none, none, none]) (Sj := fun _ => []) (Mj := fun _ => [s0_1, s1]) (fun _ => ?_) (fun κ6 hj5 hr7 => ?_)
    · refine zz_aload_n F (i := 0) dX11_sail_32 rfl rfl ?_
      refine zz_getr F dX11_sail_33 wfRX11_10 zCl_10 rfl (⟨zlb rfl, zlb rfl, zlb rfl⟩) rfl (by decide) rfl (r' := 1) (by decide) ?_
      refine zz_getr F dX11_sail_36 wfRX11_54 zCl_9 rfl (⟨zlb rfl, zlb rfl, zlb rfl⟩) rfl (by decide) rfl (r' := 1) (by decide) ?_
      refine zz_iload_n F (i := 1) dX11_sail_39 rfl rfl ?_
      refine zz_ix fun j10 hj10 hinj10 hej10 => zz_aal F dX11_sail_40 rfl (⟨zlb rfl, zlb rfl, zlb rfl⟩) rfl (by decide) rfl hinj10 hej10 rfl ?_
      refine zz_astore_n F (i := 3) (L' := [some (zr 0 0 0), some (zi a1), some (zi a2), some (zr 1 11 j10), none, none]) dX11_sail_41 rfl (by decide) rfl rfl ?_
      refine zz_iconst F (v := (0 : Int32)) dX11_sail_42 (by decide) ?_
      refine zz_istore F (i := 4) (L' := [some (zr 0 0 0), some (zi a1), some (zi a2), some (zr 1 11 j10), some (zi (0 : Int32)), none]) dX11_sail_43 (by decide) rfl rfl ?_
      refine zz_iconst F (v := (0 : Int32)) dX11_sail_45 (by decide) ?_
      refine zz_istore F (i := 5) (L' := [some (zr 0 0 0), some (zi a1), some (zi a2), some (zr 1 11 j10), some (zi (0 : Int32)), some (zi (0 : Int32))]) dX11_sail_46 (by decide) rfl rfl ?_
      refine zz_sub (zs_k (zs_k (zs_k (zs_k (zs_k (zs_k zs_z)))))) ?_
      refine zz_bind ?_
      refine zz_iter (Lf := fun q11 => [some (zr 0 0 0), some (zi a1), some (zi a2), some (zr 1 11 j10), some (zi q11.1), some (zi q11.2)]) (Mf := fun q11 => [s0_1, s1]) (fun q11 _ e28 e29 => bfMO_sail_l48 F a1 a2 s1 s0_1 j10  e28 (fun q12 => ?_)  q11) 1000 ((0 : Int32), (0 : Int32))
      rw [e29]
      refine zz_aload_n F (i := 3) dX11_sail_103 rfl rfl ?_
      refine zz_iconst F (v := (2 : Int32)) dX11_sail_104 (by decide) ?_
      refine zz_ix fun j21 hj21 hinj21 hej21 => zz_ial F dX11_sail_105 rfl (⟨zlb rfl, zlb rfl, hj10⟩) rfl hinj21 hej21 ?_
      refine zz_iconst F (v := (1 : Int32)) dX11_sail_106 (by decide) ?_
      refine zz_icmp_eq F (tgt := 115) dX11_sail_107 (by decide) (fun h => zz_t h ?_) (fun h => zz_f h ?_)
      · refine zz_aload_n F (i := 0) dX11_sail_115 rfl rfl ?_
        refine zz_iconst F (v := (2 : Int32)) dX11_sail_116 (by decide) ?_
        refine zz_bind ?_
        refine zz_callVr F (ρ := [0, 1]) (so := fun q22 => [zi q22.1]) (Mo := fun q22 => [q22.2, s1]) (zfMO_no (2 : Int32) s0_1 s1) dX11_sail_117 wcRX11_40 wy_yX11_no rfl ⟨rel15, rfl, rfl, Nat.le_of_ble_eq_true rfl, Nat.le_of_ble_eq_true rfl, Nat.le_of_ble_eq_true rfl⟩ (⟨zlb rfl, zlb rfl, zlb rfl⟩) rfl rfl rfl (fun _ => rfl) (fun _ => rfl) fun q22 => ?_
        exact zz_ireturn F dX11_sail_120 rfl (hκ _)
      · refine zz_iload F (i := 4) dX11_sail_110 rfl ?_
        refine zz_if_eq F (tgt := 121) dX11_sail_112 (by decide) (fun h => zz_t h ?_) (fun h => zz_f h ?_)
        · refine zz_aload_n F (i := 3) dX11_sail_121 rfl rfl ?_
          refine zz_iconst F (v := (1 : Int32)) dX11_sail_122 (by decide) ?_
          refine zz_ix fun j23 hj23 hinj23 hej23 => zz_ial F dX11_sail_123 rfl (⟨zlb rfl, zlb rfl, hj10⟩) rfl hinj23 hej23 ?_
          refine zz_istore F (i := 5) (L' := [some (zr 0 0 0), none, some (zi a2), some (zr 1 11 j10), some (zi q12), some (zi (s1 11 j10 j23))]) dX11_sail_124 (by decide) rfl rfl ?_
          refine zz_letl (Lf := fun v24 => [some (zr 0 0 0), none, some (zi a2), some (zr 1 11 j10), some (zi q12), some (zi v24)]) fun v24 => ?_
          refine zz_aload_n F (i := 3) dX11_sail_126 rfl rfl ?_
          refine zz_iconst F (v := (1 : Int32)) dX11_sail_127 (by decide) ?_
          refine zz_iload_n F (i := 2) dX11_sail_128 rfl rfl ?_
          refine zz_ix fun j25 hj25 hinj25 hej25 => zz_ias F (Ms' := [s0_1, (zu s1 11 j10 j25 a2)]) dX11_sail_129 rfl (⟨zlb rfl, zlb rfl, hj10⟩) rfl hinj25 hej25 rfl ?_
          refine zz_letm (Mf := fun s1_26 => [s0_1, s1_26]) fun s1_26 => ?_
          refine zz_iload F (i := 5) dX11_sail_130 rfl ?_
          exact zz_ireturn F dX11_sail_132 rfl (hκ _)
        · refine zz_aload_n F (i := 0) dX11_sail_115 rfl rfl ?_
          refine zz_iconst F (v := (2 : Int32)) dX11_sail_116 (by decide) ?_
          refine zz_bind ?_
          refine zz_callVr F (ρ := [0, 1]) (so := fun q27 => [zi q27.1]) (Mo := fun q27 => [q27.2, s1]) (zfMO_no (2 : Int32) s0_1 s1) dX11_sail_117 wcRX11_40 wy_yX11_no rfl ⟨rel15, rfl, rfl, Nat.le_of_ble_eq_true rfl, Nat.le_of_ble_eq_true rfl, Nat.le_of_ble_eq_true rfl⟩ (⟨zlb rfl, zlb rfl, zlb rfl⟩) rfl rfl rfl (fun _ => rfl) (fun _ => rfl) fun q27 => ?_
          exact zz_ireturn F dX11_sail_120 rfl (hκ _)
    · refine zz_icmp_eq F (tgt := 32) dX11_sail_15 (by decide) (fun h => zz_t h ?_) (fun h => zz_f h ?_)
      · exact zz_sub (zs_k (zs_k (zs_k (zs_k (zs_k (zs_k zs_z)))))) (hj5 ())
      · refine zz_aload_n F (i := 0) dX11_sail_18 rfl rfl ?_
        refine zz_iload_n F (i := 2) dX11_sail_19 rfl rfl ?_
        refine zz_bind ?_
        refine zz_callVr F (ρ := [0, 1]) (so := fun q8 => [zi q8]) (Mo := fun q8 => [s0_1, s1]) (zfMO_isTurbine a2 s0_1 s1) dX11_sail_20 wcRX11_95 wy_yX11_isTurbine rfl ⟨rel15, rfl, rfl, Nat.le_of_ble_eq_true rfl, Nat.le_of_ble_eq_true rfl, Nat.le_of_ble_eq_true rfl⟩ (⟨zlb rfl, zlb rfl, zlb rfl⟩) rfl rfl rfl (fun _ => rfl) (fun _ => rfl) fun q8 => ?_
        refine zz_if_ne F (tgt := 32) dX11_sail_23 (by decide) (fun h => zz_f h ?_) (fun h => zz_t h ?_)
        · exact zz_sub (zs_k (zs_k (zs_k (zs_k (zs_k (zs_k zs_z)))))) (hj5 ())
        · refine zz_aload_n F (i := 0) dX11_sail_26 rfl rfl ?_
          refine zz_iconst F (v := (1 : Int32)) dX11_sail_27 (by decide) ?_
          refine zz_bind ?_
          refine zz_callVr F (ρ := [0, 1]) (so := fun q9 => [zi q9.1]) (Mo := fun q9 => [q9.2, s1]) (zfMO_no (1 : Int32) s0_1 s1) dX11_sail_28 wcRX11_40 wy_yX11_no rfl ⟨rel15, rfl, rfl, Nat.le_of_ble_eq_true rfl, Nat.le_of_ble_eq_true rfl, Nat.le_of_ble_eq_true rfl⟩ (⟨zlb rfl, zlb rfl, zlb rfl⟩) rfl rfl rfl (fun _ => rfl) (fun _ => rfl) fun q9 => ?_
          exact zz_ireturn F dX11_sail_31 rfl ((hr7 _).trans (hκ _))
theorem zfMO_sail (a1 : Int32) (a2 : Int32)  (s0 : zM) (s1 : zM) : ∀ a, fMO_sail a1 a2 s0 s1 = some a → zMet yX11_sail cX11_sail 6 (some .int) 2 43 [(4, [1]), (3, [])] [zr 0 0 0, zi a1, zi a2] [s0, s1] ((fun a => ((.inl ((fun q => some (zi q.1)) a), (fun q => [q.2.1, q.2.2]) a) : zO)) a) := fun a ha => zMet_of (L0 := [some (zr 0 0 0), some (zi a1), some (zi a2), none, none, none]) (φ := Option.bind (fMO_sail a1 a2 s0 s1) (fun a => some ((fun a => ((.inl ((fun q => some (zi q.1)) a), (fun q => [q.2.1, q.2.2]) a) : zO)) a))) (by decide) (fun _ => Nat.le_of_ble_eq_true rfl) (zl0 3 rfl) (fun X F => bfMO_sail F a1 a2 s0 s1 (fun _ => rfl)) (by rw [ha]; rfl)
