theorem dX3_giveUp_0 : decode cX3_giveUp 0 = .ok (.iconst 0, 1) := by decide +kernel
theorem dX3_giveUp_1 : decode cX3_giveUp 1 = .ok (.istore 4, 2) := by decide +kernel
theorem dX3_giveUp_3 : decode cX3_giveUp 3 = .ok (.iconst 0, 1) := by decide +kernel
theorem dX3_giveUp_4 : decode cX3_giveUp 4 = .ok (.istore 5, 2) := by decide +kernel
theorem dX3_giveUp_6 : decode cX3_giveUp 6 = .ok (.iload 5, 2) := by decide +kernel
theorem dX3_giveUp_8 : decode cX3_giveUp 8 = .ok (.aload_n 0, 1) := by decide +kernel
theorem dX3_giveUp_9 : decode cX3_giveUp 9 = .ok (.getfield 56, 3) := by decide +kernel
theorem dX3_giveUp_12 : decode cX3_giveUp 12 = .ok (.if_icmp .ge 38, 3) := by decide +kernel
theorem dX3_giveUp_15 : decode cX3_giveUp 15 = .ok (.iload 4, 2) := by decide +kernel
theorem dX3_giveUp_17 : decode cX3_giveUp 17 = .ok (.aload_n 0, 1) := by decide +kernel
theorem dX3_giveUp_18 : decode cX3_giveUp 18 = .ok (.iload 5, 2) := by decide +kernel
theorem dX3_giveUp_20 : decode cX3_giveUp 20 = .ok (.iload_n 1, 1) := by decide +kernel
theorem dX3_giveUp_21 : decode cX3_giveUp 21 = .ok (.invokevirtual 189, 3) := by decide +kernel
theorem dX3_giveUp_24 : decode cX3_giveUp 24 = .ok (.ifCond .eq 16, 3) := by decide +kernel
theorem dX3_giveUp_27 : decode cX3_giveUp 27 = .ok (.aload_n 0, 1) := by decide +kernel
theorem dX3_giveUp_28 : decode cX3_giveUp 28 = .ok (.getfield 11, 3) := by decide +kernel
theorem dX3_giveUp_31 : decode cX3_giveUp 31 = .ok (.iload 5, 2) := by decide +kernel
theorem dX3_giveUp_33 : decode cX3_giveUp 33 = .ok (.aaload, 1) := by decide +kernel
theorem dX3_giveUp_34 : decode cX3_giveUp 34 = .ok (.getfield 193, 3) := by decide +kernel
theorem dX3_giveUp_37 : decode cX3_giveUp 37 = .ok (.goto 4, 3) := by decide +kernel
theorem dX3_giveUp_40 : decode cX3_giveUp 40 = .ok (.iconst 0, 1) := by decide +kernel
theorem dX3_giveUp_41 : decode cX3_giveUp 41 = .ok (.iadd, 1) := by decide +kernel
theorem dX3_giveUp_42 : decode cX3_giveUp 42 = .ok (.istore 4, 2) := by decide +kernel
theorem dX3_giveUp_44 : decode cX3_giveUp 44 = .ok (.iinc 5 1, 3) := by decide +kernel
theorem dX3_giveUp_47 : decode cX3_giveUp 47 = .ok (.goto (-41), 3) := by decide +kernel
theorem dX3_giveUp_50 : decode cX3_giveUp 50 = .ok (.iload 4, 2) := by decide +kernel
theorem dX3_giveUp_52 : decode cX3_giveUp 52 = .ok (.iload_n 2, 1) := by decide +kernel
theorem dX3_giveUp_53 : decode cX3_giveUp 53 = .ok (.isub, 1) := by decide +kernel
theorem dX3_giveUp_54 : decode cX3_giveUp 54 = .ok (.istore 5, 2) := by decide +kernel
theorem dX3_giveUp_56 : decode cX3_giveUp 56 = .ok (.iload 5, 2) := by decide +kernel
theorem dX3_giveUp_58 : decode cX3_giveUp 58 = .ok (.ifCond .le 8, 3) := by decide +kernel
theorem dX3_giveUp_61 : decode cX3_giveUp 61 = .ok (.iload 4, 2) := by decide +kernel
theorem dX3_giveUp_63 : decode cX3_giveUp 63 = .ok (.ifCond .gt 6, 3) := by decide +kernel
theorem dX3_giveUp_66 : decode cX3_giveUp 66 = .ok (.iload 4, 2) := by decide +kernel
theorem dX3_giveUp_68 : decode cX3_giveUp 68 = .ok (.ireturn, 1) := by decide +kernel
theorem dX3_giveUp_69 : decode cX3_giveUp 69 = .ok (.iload 5, 2) := by decide +kernel
theorem dX3_giveUp_71 : decode cX3_giveUp 71 = .ok (.istore 6, 2) := by decide +kernel
theorem dX3_giveUp_73 : decode cX3_giveUp 73 = .ok (.iconst 0, 1) := by decide +kernel
theorem dX3_giveUp_74 : decode cX3_giveUp 74 = .ok (.istore 7, 2) := by decide +kernel
theorem dX3_giveUp_76 : decode cX3_giveUp 76 = .ok (.iload 7, 2) := by decide +kernel
theorem dX3_giveUp_78 : decode cX3_giveUp 78 = .ok (.aload_n 0, 1) := by decide +kernel
theorem dX3_giveUp_79 : decode cX3_giveUp 79 = .ok (.getfield 56, 3) := by decide +kernel
theorem dX3_giveUp_82 : decode cX3_giveUp 82 = .ok (.if_icmp .ge 57, 3) := by decide +kernel
theorem dX3_giveUp_85 : decode cX3_giveUp 85 = .ok (.aload_n 0, 1) := by decide +kernel
theorem dX3_giveUp_86 : decode cX3_giveUp 86 = .ok (.iload 7, 2) := by decide +kernel
theorem dX3_giveUp_88 : decode cX3_giveUp 88 = .ok (.iload_n 1, 1) := by decide +kernel
theorem dX3_giveUp_89 : decode cX3_giveUp 89 = .ok (.invokevirtual 189, 3) := by decide +kernel
theorem dX3_giveUp_92 : decode cX3_giveUp 92 = .ok (.ifCond .eq 41, 3) := by decide +kernel
theorem dX3_giveUp_95 : decode cX3_giveUp 95 = .ok (.aload_n 0, 1) := by decide +kernel
theorem dX3_giveUp_96 : decode cX3_giveUp 96 = .ok (.getfield 11, 3) := by decide +kernel
theorem dX3_giveUp_99 : decode cX3_giveUp 99 = .ok (.iload 7, 2) := by decide +kernel
theorem dX3_giveUp_101 : decode cX3_giveUp 101 = .ok (.aaload, 1) := by decide +kernel
theorem dX3_giveUp_102 : decode cX3_giveUp 102 = .ok (.getfield 193, 3) := by decide +kernel
theorem dX3_giveUp_105 : decode cX3_giveUp 105 = .ok (.iload 5, 2) := by decide +kernel
theorem dX3_giveUp_107 : decode cX3_giveUp 107 = .ok (.imul, 1) := by decide +kernel
theorem dX3_giveUp_108 : decode cX3_giveUp 108 = .ok (.iload 4, 2) := by decide +kernel
theorem dX3_giveUp_110 : decode cX3_giveUp 110 = .ok (.idiv, 1) := by decide +kernel
theorem dX3_giveUp_111 : decode cX3_giveUp 111 = .ok (.istore 8, 2) := by decide +kernel
theorem dX3_giveUp_113 : decode cX3_giveUp 113 = .ok (.aload_n 0, 1) := by decide +kernel
theorem dX3_giveUp_114 : decode cX3_giveUp 114 = .ok (.getfield 11, 3) := by decide +kernel
theorem dX3_giveUp_117 : decode cX3_giveUp 117 = .ok (.iload 7, 2) := by decide +kernel
theorem dX3_giveUp_119 : decode cX3_giveUp 119 = .ok (.aaload, 1) := by decide +kernel
theorem dX3_giveUp_120 : decode cX3_giveUp 120 = .ok (.iload 8, 2) := by decide +kernel
theorem dX3_giveUp_122 : decode cX3_giveUp 122 = .ok (.iload_n 3, 1) := by decide +kernel
theorem dX3_giveUp_123 : decode cX3_giveUp 123 = .ok (.invokevirtual 196, 3) := by decide +kernel
theorem dX3_giveUp_126 : decode cX3_giveUp 126 = .ok (.iload 6, 2) := by decide +kernel
theorem dX3_giveUp_128 : decode cX3_giveUp 128 = .ok (.iload 8, 2) := by decide +kernel
theorem dX3_giveUp_130 : decode cX3_giveUp 130 = .ok (.isub, 1) := by decide +kernel
theorem dX3_giveUp_131 : decode cX3_giveUp 131 = .ok (.istore 6, 2) := by decide +kernel
theorem dX3_giveUp_133 : decode cX3_giveUp 133 = .ok (.iinc 7 1, 3) := by decide +kernel
theorem dX3_giveUp_136 : decode cX3_giveUp 136 = .ok (.goto (-60), 3) := by decide +kernel
theorem dX3_giveUp_139 : decode cX3_giveUp 139 = .ok (.iconst 0, 1) := by decide +kernel
theorem dX3_giveUp_140 : decode cX3_giveUp 140 = .ok (.istore 7, 2) := by decide +kernel
theorem dX3_giveUp_142 : decode cX3_giveUp 142 = .ok (.iload 7, 2) := by decide +kernel
theorem dX3_giveUp_144 : decode cX3_giveUp 144 = .ok (.aload_n 0, 1) := by decide +kernel
theorem dX3_giveUp_145 : decode cX3_giveUp 145 = .ok (.getfield 56, 3) := by decide +kernel
theorem dX3_giveUp_148 : decode cX3_giveUp 148 = .ok (.if_icmp .ge 52, 3) := by decide +kernel
theorem dX3_giveUp_151 : decode cX3_giveUp 151 = .ok (.iload 6, 2) := by decide +kernel
theorem dX3_giveUp_153 : decode cX3_giveUp 153 = .ok (.ifCond .le 47, 3) := by decide +kernel
theorem dX3_giveUp_156 : decode cX3_giveUp 156 = .ok (.aload_n 0, 1) := by decide +kernel
theorem dX3_giveUp_157 : decode cX3_giveUp 157 = .ok (.iload 7, 2) := by decide +kernel
theorem dX3_giveUp_159 : decode cX3_giveUp 159 = .ok (.iload_n 1, 1) := by decide +kernel
theorem dX3_giveUp_160 : decode cX3_giveUp 160 = .ok (.invokevirtual 189, 3) := by decide +kernel
theorem dX3_giveUp_163 : decode cX3_giveUp 163 = .ok (.ifCond .eq 31, 3) := by decide +kernel
theorem dX3_giveUp_166 : decode cX3_giveUp 166 = .ok (.aload_n 0, 1) := by decide +kernel
theorem dX3_giveUp_167 : decode cX3_giveUp 167 = .ok (.getfield 11, 3) := by decide +kernel
theorem dX3_giveUp_170 : decode cX3_giveUp 170 = .ok (.iload 7, 2) := by decide +kernel
theorem dX3_giveUp_172 : decode cX3_giveUp 172 = .ok (.aaload, 1) := by decide +kernel
theorem dX3_giveUp_173 : decode cX3_giveUp 173 = .ok (.getfield 193, 3) := by decide +kernel
theorem dX3_giveUp_176 : decode cX3_giveUp 176 = .ok (.ifCond .le 18, 3) := by decide +kernel
theorem dX3_giveUp_179 : decode cX3_giveUp 179 = .ok (.aload_n 0, 1) := by decide +kernel
theorem dX3_giveUp_180 : decode cX3_giveUp 180 = .ok (.getfield 11, 3) := by decide +kernel
theorem dX3_giveUp_183 : decode cX3_giveUp 183 = .ok (.iload 7, 2) := by decide +kernel
theorem dX3_giveUp_185 : decode cX3_giveUp 185 = .ok (.aaload, 1) := by decide +kernel
theorem dX3_giveUp_186 : decode cX3_giveUp 186 = .ok (.iconst 1, 1) := by decide +kernel
theorem dX3_giveUp_187 : decode cX3_giveUp 187 = .ok (.iload_n 3, 1) := by decide +kernel
theorem dX3_giveUp_188 : decode cX3_giveUp 188 = .ok (.invokevirtual 196, 3) := by decide +kernel
theorem dX3_giveUp_191 : decode cX3_giveUp 191 = .ok (.iinc 6 (-1), 3) := by decide +kernel
theorem dX3_giveUp_194 : decode cX3_giveUp 194 = .ok (.iinc 7 1, 3) := by decide +kernel
theorem dX3_giveUp_197 : decode cX3_giveUp 197 = .ok (.goto (-55), 3) := by decide +kernel
theorem dX3_giveUp_200 : decode cX3_giveUp 200 = .ok (.iload_n 2, 1) := by decide +kernel
theorem dX3_giveUp_201 : decode cX3_giveUp 201 = .ok (.ireturn, 1) := by decide +kernel
theorem wcRX3_189 : Cond.methodLink RX3 189 yX3_isOn ∈ zTg ∧ Cond.instanceMethod yX3_isOn ∈ zTg ∧ Cond.selects RX3 yX3_isOn yX3_isOn ∈ zTg ∧ Cond.initialized RX3 ∈ zTg ∧ Cond.code yX3_isOn cX3_isOn 3 (some .boolean) ∈ zTg := ⟨zm_f 212 (by decide +kernel) rfl, zm_f 214 (by decide +kernel) rfl, zm_f 6 (by decide +kernel) rfl, zm_f 22 (by decide +kernel) rfl, zm_f 215 (by decide +kernel) rfl⟩
theorem wy_yX3_isOn : yX3_isOn.cls = RX3 ∧ yX3_isOn.cls ≠ "java/lang/invoke/MethodHandle" ∧ yX3_isOn.cls ≠ "java/lang/invoke/VarHandle" ∧ (parseMethodDescriptor yX3_isOn.desc).map (fun d => d.parameters.length) = some 2 := by decide +kernel
theorem wfRX3_193 : zFl RX3 193 5 10 := ⟨_, rfl, by decide, zm_f 553 (by decide +kernel) rfl⟩
theorem wcRX3_196 : Cond.methodLink RX3 196 yX5_lose ∈ zTg ∧ Cond.instanceMethod yX5_lose ∈ zTg ∧ Cond.selects RX5 yX5_lose yX5_lose ∈ zTg ∧ Cond.initialized RX5 ∈ zTg ∧ Cond.code yX5_lose cX5_lose 3 none ∈ zTg := ⟨zm_f 216 (by decide +kernel) rfl, zm_f 192 (by decide +kernel) rfl, zm_f 193 (by decide +kernel) rfl, zm_f 25 (by decide +kernel) rfl, zm_f 194 (by decide +kernel) rfl⟩
def fSe_giveUp_l6 (a1 : Int32) (s0 : zM) (q1 : Int32 × Int32) : Option ((Int32 × Int32) ⊕ ((Int32))) :=
  if (s0 0 0 5) ≤ q1.2 then
  some (.inr q1.1)
else
  Option.bind (fSe_isOn q1.2 a1 s0) fun q3 =>
    Option.bind (if q3 = 0 then
    some (0 : Int32)
  else
    zix q1.2 8 fun j8 =>
      some (s0 7 j8 10)) fun q4 =>
    zlet ((q1.1 + q4)) fun v9 =>
    zlet (q1.2 + 1) fun v10 =>
    some (.inl (v9, v10))
def fSe_giveUp_l76 (a1 : Int32) (a3 : Int32) (q2 : (Int32)) (v11 : Int32) (q12 : Int32 × Int32 × zM) : Option ((Int32 × Int32 × zM) ⊕ ((Int32 × zM))) :=
  if (q12.2.2 0 0 5) ≤ q12.2.1 then
  some (.inr (q12.1, q12.2.2))
else
  Option.bind (fSe_isOn q12.2.1 a1 q12.2.2) fun q14 =>
    Option.bind (if q14 = 0 then
    some (q12.1, q12.2.2)
  else
    zix q12.2.1 8 fun j19 =>
      zg (¬ q2 = 0) (
      zlet ((((q12.2.2 7 j19 10) * v11) / q2)) fun v20 =>
      zix q12.2.1 8 fun j21 =>
      Option.bind (fTu_lose j21 v20 a3 q12.2.2) fun q22 =>
      zlet ((q12.1 - v20)) fun v23 =>
      some (v23, q22))) fun q15 =>
    zlet (q12.2.1 + 1) fun v24 =>
    some (.inl (q15.1, v24, q15.2))
def fSe_giveUp_l142 (a1 : Int32) (a3 : Int32) (q25 : Int32 × Int32 × zM) : Option ((Int32 × Int32 × zM) ⊕ ((zM))) :=
  if (q25.2.2 0 0 5) ≤ q25.2.1 then
  some (.inr q25.2.2)
else
  if q25.1 ≤ 0 then
    some (.inr q25.2.2)
  else
    Option.bind (fSe_isOn q25.2.1 a1 q25.2.2) fun q27 =>
      Option.bind (if q27 = 0 then
      some (q25.1, q25.2.2)
    else
      zix q25.2.1 8 fun j32 =>
        if (q25.2.2 7 j32 10) ≤ 0 then
        some (q25.1, q25.2.2)
      else
        zix q25.2.1 8 fun j33 =>
          Option.bind (fTu_lose j33 (1 : Int32) a3 q25.2.2) fun q34 =>
          zlet (q25.1 + (-1)) fun v35 =>
          some (v35, q34)) fun q28 =>
      zlet (q25.2.1 + 1) fun v36 =>
      some (.inl (q28.1, v36, q28.2))
def fSe_giveUp (a1 : Int32) (a2 : Int32) (a3 : Int32) (s0 : zM) : Option (Int32 × zM) :=
  Option.bind (ziter (fSe_giveUp_l6 a1 s0) 1000 ((0 : Int32), (0 : Int32))) fun q2 =>
  zlet ((q2 - a2)) fun v11 =>
  if v11 ≤ 0 then
  some (q2, s0)
else
  if 0 < q2 then
    Option.bind (ziter (fSe_giveUp_l76 a1 a3 q2 v11) 1000 (v11, (0 : Int32), s0)) fun q13 =>
      Option.bind (ziter (fSe_giveUp_l142 a1 a3) 1000 (q13.1, (0 : Int32), q13.2)) fun q26 =>
      some (a2, q26)
  else
    some (q2, s0)
set_option maxHeartbeats 4000000 in
set_option maxRecDepth 20000 in
theorem bfSe_giveUp_l6 {X : zX} (F : zFr X cX3_giveUp 9 RX3 (some .int)) (a1 : Int32) (s0 : zM) (a2 : Int32) (a3 : Int32)  {ψ : (Int32 × Int32) ⊕ ((Int32)) → Option zO} (h1 : ∀ q1 : Int32 × Int32, zZ X [(0, [])] 1 22 9 6 [some (zr 0 0 0), some (zi a1), some (zi a2), some (zi a3), some (zi q1.1), some (zi q1.2), none, none, none] [] [s0] (ψ (.inl q1))) (h2 : ∀ q2 : Int32, zZ X [(0, [])] 1 22 9 50 [some (zr 0 0 0), some (zi a1), some (zi a2), some (zi a3), some (zi q2), none, none, none, none] [] [s0] (ψ (.inr q2))) (q1 : Int32 × Int32) : zZ X [(0, [])] 1 22 9 6 [some (zr 0 0 0), some (zi a1), some (zi a2), some (zi a3), some (zi q1.1), some (zi q1.2), none, none, none] [] [s0] (Option.bind (fSe_giveUp_l6 a1 s0 q1) ψ) := by
  unfold fSe_giveUp_l6
  refine zz_iload F (i := 5) dX3_giveUp_6 rfl ?_
  refine zz_aload_n F (i := 0) dX3_giveUp_8 rfl rfl ?_
  refine zz_getf F dX3_giveUp_9 wfRX3_56 zCl_3 rfl (⟨zlb rfl, zlb rfl, zlb rfl⟩) rfl (by decide) rfl rfl ?_
  refine zz_icmp_ge F (tgt := 50) dX3_giveUp_12 (by decide) (fun h => zz_t h ?_) (fun h => zz_f h ?_)
  · exact zz_sub (zs_k (zs_k (zs_k (zs_k (zs_k (zs_n (zs_k (zs_k (zs_k zs_z))))))))) (h2 q1.1)
  · refine zz_iload F (i := 4) dX3_giveUp_15 rfl ?_
    refine zz_aload_n F (i := 0) dX3_giveUp_17 rfl rfl ?_
    refine zz_iload F (i := 5) dX3_giveUp_18 rfl ?_
    refine zz_iload_n F (i := 1) dX3_giveUp_20 rfl rfl ?_
    refine zz_bind ?_
    refine zz_callVr F (ρ := [0]) (so := fun q3 => [zi q3, zi q1.1]) (Mo := fun q3 => [s0]) (zfSe_isOn q1.2 a1 s0) dX3_giveUp_21 wcRX3_189 wy_yX3_isOn rfl ⟨rel3, rfl, rfl, Nat.le_of_ble_eq_true rfl, Nat.le_of_ble_eq_true rfl, Nat.le_of_ble_eq_true rfl⟩ (⟨zlb rfl, zlb rfl, zlb rfl⟩) rfl rfl rfl (fun _ => rfl) (fun _ => rfl) fun q3 => ?_
    refine zz_join (pj := 41) (Lj := fun q4 => [some (zr 0 0 0), some (zi a1), some (zi a2), some (zi a3), none, some (zi q1.2), none, none, none]) (Sj := fun q4 => [zi q4, zi q1.1]) (Mj := fun q4 => [s0]) (fun q4 => ?_) (fun κ6 hj5 => ?_)
    · refine zz_iadd F dX3_giveUp_41 ?_
      refine zz_istore F (i := 4) (L' := [some (zr 0 0 0), some (zi a1), some (zi a2), some (zi a3), some (zi (q1.1 + q4)), some (zi q1.2), none, none, none]) dX3_giveUp_42 (by decide) rfl rfl ?_
      refine zz_letl (Lf := fun v9 => [some (zr 0 0 0), some (zi a1), some (zi a2), some (zi a3), some (zi v9), some (zi q1.2), none, none, none]) fun v9 => ?_
      refine zz_iinc F (i := 5) (v := q1.2 + 1) (L' := [some (zr 0 0 0), some (zi a1), some (zi a2), some (zi a3), some (zi v9), some (zi (q1.2 + 1)), none, none, none]) dX3_giveUp_44 rfl (by first | rfl | decide) (by decide) rfl rfl ?_
      refine zz_letl (Lf := fun v10 => [some (zr 0 0 0), some (zi a1), some (zi a2), some (zi a3), some (zi v9), some (zi v10), none, none, none]) fun v10 => ?_
      refine zz_goto F (tgt := 6) dX3_giveUp_47 (by decide) ?_
      exact zz_sub (zs_k (zs_k (zs_k (zs_k (zs_k (zs_k (zs_k (zs_k (zs_k zs_z))))))))) (h1 (v9, v10))
    · refine zz_if_eq F (tgt := 40) dX3_giveUp_24 (by decide) (fun h => zz_t h ?_) (fun h => zz_f h ?_)
      · refine zz_iconst F (v := (0 : Int32)) dX3_giveUp_40 (by decide) ?_
        exact zz_sub (zs_k (zs_k (zs_k (zs_k (zs_n (zs_k (zs_k (zs_k (zs_k zs_z))))))))) (hj5 (0 : Int32))
      · refine zz_aload_n F (i := 0) dX3_giveUp_27 rfl rfl ?_
        refine zz_getr F dX3_giveUp_28 wfRX3_11 zCl_3 rfl (⟨zlb rfl, zlb rfl, zlb rfl⟩) rfl (by decide) rfl (r' := 0) (by decide) ?_
        refine zz_iload F (i := 5) dX3_giveUp_31 rfl ?_
        refine zz_ix fun j8 hj8 hinj8 hej8 => zz_aal F dX3_giveUp_33 rfl (⟨zlb rfl, zlb rfl, zlb rfl⟩) rfl (by decide) rfl hinj8 hej8 rfl ?_
        refine zz_getf F dX3_giveUp_34 wfRX3_193 zCl_5 rfl (⟨zlb rfl, zlb rfl, hj8⟩) rfl (by decide) rfl rfl ?_
        refine zz_goto F (tgt := 41) dX3_giveUp_37 (by decide) ?_
        exact zz_sub (zs_k (zs_k (zs_k (zs_k (zs_n (zs_k (zs_k (zs_k (zs_k zs_z))))))))) (hj5 (s0 7 j8 10))
set_option maxHeartbeats 4000000 in
set_option maxRecDepth 20000 in
theorem bfSe_giveUp_l76 {X : zX} (F : zFr X cX3_giveUp 9 RX3 (some .int)) (a1 : Int32) (a3 : Int32) (q2 : (Int32)) (v11 : Int32) (a2 : Int32)  {ψ : (Int32 × Int32 × zM) ⊕ ((Int32 × zM)) → Option zO} (h1 : ∀ q12 : Int32 × Int32 × zM, zZ X [(0, [])] 1 22 9 76 [some (zr 0 0 0), some (zi a1), some (zi a2), some (zi a3), some (zi q2), some (zi v11), some (zi q12.1), some (zi q12.2.1), none] [] [q12.2.2] (ψ (.inl q12))) (h2 : ∀ q13 : Int32 × zM, zZ X [(0, [])] 1 22 9 139 [some (zr 0 0 0), some (zi a1), some (zi a2), some (zi a3), none, none, some (zi q13.1), none, none] [] [q13.2] (ψ (.inr q13))) (q12 : Int32 × Int32 × zM) : zZ X [(0, [])] 1 22 9 76 [some (zr 0 0 0), some (zi a1), some (zi a2), some (zi a3), some (zi q2), some (zi v11), some (zi q12.1), some (zi q12.2.1), none] [] [q12.2.2] (Option.bind (fSe_giveUp_l76 a1 a3 q2 v11 q12) ψ) := by
  unfold fSe_giveUp_l76
  refine zz_iload F (i := 7) dX3_giveUp_76 rfl ?_
  refine zz_aload_n F (i := 0) dX3_giveUp_78 rfl rfl ?_
  refine zz_getf F dX3_giveUp_79 wfRX3_56 zCl_3 rfl (⟨zlb rfl, zlb rfl, zlb rfl⟩) rfl (by decide) rfl rfl ?_
  refine zz_icmp_ge F (tgt := 139) dX3_giveUp_82 (by decide) (fun h => zz_t h ?_) (fun h => zz_f h ?_)
  · exact zz_sub (zs_k (zs_k (zs_k (zs_k (zs_n (zs_n (zs_k (zs_n (zs_k zs_z))))))))) (h2 (q12.1, q12.2.2))
  · refine zz_aload_n F (i := 0) dX3_giveUp_85 rfl rfl ?_
    refine zz_iload F (i := 7) dX3_giveUp_86 rfl ?_
    refine zz_iload_n F (i := 1) dX3_giveUp_88 rfl rfl ?_
    refine zz_bind ?_
    refine zz_callVr F (ρ := [0]) (so := fun q14 => [zi q14]) (Mo := fun q14 => [q12.2.2]) (zfSe_isOn q12.2.1 a1 q12.2.2) dX3_giveUp_89 wcRX3_189 wy_yX3_isOn rfl ⟨rel3, rfl, rfl, Nat.le_of_ble_eq_true rfl, Nat.le_of_ble_eq_true rfl, Nat.le_of_ble_eq_true rfl⟩ (⟨zlb rfl, zlb rfl, zlb rfl⟩) rfl rfl rfl (fun _ => rfl) (fun _ => rfl) fun q14 => ?_
    refine zz_join (pj := 133) (Lj := fun q15 => [some (zr 0 0 0), some (zi a1), some (zi a2), some (zi a3), some (zi q2), some (zi v11), some (zi q15.1), some (zi q12.2.1), none]) (Sj := fun q15 => []) (Mj := fun q15 => [q15.2]) (fun q15 => ?_) (fun κ17 hj16 => ?_)
    · refine zz_iinc F (i := 7) (v := q12.2.1 + 1) (L' := [some (zr 0 0 0), some (zi a1), some (zi a2), some (zi a3), some (zi q2), some (zi v11), some (zi q15.1), some (zi (q12.2.1 + 1)), none]) dX3_giveUp_133 rfl (by first | rfl | decide) (by decide) rfl rfl ?_
      refine zz_letl (Lf := fun v24 => [some (zr 0 0 0), some (zi a1), some (zi a2), some (zi a3), some (zi q2), some (zi v11), some (zi q15.1), some (zi v24), none]) fun v24 => ?_
      refine zz_goto F (tgt := 76) dX3_giveUp_136 (by decide) ?_
      exact zz_sub (zs_k (zs_k (zs_k (zs_k (zs_k (zs_k (zs_k (zs_k (zs_k zs_z))))))))) (h1 (q15.1, v24, q15.2))
    · refine zz_if_eq F (tgt := 133) dX3_giveUp_92 (by decide) (fun h => zz_t h ?_) (fun h => zz_f h ?_)
      · exact zz_sub (zs_k (zs_k (zs_k (zs_k (zs_k (zs_k (zs_k (zs_k (zs_k zs_z))))))))) (hj16 (q12.1, q12.2.2))
      · refine zz_aload_n F (i := 0) dX3_giveUp_95 rfl rfl ?_
        refine zz_getr F dX3_giveUp_96 wfRX3_11 zCl_3 rfl (⟨zlb rfl, zlb rfl, zlb rfl⟩) rfl (by decide) rfl (r' := 0) (by decide) ?_
        refine zz_iload F (i := 7) dX3_giveUp_99 rfl ?_
        refine zz_ix fun j19 hj19 hinj19 hej19 => zz_aal F dX3_giveUp_101 rfl (⟨zlb rfl, zlb rfl, zlb rfl⟩) rfl (by decide) rfl hinj19 hej19 rfl ?_
        refine zz_getf F dX3_giveUp_102 wfRX3_193 zCl_5 rfl (⟨zlb rfl, zlb rfl, hj19⟩) rfl (by decide) rfl rfl ?_
        refine zz_iload F (i := 5) dX3_giveUp_105 rfl ?_
        refine zz_imul F dX3_giveUp_107 ?_
        refine zz_iload F (i := 4) dX3_giveUp_108 rfl ?_
        refine zz_g fun h => zz_idiv F dX3_giveUp_110 h ?_
        refine zz_istore F (i := 8) (L' := [some (zr 0 0 0), some (zi a1), some (zi a2), some (zi a3), some (zi q2), some (zi v11), some (zi q12.1), some (zi q12.2.1), some (zi (((q12.2.2 7 j19 10) * v11) / q2))]) dX3_giveUp_111 (by decide) rfl rfl ?_
        refine zz_letl (Lf := fun v20 => [some (zr 0 0 0), some (zi a1), some (zi a2), some (zi a3), some (zi q2), some (zi v11), some (zi q12.1), some (zi q12.2.1), some (zi v20)]) fun v20 => ?_
        refine zz_aload_n F (i := 0) dX3_giveUp_113 rfl rfl ?_
        refine zz_getr F dX3_giveUp_114 wfRX3_11 zCl_3 rfl (⟨zlb rfl, zlb rfl, zlb rfl⟩) rfl (by decide) rfl (r' := 0) (by decide) ?_
        refine zz_iload F (i := 7) dX3_giveUp_117 rfl ?_
        refine zz_ix fun j21 hj21 hinj21 hej21 => zz_aal F dX3_giveUp_119 rfl (⟨zlb rfl, zlb rfl, zlb rfl⟩) rfl (by decide) rfl hinj21 hej21 rfl ?_
        refine zz_iload F (i := 8) dX3_giveUp_120 rfl ?_
        refine zz_iload_n F (i := 3) dX3_giveUp_122 rfl rfl ?_
        refine zz_bind ?_
        refine zz_callVr F (ρ := [0]) (so := fun q22 => []) (Mo := fun q22 => [q22]) (zfTu_lose j21 v20 a3 hj21 q12.2.2) dX3_giveUp_123 wcRX3_196 wy_yX5_lose rfl ⟨rel3, rfl, rfl, Nat.le_of_ble_eq_true rfl, Nat.le_of_ble_eq_true rfl, Nat.le_of_ble_eq_true rfl⟩ (⟨zlb rfl, zlb rfl, hj21⟩) rfl rfl rfl (fun _ => rfl) (fun _ => rfl) fun q22 => ?_
        refine zz_iload F (i := 6) dX3_giveUp_126 rfl ?_
        refine zz_iload F (i := 8) dX3_giveUp_128 rfl ?_
        refine zz_isub F dX3_giveUp_130 ?_
        refine zz_istore F (i := 6) (L' := [some (zr 0 0 0), some (zi a1), some (zi a2), some (zi a3), some (zi q2), some (zi v11), some (zi (q12.1 - v20)), some (zi q12.2.1), some (zi v20)]) dX3_giveUp_131 (by decide) rfl rfl ?_
        refine zz_letl (Lf := fun v23 => [some (zr 0 0 0), some (zi a1), some (zi a2), some (zi a3), some (zi q2), some (zi v11), some (zi v23), some (zi q12.2.1), some (zi v20)]) fun v23 => ?_
        exact zz_sub (zs_k (zs_k (zs_k (zs_k (zs_k (zs_k (zs_k (zs_k (zs_n zs_z))))))))) (hj16 (v23, q22))
set_option maxHeartbeats 4000000 in
set_option maxRecDepth 20000 in
theorem bfSe_giveUp_l142 {X : zX} (F : zFr X cX3_giveUp 9 RX3 (some .int)) (a1 : Int32) (a3 : Int32) (a2 : Int32)  {ψ : (Int32 × Int32 × zM) ⊕ ((zM)) → Option zO} (h1 : ∀ q25 : Int32 × Int32 × zM, zZ X [(0, [])] 1 22 9 142 [some (zr 0 0 0), some (zi a1), some (zi a2), some (zi a3), none, none, some (zi q25.1), some (zi q25.2.1), none] [] [q25.2.2] (ψ (.inl q25))) (h2 : ∀ q26 : zM, zZ X [(0, [])] 1 22 9 200 [none, none, some (zi a2), none, none, none, none, none, none] [] [q26] (ψ (.inr q26))) (q25 : Int32 × Int32 × zM) : zZ X [(0, [])] 1 22 9 142 [some (zr 0 0 0), some (zi a1), some (zi a2), some (zi a3), none, none, some (zi q25.1), some (zi q25.2.1), none] [] [q25.2.2] (Option.bind (fSe_giveUp_l142 a1 a3 q25) ψ) := by
  unfold fSe_giveUp_l142
  refine zz_iload F (i := 7) dX3_giveUp_142 rfl ?_
  refine zz_aload_n F (i := 0) dX3_giveUp_144 rfl rfl ?_
  refine zz_getf F dX3_giveUp_145 wfRX3_56 zCl_3 rfl (⟨zlb rfl, zlb rfl, zlb rfl⟩) rfl (by decide) rfl rfl ?_
  refine zz_icmp_ge F (tgt := 200) dX3_giveUp_148 (by decide) (fun h => zz_t h ?_) (fun h => zz_f h ?_)
  · exact zz_sub (zs_n (zs_n (zs_k (zs_n (zs_k (zs_k (zs_n (zs_n (zs_k zs_z))))))))) (h2 q25.2.2)
  · refine zz_iload F (i := 6) dX3_giveUp_151 rfl ?_
    refine zz_if_le F (tgt := 200) dX3_giveUp_153 (by decide) (fun h => zz_t h ?_) (fun h => zz_f h ?_)
    · exact zz_sub (zs_n (zs_n (zs_k (zs_n (zs_k (zs_k (zs_n (zs_n (zs_k zs_z))))))))) (h2 q25.2.2)
    · refine zz_aload_n F (i := 0) dX3_giveUp_156 rfl rfl ?_
      refine zz_iload F (i := 7) dX3_giveUp_157 rfl ?_
      refine zz_iload_n F (i := 1) dX3_giveUp_159 rfl rfl ?_
      refine zz_bind ?_
      refine zz_callVr F (ρ := [0]) (so := fun q27 => [zi q27]) (Mo := fun q27 => [q25.2.2]) (zfSe_isOn q25.2.1 a1 q25.2.2) dX3_giveUp_160 wcRX3_189 wy_yX3_isOn rfl ⟨rel3, rfl, rfl, Nat.le_of_ble_eq_true rfl, Nat.le_of_ble_eq_true rfl, Nat.le_of_ble_eq_true rfl⟩ (⟨zlb rfl, zlb rfl, zlb rfl⟩) rfl rfl rfl (fun _ => rfl) (fun _ => rfl) fun q27 => ?_
      refine zz_join (pj := 194) (Lj := fun q28 => [some (zr 0 0 0), some (zi a1), some (zi a2), some (zi a3), none, none, some (zi q28.1), some (zi q25.2.1), none]) (Sj := fun q28 => []) (Mj := fun q28 => [q28.2]) (fun q28 => ?_) (fun κ30 hj29 => ?_)
      · refine zz_iinc F (i := 7) (v := q25.2.1 + 1) (L' := [some (zr 0 0 0), some (zi a1), some (zi a2), some (zi a3), none, none, some (zi q28.1), some (zi (q25.2.1 + 1)), none]) dX3_giveUp_194 rfl (by first | rfl | decide) (by decide) rfl rfl ?_
        refine zz_letl (Lf := fun v36 => [some (zr 0 0 0), some (zi a1), some (zi a2), some (zi a3), none, none, some (zi q28.1), some (zi v36), none]) fun v36 => ?_
        refine zz_goto F (tgt := 142) dX3_giveUp_197 (by decide) ?_
        exact zz_sub (zs_k (zs_k (zs_k (zs_k (zs_k (zs_k (zs_k (zs_k (zs_k zs_z))))))))) (h1 (q28.1, v36, q28.2))
      · refine zz_if_eq F (tgt := 194) dX3_giveUp_163 (by decide) (fun h => zz_t h ?_) (fun h => zz_f h ?_)
        · exact zz_sub (zs_k (zs_k (zs_k (zs_k (zs_k (zs_k (zs_k (zs_k (zs_k zs_z))))))))) (hj29 (q25.1, q25.2.2))
        · refine zz_aload_n F (i := 0) dX3_giveUp_166 rfl rfl ?_
          refine zz_getr F dX3_giveUp_167 wfRX3_11 zCl_3 rfl (⟨zlb rfl, zlb rfl, zlb rfl⟩) rfl (by decide) rfl (r' := 0) (by decide) ?_
          refine zz_iload F (i := 7) dX3_giveUp_170 rfl ?_
          refine zz_ix fun j32 hj32 hinj32 hej32 => zz_aal F dX3_giveUp_172 rfl (⟨zlb rfl, zlb rfl, zlb rfl⟩) rfl (by decide) rfl hinj32 hej32 rfl ?_
          refine zz_getf F dX3_giveUp_173 wfRX3_193 zCl_5 rfl (⟨zlb rfl, zlb rfl, hj32⟩) rfl (by decide) rfl rfl ?_
          refine zz_if_le F (tgt := 194) dX3_giveUp_176 (by decide) (fun h => zz_t h ?_) (fun h => zz_f h ?_)
          · exact zz_sub (zs_k (zs_k (zs_k (zs_k (zs_k (zs_k (zs_k (zs_k (zs_k zs_z))))))))) (hj29 (q25.1, q25.2.2))
          · refine zz_aload_n F (i := 0) dX3_giveUp_179 rfl rfl ?_
            refine zz_getr F dX3_giveUp_180 wfRX3_11 zCl_3 rfl (⟨zlb rfl, zlb rfl, zlb rfl⟩) rfl (by decide) rfl (r' := 0) (by decide) ?_
            refine zz_iload F (i := 7) dX3_giveUp_183 rfl ?_
            refine zz_ix fun j33 hj33 hinj33 hej33 => zz_aal F dX3_giveUp_185 rfl (⟨zlb rfl, zlb rfl, zlb rfl⟩) rfl (by decide) rfl hinj33 hej33 rfl ?_
            refine zz_iconst F (v := (1 : Int32)) dX3_giveUp_186 (by decide) ?_
            refine zz_iload_n F (i := 3) dX3_giveUp_187 rfl rfl ?_
            refine zz_bind ?_
            refine zz_callVr F (ρ := [0]) (so := fun q34 => []) (Mo := fun q34 => [q34]) (zfTu_lose j33 (1 : Int32) a3 hj33 q25.2.2) dX3_giveUp_188 wcRX3_196 wy_yX5_lose rfl ⟨rel3, rfl, rfl, Nat.le_of_ble_eq_true rfl, Nat.le_of_ble_eq_true rfl, Nat.le_of_ble_eq_true rfl⟩ (⟨zlb rfl, zlb rfl, hj33⟩) rfl rfl rfl (fun _ => rfl) (fun _ => rfl) fun q34 => ?_
            refine zz_iinc F (i := 6) (v := q25.1 + (-1)) (L' := [some (zr 0 0 0), some (zi a1), some (zi a2), some (zi a3), none, none, some (zi (q25.1 + (-1))), some (zi q25.2.1), none]) dX3_giveUp_191 rfl (by first | rfl | decide) (by decide) rfl rfl ?_
            refine zz_letl (Lf := fun v35 => [some (zr 0 0 0), some (zi a1), some (zi a2), some (zi a3), none, none, some (zi v35), some (zi q25.2.1), none]) fun v35 => ?_
            exact zz_sub (zs_k (zs_k (zs_k (zs_k (zs_k (zs_k (zs_k (zs_k (zs_k zs_z))))))))) (hj29 (v35, q34))
set_option maxHeartbeats 4000000 in
set_option maxRecDepth 20000 in
theorem bfSe_giveUp {X : zX} (F : zFr X cX3_giveUp 9 RX3 (some .int)) (a1 : Int32) (a2 : Int32) (a3 : Int32)  (s0 : zM) {κ : Int32 × zM → Option zO} (hκ : ∀ a, κ a = some ((fun a => ((.inl ((fun q => some (zi q.1)) a), (fun q => [q.2]) a) : zO)) a)) : zZ X [(0, [])] 1 22 9 0 [some (zr 0 0 0), some (zi a1), some (zi a2), some (zi a3), none, none, none, none, none] [] [s0] (Option.bind (fSe_giveUp a1 a2 a3 s0) κ) := by
  unfold fSe_giveUp
  refine zz_iconst F (v := (0 : Int32)) dX3_giveUp_0 (by decide) ?_
  refine zz_istore F (i := 4) (L' := [some (zr 0 0 0), some (zi a1), some (zi a2), some (zi a3), some (zi (0 : Int32)), none, none, none, none]) dX3_giveUp_1 (by decide) rfl rfl ?_
  refine zz_iconst F (v := (0 : Int32)) dX3_giveUp_3 (by decide) ?_
  refine zz_istore F (i := 5) (L' := [some (zr 0 0 0), some (zi a1), some (zi a2), some (zi a3), some (zi (0 : Int32)), some (zi (0 : Int32)), none, none, none]) dX3_giveUp_4 (by decide) rfl rfl ?_
  refine zz_sub (zs_k (zs_k (zs_k (zs_k (zs_k (zs_k (zs_k (zs_k (zs_k zs_z))))))))) ?_
  refine zz_bind ?_
  refine zz_iter (Lf := fun q1 => [some (zr 0 0 0), some (zi a1), some (zi a2), some (zi a3), some (zi q1.1), some (zi q1.2), none, none, none]) (Mf := fun q1 => [s0]) (fun q1 _ e41 e42 => bfSe_giveUp_l6 F a1 s0 a2 a3  e41 (fun q2 => ?_)  q1) 1000 ((0 : Int32), (0 : Int32))
  rw [e42]
  refine zz_iload F (i := 4) dX3_giveUp_50 rfl ?_
  refine zz_iload_n F (i := 2) dX3_giveUp_52 rfl rfl ?_
  refine zz_isub F dX3_giveUp_53 ?_
  refine zz_istore F (i := 5) (L' := [some (zr 0 0 0), some (zi a1), some (zi a2), some (zi a3), some (zi q2), some (zi (q2 - a2)), none, none, none]) dX3_giveUp_54 (by decide) rfl rfl ?_
  refine zz_letl (Lf := fun v11 => [some (zr 0 0 0), some (zi a1), some (zi a2), some (zi a3), some (zi q2), some (zi v11), none, none, none]) fun v11 => ?_
  refine zz_iload F (i := 5) dX3_giveUp_56 rfl ?_
  refine zz_if_le F (tgt := 66) dX3_giveUp_58 (by decide) (fun h => zz_t h ?_) (fun h => zz_f h ?_)
  · refine zz_iload F (i := 4) dX3_giveUp_66 rfl ?_
    exact zz_ireturn F dX3_giveUp_68 rfl (hκ _)
  · refine zz_iload F (i := 4) dX3_giveUp_61 rfl ?_
    refine zz_if_gt F (tgt := 69) dX3_giveUp_63 (by decide) (fun h => zz_t h ?_) (fun h => zz_f h ?_)
    · refine zz_iload F (i := 5) dX3_giveUp_69 rfl ?_
      refine zz_istore F (i := 6) (L' := [some (zr 0 0 0), some (zi a1), some (zi a2), some (zi a3), some (zi q2), some (zi v11), some (zi v11), none, none]) dX3_giveUp_71 (by decide) rfl rfl ?_
      refine zz_iconst F (v := (0 : Int32)) dX3_giveUp_73 (by decide) ?_
      refine zz_istore F (i := 7) (L' := [some (zr 0 0 0), some (zi a1), some (zi a2), some (zi a3), some (zi q2), some (zi v11), some (zi v11), some (zi (0 : Int32)), none]) dX3_giveUp_74 (by decide) rfl rfl ?_
      refine zz_sub (zs_k (zs_k (zs_k (zs_k (zs_k (zs_k (zs_k (zs_k (zs_k zs_z))))))))) ?_
      refine zz_bind ?_
      refine zz_iter (Lf := fun q12 => [some (zr 0 0 0), some (zi a1), some (zi a2), some (zi a3), some (zi q2), some (zi v11), some (zi q12.1), some (zi q12.2.1), none]) (Mf := fun q12 => [q12.2.2]) (fun q12 _ e39 e40 => bfSe_giveUp_l76 F a1 a3 q2 v11 a2  e39 (fun q13 => ?_)  q12) 1000 (v11, (0 : Int32), s0)
      rw [e40]
      refine zz_iconst F (v := (0 : Int32)) dX3_giveUp_139 (by decide) ?_
      refine zz_istore F (i := 7) (L' := [some (zr 0 0 0), some (zi a1), some (zi a2), some (zi a3), none, none, some (zi q13.1), some (zi (0 : Int32)), none]) dX3_giveUp_140 (by decide) rfl rfl ?_
      refine zz_sub (zs_k (zs_k (zs_k (zs_k (zs_k (zs_k (zs_k (zs_k (zs_k zs_z))))))))) ?_
      refine zz_bind ?_
      refine zz_iter (Lf := fun q25 => [some (zr 0 0 0), some (zi a1), some (zi a2), some (zi a3), none, none, some (zi q25.1), some (zi q25.2.1), none]) (Mf := fun q25 => [q25.2.2]) (fun q25 _ e37 e38 => bfSe_giveUp_l142 F a1 a3 a2  e37 (fun q26 => ?_)  q25) 1000 (q13.1, (0 : Int32), q13.2)
      rw [e38]
      refine zz_iload_n F (i := 2) dX3_giveUp_200 rfl rfl ?_
      exact zz_ireturn F dX3_giveUp_201 rfl (hκ _)
    · refine zz_iload F (i := 4) dX3_giveUp_66 rfl ?_
      exact zz_ireturn F dX3_giveUp_68 rfl (hκ _)
theorem zfSe_giveUp (a1 : Int32) (a2 : Int32) (a3 : Int32)  (s0 : zM) : ∀ a, fSe_giveUp a1 a2 a3 s0 = some a → zMet yX3_giveUp cX3_giveUp 9 (some .int) 1 22 [(0, [])] [zr 0 0 0, zi a1, zi a2, zi a3] [s0] ((fun a => ((.inl ((fun q => some (zi q.1)) a), (fun q => [q.2]) a) : zO)) a) := fun a ha => zMet_of (L0 := [some (zr 0 0 0), some (zi a1), some (zi a2), some (zi a3), none, none, none, none, none]) (φ := Option.bind (fSe_giveUp a1 a2 a3 s0) (fun a => some ((fun a => ((.inl ((fun q => some (zi q.1)) a), (fun q => [q.2]) a) : zO)) a))) (by decide) (fun _ => Nat.le_of_ble_eq_true rfl) (zl0 5 rfl) (fun X F => bfSe_giveUp F a1 a2 a3 s0 (fun _ => rfl)) (by rw [ha]; rfl)

theorem dX0_carry_0 : decode cX0_carry 0 = .ok (.aload_n 0, 1) := by decide +kernel
theorem dX0_carry_1 : decode cX0_carry 1 = .ok (.iload_n 1, 1) := by decide +kernel
theorem dX0_carry_2 : decode cX0_carry 2 = .ok (.putfield 16, 3) := by decide +kernel
theorem dX0_carry_5 : decode cX0_carry 5 = .ok (.aload_n 0, 1) := by decide +kernel
theorem dX0_carry_6 : decode cX0_carry 6 = .ok (.iconst 3, 1) := by decide +kernel
theorem dX0_carry_7 : decode cX0_carry 7 = .ok (.aload_n 0, 1) := by decide +kernel
theorem dX0_carry_8 : decode cX0_carry 8 = .ok (.getfield 13, 3) := by decide +kernel
theorem dX0_carry_11 : decode cX0_carry 11 = .ok (.imul, 1) := by decide +kernel
theorem dX0_carry_12 : decode cX0_carry 12 = .ok (.iload_n 1, 1) := by decide +kernel
theorem dX0_carry_13 : decode cX0_carry 13 = .ok (.iadd, 1) := by decide +kernel
theorem dX0_carry_14 : decode cX0_carry 14 = .ok (.iconst 4, 1) := by decide +kernel
theorem dX0_carry_15 : decode cX0_carry 15 = .ok (.idiv, 1) := by decide +kernel
theorem dX0_carry_16 : decode cX0_carry 16 = .ok (.putfield 13, 3) := by decide +kernel
theorem dX0_carry_19 : decode cX0_carry 19 = .ok (.return_, 1) := by decide +kernel
theorem wpRX0_16 : zFw RX0 16 0 2 .int := ⟨_, rfl, by decide, zm_f 601 (by decide +kernel) rfl, rfl, by decide +kernel⟩
theorem wpRX0_13 : zFw RX0 13 0 1 .int := ⟨_, rfl, by decide, zm_f 599 (by decide +kernel) rfl, rfl, by decide +kernel⟩
def fCa_carry (i : Nat) (a1 : Int32) (s0 : zM) : Option (zM) :=
  zlet (zu s0 12 i 2 a1) fun s0_1 =>
  zlet (zu s0_1 12 i 1 ((((3 : Int32) * (s0_1 12 i 1)) + a1) / (4 : Int32))) fun s0_2 =>
  some s0_2
set_option maxHeartbeats 4000000 in
set_option maxRecDepth 20000 in
theorem bfCa_carry {X : zX} (F : zFr X cX0_carry 2 RX0 none) (i : Nat) (a1 : Int32) (hi : i < 3) (s0 : zM) {κ : zM → Option zO} (hκ : ∀ a, κ a = some ((fun a => ((.inl ((fun _ => (none : Option zV)) a), (fun q => [q]) a) : zO)) a)) : zZ X [(0, [])] 0 0 2 0 [some (zr 0 12 i), some (zi a1)] [] [s0] (Option.bind (fCa_carry i a1 s0) κ) := by
  unfold fCa_carry
  refine zz_aload_n F (i := 0) dX0_carry_0 rfl rfl ?_
  refine zz_iload_n F (i := 1) dX0_carry_1 rfl rfl ?_
  refine zz_put F (Ms' := [(zu s0 12 i 2 a1)]) dX0_carry_2 wpRX0_16 zCl_0 rfl (⟨zlb rfl, zlb rfl, hi⟩) rfl (by decide) rfl rfl rfl ?_
  refine zz_letm (Mf := fun s0_1 => [s0_1]) fun s0_1 => ?_
  refine zz_aload_n F (i := 0) dX0_carry_5 rfl rfl ?_
  refine zz_iconst F (v := (3 : Int32)) dX0_carry_6 (by decide) ?_
  refine zz_aload_n F (i := 0) dX0_carry_7 rfl rfl ?_
  refine zz_getf F dX0_carry_8 wfRX0_13 zCl_0 rfl (⟨zlb rfl, zlb rfl, hi⟩) rfl (by decide) rfl rfl ?_
  refine zz_imul F dX0_carry_11 ?_
  refine zz_iload_n F (i := 1) dX0_carry_12 rfl rfl ?_
  refine zz_iadd F dX0_carry_13 ?_
  refine zz_iconst F (v := (4 : Int32)) dX0_carry_14 (by decide) ?_
  refine zz_idiv F dX0_carry_15 (by decide) ?_
  refine zz_put F (Ms' := [(zu s0_1 12 i 1 ((((3 : Int32) * (s0_1 12 i 1)) + a1) / (4 : Int32)))]) dX0_carry_16 wpRX0_13 zCl_0 rfl (⟨zlb rfl, zlb rfl, hi⟩) rfl (by decide) rfl rfl rfl ?_
  refine zz_letm (Mf := fun s0_2 => [s0_2]) fun s0_2 => ?_
  exact zz_return F dX0_carry_19 rfl (hκ _)
theorem zfCa_carry (i : Nat) (a1 : Int32) (hi : i < 3) (s0 : zM) : ∀ a, fCa_carry i a1 s0 = some a → zMet yX0_carry cX0_carry 2 none 0 0 [(0, [])] [zr 0 12 i, zi a1] [s0] ((fun a => ((.inl ((fun _ => (none : Option zV)) a), (fun q => [q]) a) : zO)) a) := fun a ha => zMet_of (L0 := [some (zr 0 12 i), some (zi a1)]) (φ := Option.bind (fCa_carry i a1 s0) (fun a => some ((fun a => ((.inl ((fun _ => (none : Option zV)) a), (fun q => [q]) a) : zO)) a))) (by decide) (fun _ => Nat.le_of_ble_eq_true rfl) (zl0 0 rfl) (fun X F => bfCa_carry F i a1 hi s0 (fun _ => rfl)) (by rw [ha]; rfl)

theorem dX3_loadStrings_0 : decode cX3_loadStrings 0 = .ok (.iconst 0, 1) := by decide +kernel
theorem dX3_loadStrings_1 : decode cX3_loadStrings 1 = .ok (.istore_n 1, 1) := by decide +kernel
theorem dX3_loadStrings_2 : decode cX3_loadStrings 2 = .ok (.iload_n 1, 1) := by decide +kernel
theorem dX3_loadStrings_3 : decode cX3_loadStrings 3 = .ok (.aload_n 0, 1) := by decide +kernel
theorem dX3_loadStrings_4 : decode cX3_loadStrings 4 = .ok (.getfield 50, 3) := by decide +kernel
theorem dX3_loadStrings_7 : decode cX3_loadStrings 7 = .ok (.if_icmp .ge 34, 3) := by decide +kernel
theorem dX3_loadStrings_10 : decode cX3_loadStrings 10 = .ok (.aload_n 0, 1) := by decide +kernel
theorem dX3_loadStrings_11 : decode cX3_loadStrings 11 = .ok (.getfield 19, 3) := by decide +kernel
theorem dX3_loadStrings_14 : decode cX3_loadStrings 14 = .ok (.iload_n 1, 1) := by decide +kernel
theorem dX3_loadStrings_15 : decode cX3_loadStrings 15 = .ok (.aaload, 1) := by decide +kernel
theorem dX3_loadStrings_16 : decode cX3_loadStrings 16 = .ok (.aload_n 0, 1) := by decide +kernel
theorem dX3_loadStrings_17 : decode cX3_loadStrings 17 = .ok (.iload_n 1, 1) := by decide +kernel
theorem dX3_loadStrings_18 : decode cX3_loadStrings 18 = .ok (.aload_n 0, 1) := by decide +kernel
theorem dX3_loadStrings_19 : decode cX3_loadStrings 19 = .ok (.getfield 19, 3) := by decide +kernel
theorem dX3_loadStrings_22 : decode cX3_loadStrings 22 = .ok (.iload_n 1, 1) := by decide +kernel
theorem dX3_loadStrings_23 : decode cX3_loadStrings 23 = .ok (.aaload, 1) := by decide +kernel
theorem dX3_loadStrings_24 : decode cX3_loadStrings 24 = .ok (.invokevirtual 183, 3) := by decide +kernel
theorem dX3_loadStrings_27 : decode cX3_loadStrings 27 = .ok (.bipush 6, 2) := by decide +kernel
theorem dX3_loadStrings_29 : decode cX3_loadStrings 29 = .ok (.invokevirtual 166, 3) := by decide +kernel
theorem dX3_loadStrings_32 : decode cX3_loadStrings 32 = .ok (.invokevirtual 185, 3) := by decide +kernel
theorem dX3_loadStrings_35 : decode cX3_loadStrings 35 = .ok (.iinc 1 1, 3) := by decide +kernel
theorem dX3_loadStrings_38 : decode cX3_loadStrings 38 = .ok (.goto (-36), 3) := by decide +kernel
theorem dX3_loadStrings_41 : decode cX3_loadStrings 41 = .ok (.return_, 1) := by decide +kernel
theorem wcRX3_183 : Cond.methodLink RX3 183 yX0_limit ∈ zTg ∧ Cond.instanceMethod yX0_limit ∈ zTg ∧ Cond.selects RX0 yX0_limit yX0_limit ∈ zTg ∧ Cond.initialized RX0 ∈ zTg ∧ Cond.code yX0_limit cX0_limit 1 (some .int) ∈ zTg := ⟨zm_f 204 (by decide +kernel) rfl, zm_f 205 (by decide +kernel) rfl, zm_f 206 (by decide +kernel) rfl, zm_f 27 (by decide +kernel) rfl, zm_f 207 (by decide +kernel) rfl⟩
theorem wy_yX0_limit : yX0_limit.cls = RX0 ∧ yX0_limit.cls ≠ "java/lang/invoke/MethodHandle" ∧ yX0_limit.cls ≠ "java/lang/invoke/VarHandle" ∧ (parseMethodDescriptor yX0_limit.desc).map (fun d => d.parameters.length) = some 0 := by decide +kernel
theorem wcRX3_166 : Cond.methodLink RX3 166 yX3_giveUp ∈ zTg ∧ Cond.instanceMethod yX3_giveUp ∈ zTg ∧ Cond.selects RX3 yX3_giveUp yX3_giveUp ∈ zTg ∧ Cond.initialized RX3 ∈ zTg ∧ Cond.code yX3_giveUp cX3_giveUp 9 (some .int) ∈ zTg := ⟨zm_f 208 (by decide +kernel) rfl, zm_f 210 (by decide +kernel) rfl, zm_f 5 (by decide +kernel) rfl, zm_f 22 (by decide +kernel) rfl, zm_f 211 (by decide +kernel) rfl⟩
theorem wy_yX3_giveUp : yX3_giveUp.cls = RX3 ∧ yX3_giveUp.cls ≠ "java/lang/invoke/MethodHandle" ∧ yX3_giveUp.cls ≠ "java/lang/invoke/VarHandle" ∧ (parseMethodDescriptor yX3_giveUp.desc).map (fun d => d.parameters.length) = some 3 := by decide +kernel
theorem wcRX3_185 : Cond.methodLink RX3 185 yX0_carry ∈ zTg ∧ Cond.instanceMethod yX0_carry ∈ zTg ∧ Cond.selects RX0 yX0_carry yX0_carry ∈ zTg ∧ Cond.initialized RX0 ∈ zTg ∧ Cond.code yX0_carry cX0_carry 2 none ∈ zTg := ⟨zm_f 217 (by decide +kernel) rfl, zm_f 218 (by decide +kernel) rfl, zm_f 219 (by decide +kernel) rfl, zm_f 27 (by decide +kernel) rfl, zm_f 220 (by decide +kernel) rfl⟩
theorem wy_yX0_carry : yX0_carry.cls = RX0 ∧ yX0_carry.cls ≠ "java/lang/invoke/MethodHandle" ∧ yX0_carry.cls ≠ "java/lang/invoke/VarHandle" ∧ (parseMethodDescriptor yX0_carry.desc).map (fun d => d.parameters.length) = some 1 := by decide +kernel
def fSe_loadStrings_l2  (q1 : Int32 × zM) : Option ((Int32 × zM) ⊕ ((zM))) :=
  if (q1.2 0 0 6) ≤ q1.1 then
  some (.inr q1.2)
else
  zix q1.1 3 fun j3 =>
    zix q1.1 3 fun j4 =>
    Option.bind (fCa_limit j4 q1.2) fun q5 =>
    Option.bind (fSe_giveUp q1.1 q5 (6 : Int32) q1.2) fun q6 =>
    Option.bind (fCa_carry j3 q6.1 q6.2) fun q7 =>
    zlet (q1.1 + 1) fun v8 =>
    some (.inl (v8, q7))
def fSe_loadStrings  (s0 : zM) : Option (zM) :=
  Option.bind (ziter (fSe_loadStrings_l2 ) 1000 ((0 : Int32), s0)) fun q2 =>
  some q2
set_option maxHeartbeats 4000000 in
set_option maxRecDepth 20000 in
theorem bfSe_loadStrings_l2 {X : zX} (F : zFr X cX3_loadStrings 2 RX3 none)   {ψ : (Int32 × zM) ⊕ ((zM)) → Option zO} (h1 : ∀ q1 : Int32 × zM, zZ X [(0, [])] 2 50 2 2 [some (zr 0 0 0), some (zi q1.1)] [] [q1.2] (ψ (.inl q1))) (h2 : ∀ q2 : zM, zZ X [(0, [])] 2 50 2 41 [none, none] [] [q2] (ψ (.inr q2))) (q1 : Int32 × zM) : zZ X [(0, [])] 2 50 2 2 [some (zr 0 0 0), some (zi q1.1)] [] [q1.2] (Option.bind (fSe_loadStrings_l2  q1) ψ) := by
  unfold fSe_loadStrings_l2
  refine zz_iload_n F (i := 1) dX3_loadStrings_2 rfl rfl ?_
  refine zz_aload_n F (i := 0) dX3_loadStrings_3 rfl rfl ?_
  refine zz_getf F dX3_loadStrings_4 wfRX3_50 zCl_3 rfl (⟨zlb rfl, zlb rfl, zlb rfl⟩) rfl (by decide) rfl rfl ?_
  refine zz_icmp_ge F (tgt := 41) dX3_loadStrings_7 (by decide) (fun h => zz_t h ?_) (fun h => zz_f h ?_)
  · exact zz_sub (zs_n (zs_n zs_z)) (h2 q1.2)
  · refine zz_aload_n F (i := 0) dX3_loadStrings_10 rfl rfl ?_
    refine zz_getr F dX3_loadStrings_11 wfRX3_19 zCl_3 rfl (⟨zlb rfl, zlb rfl, zlb rfl⟩) rfl (by decide) rfl (r' := 0) (by decide) ?_
    refine zz_iload_n F (i := 1) dX3_loadStrings_14 rfl rfl ?_
    refine zz_ix fun j3 hj3 hinj3 hej3 => zz_aal F dX3_loadStrings_15 rfl (⟨zlb rfl, zlb rfl, zlb rfl⟩) rfl (by decide) rfl hinj3 hej3 rfl ?_
    refine zz_aload_n F (i := 0) dX3_loadStrings_16 rfl rfl ?_
    refine zz_iload_n F (i := 1) dX3_loadStrings_17 rfl rfl ?_
    refine zz_aload_n F (i := 0) dX3_loadStrings_18 rfl rfl ?_
    refine zz_getr F dX3_loadStrings_19 wfRX3_19 zCl_3 rfl (⟨zlb rfl, zlb rfl, zlb rfl⟩) rfl (by decide) rfl (r' := 0) (by decide) ?_
    refine zz_iload_n F (i := 1) dX3_loadStrings_22 rfl rfl ?_
    refine zz_ix fun j4 hj4 hinj4 hej4 => zz_aal F dX3_loadStrings_23 rfl (⟨zlb rfl, zlb rfl, zlb rfl⟩) rfl (by decide) rfl hinj4 hej4 rfl ?_
    refine zz_bind ?_
    refine zz_callVr F (ρ := [0]) (so := fun q5 => [zi q5, zi q1.1, zr 0 0 0, zr 0 12 j3]) (Mo := fun q5 => [q1.2]) (zfCa_limit j4 hj4 q1.2) dX3_loadStrings_24 wcRX3_183 wy_yX0_limit rfl ⟨rel3, rfl, rfl, Nat.le_of_ble_eq_true rfl, Nat.le_of_ble_eq_true rfl, Nat.le_of_ble_eq_true rfl⟩ (⟨zlb rfl, zlb rfl, hj4⟩) rfl rfl rfl (fun _ => rfl) (fun _ => rfl) fun q5 => ?_
    refine zz_bipush F (v := (6 : Int32)) dX3_loadStrings_27 (by decide) ?_
    refine zz_bind ?_
    refine zz_callVr F (ρ := [0]) (so := fun q6 => [zi q6.1, zr 0 12 j3]) (Mo := fun q6 => [q6.2]) (zfSe_giveUp q1.1 q5 (6 : Int32) q1.2) dX3_loadStrings_29 wcRX3_166 wy_yX3_giveUp rfl ⟨rel3, rfl, rfl, Nat.le_of_ble_eq_true rfl, Nat.le_of_ble_eq_true rfl, Nat.le_of_ble_eq_true rfl⟩ (⟨zlb rfl, zlb rfl, zlb rfl⟩) rfl rfl rfl (fun _ => rfl) (fun _ => rfl) fun q6 => ?_
    refine zz_bind ?_
    refine zz_callVr F (ρ := [0]) (so := fun q7 => []) (Mo := fun q7 => [q7]) (zfCa_carry j3 q6.1 hj3 q6.2) dX3_loadStrings_32 wcRX3_185 wy_yX0_carry rfl ⟨rel3, rfl, rfl, Nat.le_of_ble_eq_true rfl, Nat.le_of_ble_eq_true rfl, Nat.le_of_ble_eq_true rfl⟩ (⟨zlb rfl, zlb rfl, hj3⟩) rfl rfl rfl (fun _ => rfl) (fun _ => rfl) fun q7 => ?_
    refine zz_iinc F (i := 1) (v := q1.1 + 1) (L' := [some (zr 0 0 0), some (zi (q1.1 + 1))]) dX3_loadStrings_35 rfl (by first | rfl | decide) (by decide) rfl rfl ?_
    refine zz_letl (Lf := fun v8 => [some (zr 0 0 0), some (zi v8)]) fun v8 => ?_
    refine zz_goto F (tgt := 2) dX3_loadStrings_38 (by decide) ?_
    exact zz_sub (zs_k (zs_k zs_z)) (h1 (v8, q7))
set_option maxHeartbeats 4000000 in
set_option maxRecDepth 20000 in
theorem bfSe_loadStrings {X : zX} (F : zFr X cX3_loadStrings 2 RX3 none)   (s0 : zM) {κ : zM → Option zO} (hκ : ∀ a, κ a = some ((fun a => ((.inl ((fun _ => (none : Option zV)) a), (fun q => [q]) a) : zO)) a)) : zZ X [(0, [])] 2 50 2 0 [some (zr 0 0 0), none] [] [s0] (Option.bind (fSe_loadStrings s0) κ) := by
  unfold fSe_loadStrings
  refine zz_iconst F (v := (0 : Int32)) dX3_loadStrings_0 (by decide) ?_
  refine zz_istore_n F (i := 1) (L' := [some (zr 0 0 0), some (zi (0 : Int32))]) dX3_loadStrings_1 rfl (by decide) rfl rfl ?_
  refine zz_sub (zs_k (zs_k zs_z)) ?_
  refine zz_bind ?_
  refine zz_iter (Lf := fun q1 => [some (zr 0 0 0), some (zi q1.1)]) (Mf := fun q1 => [q1.2]) (fun q1 _ e9 e10 => bfSe_loadStrings_l2 F   e9 (fun q2 => ?_)  q1) 1000 ((0 : Int32), s0)
  rw [e10]
  exact zz_return F dX3_loadStrings_41 rfl (hκ _)
theorem zfSe_loadStrings   (s0 : zM) : ∀ a, fSe_loadStrings s0 = some a → zMet yX3_loadStrings cX3_loadStrings 2 none 2 50 [(0, [])] [zr 0 0 0] [s0] ((fun a => ((.inl ((fun _ => (none : Option zV)) a), (fun q => [q]) a) : zO)) a) := fun a ha => zMet_of (L0 := [some (zr 0 0 0), none]) (φ := Option.bind (fSe_loadStrings s0) (fun a => some ((fun a => ((.inl ((fun _ => (none : Option zV)) a), (fun q => [q]) a) : zO)) a))) (by decide) (fun _ => Nat.le_of_ble_eq_true rfl) (zl0 1 rfl) (fun X F => bfSe_loadStrings F s0 (fun _ => rfl)) (by rw [ha]; rfl)

theorem dX2_takeNominated_0 : decode cX2_takeNominated 0 = .ok (.aload_n 0, 1) := by decide +kernel
theorem dX2_takeNominated_1 : decode cX2_takeNominated 1 = .ok (.getfield 9, 3) := by decide +kernel
theorem dX2_takeNominated_4 : decode cX2_takeNominated 4 = .ok (.iconst 0, 1) := by decide +kernel
theorem dX2_takeNominated_5 : decode cX2_takeNominated 5 = .ok (.iaload, 1) := by decide +kernel
theorem dX2_takeNominated_6 : decode cX2_takeNominated 6 = .ok (.istore_n 1, 1) := by decide +kernel
theorem dX2_takeNominated_7 : decode cX2_takeNominated 7 = .ok (.iconst 1, 1) := by decide +kernel
theorem dX2_takeNominated_8 : decode cX2_takeNominated 8 = .ok (.istore_n 2, 1) := by decide +kernel
theorem dX2_takeNominated_9 : decode cX2_takeNominated 9 = .ok (.iload_n 2, 1) := by decide +kernel
theorem dX2_takeNominated_10 : decode cX2_takeNominated 10 = .ok (.bipush 24, 2) := by decide +kernel
theorem dX2_takeNominated_12 : decode cX2_takeNominated 12 = .ok (.if_icmp .ge 23, 3) := by decide +kernel
theorem dX2_takeNominated_15 : decode cX2_takeNominated 15 = .ok (.aload_n 0, 1) := by decide +kernel
theorem dX2_takeNominated_16 : decode cX2_takeNominated 16 = .ok (.getfield 9, 3) := by decide +kernel
theorem dX2_takeNominated_19 : decode cX2_takeNominated 19 = .ok (.iload_n 2, 1) := by decide +kernel
theorem dX2_takeNominated_20 : decode cX2_takeNominated 20 = .ok (.iconst 1, 1) := by decide +kernel
theorem dX2_takeNominated_21 : decode cX2_takeNominated 21 = .ok (.isub, 1) := by decide +kernel
theorem dX2_takeNominated_22 : decode cX2_takeNominated 22 = .ok (.aload_n 0, 1) := by decide +kernel
theorem dX2_takeNominated_23 : decode cX2_takeNominated 23 = .ok (.getfield 9, 3) := by decide +kernel
theorem dX2_takeNominated_26 : decode cX2_takeNominated 26 = .ok (.iload_n 2, 1) := by decide +kernel
theorem dX2_takeNominated_27 : decode cX2_takeNominated 27 = .ok (.iaload, 1) := by decide +kernel
theorem dX2_takeNominated_28 : decode cX2_takeNominated 28 = .ok (.iastore, 1) := by decide +kernel
theorem dX2_takeNominated_29 : decode cX2_takeNominated 29 = .ok (.iinc 2 1, 3) := by decide +kernel
theorem dX2_takeNominated_32 : decode cX2_takeNominated 32 = .ok (.goto (-23), 3) := by decide +kernel
theorem dX2_takeNominated_35 : decode cX2_takeNominated 35 = .ok (.aload_n 0, 1) := by decide +kernel
theorem dX2_takeNominated_36 : decode cX2_takeNominated 36 = .ok (.getfield 9, 3) := by decide +kernel
theorem dX2_takeNominated_39 : decode cX2_takeNominated 39 = .ok (.bipush 23, 2) := by decide +kernel
theorem dX2_takeNominated_41 : decode cX2_takeNominated 41 = .ok (.iconst (-1), 1) := by decide +kernel
theorem dX2_takeNominated_42 : decode cX2_takeNominated 42 = .ok (.iastore, 1) := by decide +kernel
theorem dX2_takeNominated_43 : decode cX2_takeNominated 43 = .ok (.iload_n 1, 1) := by decide +kernel
theorem dX2_takeNominated_44 : decode cX2_takeNominated 44 = .ok (.ireturn, 1) := by decide +kernel
theorem wfRX2_9 : zFl RX2 9 2 0 := ⟨_, rfl, by decide, zm_f 481 (by decide +kernel) rfl⟩
def fLe_takeNominated_l9  (q3 : Int32 × zM) : Option ((Int32 × zM) ⊕ ((zM))) :=
  if (24 : Int32) ≤ q3.1 then
  some (.inr q3.2)
else
  zix q3.1 24 fun j5 =>
    zix (q3.1 - (1 : Int32)) 24 fun j6 =>
    zlet (zu q3.2 6 0 j6 (q3.2 6 0 j5)) fun s0_7 =>
    zlet (q3.1 + 1) fun v8 =>
    some (.inl (v8, s0_7))
def fLe_takeNominated  (s0 : zM) : Option (Int32 × zM) :=
  zix (0 : Int32) 24 fun j1 =>
  zlet ((s0 6 0 j1)) fun v2 =>
  Option.bind (ziter (fLe_takeNominated_l9 ) 1000 ((1 : Int32), s0)) fun q4 =>
  zix (23 : Int32) 24 fun j9 =>
  zlet (zu q4 6 0 j9 (-1 : Int32)) fun s0_10 =>
  some (v2, s0_10)
set_option maxHeartbeats 4000000 in
set_option maxRecDepth 20000 in
theorem bfLe_takeNominated_l9 {X : zX} (F : zFr X cX2_takeNominated 3 RX2 (some .int)) (v2 : Int32)  {ψ : (Int32 × zM) ⊕ ((zM)) → Option zO} (h1 : ∀ q3 : Int32 × zM, zZ X [(0, [])] 0 0 3 9 [some (zr 0 5 0), some (zi v2), some (zi q3.1)] [] [q3.2] (ψ (.inl q3))) (h2 : ∀ q4 : zM, zZ X [(0, [])] 0 0 3 35 [some (zr 0 5 0), some (zi v2), none] [] [q4] (ψ (.inr q4))) (q3 : Int32 × zM) : zZ X [(0, [])] 0 0 3 9 [some (zr 0 5 0), some (zi v2), some (zi q3.1)] [] [q3.2] (Option.bind (fLe_takeNominated_l9  q3) ψ) := by
  unfold fLe_takeNominated_l9
  refine zz_iload_n F (i := 2) dX2_takeNominated_9 rfl rfl ?_
  refine zz_bipush F (v := (24 : Int32)) dX2_takeNominated_10 (by decide) ?_
  refine zz_icmp_ge F (tgt := 35) dX2_takeNominated_12 (by decide) (fun h => zz_t h ?_) (fun h => zz_f h ?_)
  · exact zz_sub (zs_k (zs_k (zs_n zs_z))) (h2 q3.2)
  · refine zz_aload_n F (i := 0) dX2_takeNominated_15 rfl rfl ?_
    refine zz_getr F dX2_takeNominated_16 wfRX2_9 zCl_2 rfl (⟨zlb rfl, zlb rfl, zlb rfl⟩) rfl (by decide) rfl (r' := 0) (by decide) ?_
    refine zz_iload_n F (i := 2) dX2_takeNominated_19 rfl rfl ?_
    refine zz_iconst F (v := (1 : Int32)) dX2_takeNominated_20 (by decide) ?_
    refine zz_isub F dX2_takeNominated_21 ?_
    refine zz_aload_n F (i := 0) dX2_takeNominated_22 rfl rfl ?_
    refine zz_getr F dX2_takeNominated_23 wfRX2_9 zCl_2 rfl (⟨zlb rfl, zlb rfl, zlb rfl⟩) rfl (by decide) rfl (r' := 0) (by decide) ?_
    refine zz_iload_n F (i := 2) dX2_takeNominated_26 rfl rfl ?_
    refine zz_ix fun j5 hj5 hinj5 hej5 => zz_ial F dX2_takeNominated_27 rfl (⟨zlb rfl, zlb rfl, zlb rfl⟩) rfl hinj5 hej5 ?_
    refine zz_ix fun j6 hj6 hinj6 hej6 => zz_ias F (Ms' := [(zu q3.2 6 0 j6 (q3.2 6 0 j5))]) dX2_takeNominated_28 rfl (⟨zlb rfl, zlb rfl, zlb rfl⟩) rfl hinj6 hej6 rfl ?_
    refine zz_letm (Mf := fun s0_7 => [s0_7]) fun s0_7 => ?_
    refine zz_iinc F (i := 2) (v := q3.1 + 1) (L' := [some (zr 0 5 0), some (zi v2), some (zi (q3.1 + 1))]) dX2_takeNominated_29 rfl (by first | rfl | decide) (by decide) rfl rfl ?_
    refine zz_letl (Lf := fun v8 => [some (zr 0 5 0), some (zi v2), some (zi v8)]) fun v8 => ?_
    refine zz_goto F (tgt := 9) dX2_takeNominated_32 (by decide) ?_
    exact zz_sub (zs_k (zs_k (zs_k zs_z))) (h1 (v8, s0_7))
set_option maxHeartbeats 4000000 in
set_option maxRecDepth 20000 in
theorem bfLe_takeNominated {X : zX} (F : zFr X cX2_takeNominated 3 RX2 (some .int))   (s0 : zM) {κ : Int32 × zM → Option zO} (hκ : ∀ a, κ a = some ((fun a => ((.inl ((fun q => some (zi q.1)) a), (fun q => [q.2]) a) : zO)) a)) : zZ X [(0, [])] 0 0 3 0 [some (zr 0 5 0), none, none] [] [s0] (Option.bind (fLe_takeNominated s0) κ) := by
  unfold fLe_takeNominated
  refine zz_aload_n F (i := 0) dX2_takeNominated_0 rfl rfl ?_
  refine zz_getr F dX2_takeNominated_1 wfRX2_9 zCl_2 rfl (⟨zlb rfl, zlb rfl, zlb rfl⟩) rfl (by decide) rfl (r' := 0) (by decide) ?_
  refine zz_iconst F (v := (0 : Int32)) dX2_takeNominated_4 (by decide) ?_
  refine zz_ix fun j1 hj1 hinj1 hej1 => zz_ial F dX2_takeNominated_5 rfl (⟨zlb rfl, zlb rfl, zlb rfl⟩) rfl hinj1 hej1 ?_
  refine zz_istore_n F (i := 1) (L' := [some (zr 0 5 0), some (zi (s0 6 0 j1)), none]) dX2_takeNominated_6 rfl (by decide) rfl rfl ?_
  refine zz_letl (Lf := fun v2 => [some (zr 0 5 0), some (zi v2), none]) fun v2 => ?_
  refine zz_iconst F (v := (1 : Int32)) dX2_takeNominated_7 (by decide) ?_
  refine zz_istore_n F (i := 2) (L' := [some (zr 0 5 0), some (zi v2), some (zi (1 : Int32))]) dX2_takeNominated_8 rfl (by decide) rfl rfl ?_
  refine zz_sub (zs_k (zs_k (zs_k zs_z))) ?_
  refine zz_bind ?_
  refine zz_iter (Lf := fun q3 => [some (zr 0 5 0), some (zi v2), some (zi q3.1)]) (Mf := fun q3 => [q3.2]) (fun q3 _ e11 e12 => bfLe_takeNominated_l9 F v2  e11 (fun q4 => ?_)  q3) 1000 ((1 : Int32), s0)
  rw [e12]
  refine zz_aload_n F (i := 0) dX2_takeNominated_35 rfl rfl ?_
  refine zz_getr F dX2_takeNominated_36 wfRX2_9 zCl_2 rfl (⟨zlb rfl, zlb rfl, zlb rfl⟩) rfl (by decide) rfl (r' := 0) (by decide) ?_
  refine zz_bipush F (v := (23 : Int32)) dX2_takeNominated_39 (by decide) ?_
  refine zz_iconst F (v := (-1 : Int32)) dX2_takeNominated_41 (by decide) ?_
  refine zz_ix fun j9 hj9 hinj9 hej9 => zz_ias F (Ms' := [(zu q4 6 0 j9 (-1 : Int32))]) dX2_takeNominated_42 rfl (⟨zlb rfl, zlb rfl, zlb rfl⟩) rfl hinj9 hej9 rfl ?_
  refine zz_letm (Mf := fun s0_10 => [s0_10]) fun s0_10 => ?_
  refine zz_iload_n F (i := 1) dX2_takeNominated_43 rfl rfl ?_
  exact zz_ireturn F dX2_takeNominated_44 rfl (hκ _)
theorem zfLe_takeNominated   (s0 : zM) : ∀ a, fLe_takeNominated s0 = some a → zMet yX2_takeNominated cX2_takeNominated 3 (some .int) 0 0 [(0, [])] [zr 0 5 0] [s0] ((fun a => ((.inl ((fun q => some (zi q.1)) a), (fun q => [q.2]) a) : zO)) a) := fun a ha => zMet_of (L0 := [some (zr 0 5 0), none, none]) (φ := Option.bind (fLe_takeNominated s0) (fun a => some ((fun a => ((.inl ((fun q => some (zi q.1)) a), (fun q => [q.2]) a) : zO)) a))) (by decide) (fun _ => Nat.le_of_ble_eq_true rfl) (zl0 2 rfl) (fun X F => bfLe_takeNominated F s0 (fun _ => rfl)) (by rw [ha]; rfl)

theorem dX2_book_0 : decode cX2_book 0 = .ok (.aload_n 0, 1) := by decide +kernel
theorem dX2_book_1 : decode cX2_book 1 = .ok (.dup, 1) := by decide +kernel
theorem dX2_book_2 : decode cX2_book 2 = .ok (.getfield 21, 3) := by decide +kernel
theorem dX2_book_5 : decode cX2_book 5 = .ok (.iload_n 1, 1) := by decide +kernel
theorem dX2_book_6 : decode cX2_book 6 = .ok (.iadd, 1) := by decide +kernel
theorem dX2_book_7 : decode cX2_book 7 = .ok (.putfield 21, 3) := by decide +kernel
theorem dX2_book_10 : decode cX2_book 10 = .ok (.aload_n 0, 1) := by decide +kernel
theorem dX2_book_11 : decode cX2_book 11 = .ok (.iload_n 2, 1) := by decide +kernel
theorem dX2_book_12 : decode cX2_book 12 = .ok (.putfield 28, 3) := by decide +kernel
theorem dX2_book_15 : decode cX2_book 15 = .ok (.aload_n 0, 1) := by decide +kernel
theorem dX2_book_16 : decode cX2_book 16 = .ok (.dup, 1) := by decide +kernel
theorem dX2_book_17 : decode cX2_book 17 = .ok (.getfield 25, 3) := by decide +kernel
theorem dX2_book_20 : decode cX2_book 20 = .ok (.iload_n 2, 1) := by decide +kernel
theorem dX2_book_21 : decode cX2_book 21 = .ok (.iadd, 1) := by decide +kernel
theorem dX2_book_22 : decode cX2_book 22 = .ok (.putfield 25, 3) := by decide +kernel
theorem dX2_book_25 : decode cX2_book 25 = .ok (.aload_n 0, 1) := by decide +kernel
theorem dX2_book_26 : decode cX2_book 26 = .ok (.dup, 1) := by decide +kernel
theorem dX2_book_27 : decode cX2_book 27 = .ok (.getfield 31, 3) := by decide +kernel
theorem dX2_book_30 : decode cX2_book 30 = .ok (.iload_n 2, 1) := by decide +kernel
theorem dX2_book_31 : decode cX2_book 31 = .ok (.iload_n 3, 1) := by decide +kernel
theorem dX2_book_32 : decode cX2_book 32 = .ok (.imul, 1) := by decide +kernel
theorem dX2_book_33 : decode cX2_book 33 = .ok (.bipush 100, 2) := by decide +kernel
theorem dX2_book_35 : decode cX2_book 35 = .ok (.idiv, 1) := by decide +kernel
theorem dX2_book_36 : decode cX2_book 36 = .ok (.iadd, 1) := by decide +kernel
theorem dX2_book_37 : decode cX2_book 37 = .ok (.putfield 31, 3) := by decide +kernel
theorem dX2_book_40 : decode cX2_book 40 = .ok (.aload_n 0, 1) := by decide +kernel
theorem dX2_book_41 : decode cX2_book 41 = .ok (.invokevirtual 34, 3) := by decide +kernel
theorem dX2_book_44 : decode cX2_book 44 = .ok (.istore 4, 2) := by decide +kernel
theorem dX2_book_46 : decode cX2_book 46 = .ok (.iload 4, 2) := by decide +kernel
theorem dX2_book_48 : decode cX2_book 48 = .ok (.iconst (-1), 1) := by decide +kernel
theorem dX2_book_49 : decode cX2_book 49 = .ok (.if_icmp .eq 25, 3) := by decide +kernel
theorem dX2_book_52 : decode cX2_book 52 = .ok (.aload_n 0, 1) := by decide +kernel
theorem dX2_book_53 : decode cX2_book 53 = .ok (.dup, 1) := by decide +kernel
theorem dX2_book_54 : decode cX2_book 54 = .ok (.getfield 31, 3) := by decide +kernel
theorem dX2_book_57 : decode cX2_book 57 = .ok (.iload 4, 2) := by decide +kernel
theorem dX2_book_59 : decode cX2_book 59 = .ok (.iload_n 2, 1) := by decide +kernel
theorem dX2_book_60 : decode cX2_book 60 = .ok (.isub, 1) := by decide +kernel
theorem dX2_book_61 : decode cX2_book 61 = .ok (.invokestatic 38, 3) := by decide +kernel
theorem dX2_book_64 : decode cX2_book 64 = .ok (.bipush 20, 2) := by decide +kernel
theorem dX2_book_66 : decode cX2_book 66 = .ok (.imul, 1) := by decide +kernel
theorem dX2_book_67 : decode cX2_book 67 = .ok (.bipush 100, 2) := by decide +kernel
theorem dX2_book_69 : decode cX2_book 69 = .ok (.idiv, 1) := by decide +kernel
theorem dX2_book_70 : decode cX2_book 70 = .ok (.isub, 1) := by decide +kernel
theorem dX2_book_71 : decode cX2_book 71 = .ok (.putfield 31, 3) := by decide +kernel
theorem dX2_book_74 : decode cX2_book 74 = .ok (.return_, 1) := by decide +kernel
theorem wfRX2_21 : zFl RX2 21 2 1 := ⟨_, rfl, by decide, zm_f 482 (by decide +kernel) rfl⟩
theorem wpRX2_21 : zFw RX2 21 2 1 .int := ⟨_, rfl, by decide, zm_f 482 (by decide +kernel) rfl, rfl, by decide +kernel⟩
theorem wpRX2_28 : zFw RX2 28 2 3 .int := ⟨_, rfl, by decide, zm_f 486 (by decide +kernel) rfl, rfl, by decide +kernel⟩
theorem wfRX2_25 : zFl RX2 25 2 2 := ⟨_, rfl, by decide, zm_f 484 (by decide +kernel) rfl⟩
theorem wpRX2_25 : zFw RX2 25 2 2 .int := ⟨_, rfl, by decide, zm_f 484 (by decide +kernel) rfl, rfl, by decide +kernel⟩
theorem wfRX2_31 : zFl RX2 31 2 4 := ⟨_, rfl, by decide, zm_f 488 (by decide +kernel) rfl⟩
theorem wpRX2_31 : zFw RX2 31 2 4 .int := ⟨_, rfl, by decide, zm_f 488 (by decide +kernel) rfl, rfl, by decide +kernel⟩
theorem wcRX2_34 : Cond.methodLink RX2 34 yX2_takeNominated ∈ zTg ∧ Cond.instanceMethod yX2_takeNominated ∈ zTg ∧ Cond.selects RX2 yX2_takeNominated yX2_takeNominated ∈ zTg ∧ Cond.initialized RX2 ∈ zTg ∧ Cond.code yX2_takeNominated cX2_takeNominated 3 (some .int) ∈ zTg := ⟨zm_f 225 (by decide +kernel) rfl, zm_f 227 (by decide +kernel) rfl, zm_f 7 (by decide +kernel) rfl, zm_f 24 (by decide +kernel) rfl, zm_f 229 (by decide +kernel) rfl⟩
theorem wy_yX2_takeNominated : yX2_takeNominated.cls = RX2 ∧ yX2_takeNominated.cls ≠ "java/lang/invoke/MethodHandle" ∧ yX2_takeNominated.cls ≠ "java/lang/invoke/VarHandle" ∧ (parseMethodDescriptor yX2_takeNominated.desc).map (fun d => d.parameters.length) = some 0 := by decide +kernel
theorem wmRX2_38 : Cond.methodLink RX2 38 Lib.Math.abs.name ∈ zTg := zm_f 230 (by decide +kernel) rfl
theorem wMath_abs : Cond.static Lib.Math.abs.name ∈ zTg ∧ Cond.initialized "java/lang/Math" ∈ zTg ∧ Cond.code Lib.Math.abs.name Lib.Math.abs.code 1 (some .int) ∈ zTg := ⟨zm_f 231 (by decide +kernel) rfl, zm_f 37 (by decide +kernel) rfl, zm_f 232 (by decide +kernel) rfl⟩
def fLe_book (a1 : Int32) (a2 : Int32) (a3 : Int32) (s0 : zM) : Option (zM) :=
  zlet (zu s0 5 0 1 ((s0 5 0 1) + a1)) fun s0_1 =>
  zlet (zu s0_1 5 0 3 a2) fun s0_2 =>
  zlet (zu s0_2 5 0 2 ((s0_2 5 0 2) + a2)) fun s0_3 =>
  zlet (zu s0_3 5 0 4 ((s0_3 5 0 4) + ((a2 * a3) / (100 : Int32)))) fun s0_4 =>
  Option.bind (fLe_takeNominated s0_4) fun q5 =>
  if q5.1 = (-1 : Int32) then
  some q5.2
else
  zlet (zu q5.2 5 0 4 ((q5.2 5 0 4) - (((zabs (q5.1 - a2)) * (20 : Int32)) / (100 : Int32)))) fun s0_6 =>
    some s0_6
set_option maxHeartbeats 4000000 in
set_option maxRecDepth 20000 in
theorem bfLe_book {X : zX} (F : zFr X cX2_book 5 RX2 none) (a1 : Int32) (a2 : Int32) (a3 : Int32)  (s0 : zM) {κ : zM → Option zO} (hκ : ∀ a, κ a = some ((fun a => ((.inl ((fun _ => (none : Option zV)) a), (fun q => [q]) a) : zO)) a)) : zZ X [(0, [])] 1 23 5 0 [some (zr 0 5 0), some (zi a1), some (zi a2), some (zi a3), none] [] [s0] (Option.bind (fLe_book a1 a2 a3 s0) κ) := by
  unfold fLe_book
  refine zz_aload_n F (i := 0) dX2_book_0 rfl rfl ?_
  refine zz_dup F dX2_book_1 rfl ?_
  refine zz_getf F dX2_book_2 wfRX2_21 zCl_2 rfl (⟨zlb rfl, zlb rfl, zlb rfl⟩) rfl (by decide) rfl rfl ?_
  refine zz_iload_n F (i := 1) dX2_book_5 rfl rfl ?_
  refine zz_iadd F dX2_book_6 ?_
  refine zz_put F (Ms' := [(zu s0 5 0 1 ((s0 5 0 1) + a1))]) dX2_book_7 wpRX2_21 zCl_2 rfl (⟨zlb rfl, zlb rfl, zlb rfl⟩) rfl (by decide) rfl rfl rfl ?_
  refine zz_letm (Mf := fun s0_1 => [s0_1]) fun s0_1 => ?_
  refine zz_aload_n F (i := 0) dX2_book_10 rfl rfl ?_
  refine zz_iload_n F (i := 2) dX2_book_11 rfl rfl ?_
  refine zz_put F (Ms' := [(zu s0_1 5 0 3 a2)]) dX2_book_12 wpRX2_28 zCl_2 rfl (⟨zlb rfl, zlb rfl, zlb rfl⟩) rfl (by decide) rfl rfl rfl ?_
  refine zz_letm (Mf := fun s0_2 => [s0_2]) fun s0_2 => ?_
  refine zz_aload_n F (i := 0) dX2_book_15 rfl rfl ?_
  refine zz_dup F dX2_book_16 rfl ?_
  refine zz_getf F dX2_book_17 wfRX2_25 zCl_2 rfl (⟨zlb rfl, zlb rfl, zlb rfl⟩) rfl (by decide) rfl rfl ?_
  refine zz_iload_n F (i := 2) dX2_book_20 rfl rfl ?_
  refine zz_iadd F dX2_book_21 ?_
  refine zz_put F (Ms' := [(zu s0_2 5 0 2 ((s0_2 5 0 2) + a2))]) dX2_book_22 wpRX2_25 zCl_2 rfl (⟨zlb rfl, zlb rfl, zlb rfl⟩) rfl (by decide) rfl rfl rfl ?_
  refine zz_letm (Mf := fun s0_3 => [s0_3]) fun s0_3 => ?_
  refine zz_aload_n F (i := 0) dX2_book_25 rfl rfl ?_
  refine zz_dup F dX2_book_26 rfl ?_
  refine zz_getf F dX2_book_27 wfRX2_31 zCl_2 rfl (⟨zlb rfl, zlb rfl, zlb rfl⟩) rfl (by decide) rfl rfl ?_
  refine zz_iload_n F (i := 2) dX2_book_30 rfl rfl ?_
  refine zz_iload_n F (i := 3) dX2_book_31 rfl rfl ?_
  refine zz_imul F dX2_book_32 ?_
  refine zz_bipush F (v := (100 : Int32)) dX2_book_33 (by decide) ?_
  refine zz_idiv F dX2_book_35 (by decide) ?_
  refine zz_iadd F dX2_book_36 ?_
  refine zz_put F (Ms' := [(zu s0_3 5 0 4 ((s0_3 5 0 4) + ((a2 * a3) / (100 : Int32))))]) dX2_book_37 wpRX2_31 zCl_2 rfl (⟨zlb rfl, zlb rfl, zlb rfl⟩) rfl (by decide) rfl rfl rfl ?_
  refine zz_letm (Mf := fun s0_4 => [s0_4]) fun s0_4 => ?_
  refine zz_aload_n F (i := 0) dX2_book_40 rfl rfl ?_
  refine zz_bind ?_
  refine zz_callVr F (ρ := [0]) (so := fun q5 => [zi q5.1]) (Mo := fun q5 => [q5.2]) (zfLe_takeNominated s0_4) dX2_book_41 wcRX2_34 wy_yX2_takeNominated rfl ⟨rel3, rfl, rfl, Nat.le_of_ble_eq_true rfl, Nat.le_of_ble_eq_true rfl, Nat.le_of_ble_eq_true rfl⟩ (⟨zlb rfl, zlb rfl, zlb rfl⟩) rfl rfl rfl (fun _ => rfl) (fun _ => rfl) fun q5 => ?_
  refine zz_istore F (i := 4) (L' := [some (zr 0 5 0), some (zi a1), some (zi a2), some (zi a3), some (zi q5.1)]) dX2_book_44 (by decide) rfl rfl ?_
  refine zz_iload F (i := 4) dX2_book_46 rfl ?_
  refine zz_iconst F (v := (-1 : Int32)) dX2_book_48 (by decide) ?_
  refine zz_icmp_eq F (tgt := 74) dX2_book_49 (by decide) (fun h => zz_t h ?_) (fun h => zz_f h ?_)
  · exact zz_return F dX2_book_74 rfl (hκ _)
  · refine zz_aload_n F (i := 0) dX2_book_52 rfl rfl ?_
    refine zz_dup F dX2_book_53 rfl ?_
    refine zz_getf F dX2_book_54 wfRX2_31 zCl_2 rfl (⟨zlb rfl, zlb rfl, zlb rfl⟩) rfl (by decide) rfl rfl ?_
    refine zz_iload F (i := 4) dX2_book_57 rfl ?_
    refine zz_iload_n F (i := 2) dX2_book_59 rfl rfl ?_
    refine zz_isub F dX2_book_60 ?_
    refine zz_abs F dX2_book_61 wmRX2_38 wMath_abs (Nat.le_of_ble_eq_true rfl) (Nat.le_of_ble_eq_true rfl) ?_
    refine zz_bipush F (v := (20 : Int32)) dX2_book_64 (by decide) ?_
    refine zz_imul F dX2_book_66 ?_
    refine zz_bipush F (v := (100 : Int32)) dX2_book_67 (by decide) ?_
    refine zz_idiv F dX2_book_69 (by decide) ?_
    refine zz_isub F dX2_book_70 ?_
    refine zz_put F (Ms' := [(zu q5.2 5 0 4 ((q5.2 5 0 4) - (((zabs (q5.1 - a2)) * (20 : Int32)) / (100 : Int32))))]) dX2_book_71 wpRX2_31 zCl_2 rfl (⟨zlb rfl, zlb rfl, zlb rfl⟩) rfl (by decide) rfl rfl rfl ?_
    refine zz_letm (Mf := fun s0_6 => [s0_6]) fun s0_6 => ?_
    exact zz_return F dX2_book_74 rfl (hκ _)
theorem zfLe_book (a1 : Int32) (a2 : Int32) (a3 : Int32)  (s0 : zM) : ∀ a, fLe_book a1 a2 a3 s0 = some a → zMet yX2_book cX2_book 5 none 1 23 [(0, [])] [zr 0 5 0, zi a1, zi a2, zi a3] [s0] ((fun a => ((.inl ((fun _ => (none : Option zV)) a), (fun q => [q]) a) : zO)) a) := fun a ha => zMet_of (L0 := [some (zr 0 5 0), some (zi a1), some (zi a2), some (zi a3), none]) (φ := Option.bind (fLe_book a1 a2 a3 s0) (fun a => some ((fun a => ((.inl ((fun _ => (none : Option zV)) a), (fun q => [q]) a) : zO)) a))) (by decide) (fun _ => Nat.le_of_ble_eq_true rfl) (zl0 1 rfl) (fun X F => bfLe_book F a1 a2 a3 s0 (fun _ => rfl)) (by rw [ha]; rfl)

theorem dX5_wearPart_0 : decode cX5_wearPart 0 = .ok (.iload_n 1, 1) := by decide +kernel
theorem dX5_wearPart_1 : decode cX5_wearPart 1 = .ok (.ifCond .lt 28, 3) := by decide +kernel
theorem dX5_wearPart_4 : decode cX5_wearPart 4 = .ok (.iload_n 1, 1) := by decide +kernel
theorem dX5_wearPart_5 : decode cX5_wearPart 5 = .ok (.iconst 3, 1) := by decide +kernel
theorem dX5_wearPart_6 : decode cX5_wearPart 6 = .ok (.if_icmp .ge 23, 3) := by decide +kernel
theorem dX5_wearPart_9 : decode cX5_wearPart 9 = .ok (.aload_n 0, 1) := by decide +kernel
theorem dX5_wearPart_10 : decode cX5_wearPart 10 = .ok (.getfield 24, 3) := by decide +kernel
theorem dX5_wearPart_13 : decode cX5_wearPart 13 = .ok (.iload_n 1, 1) := by decide +kernel
theorem dX5_wearPart_14 : decode cX5_wearPart 14 = .ok (.sipush 9999, 3) := by decide +kernel
theorem dX5_wearPart_17 : decode cX5_wearPart 17 = .ok (.aload_n 0, 1) := by decide +kernel
theorem dX5_wearPart_18 : decode cX5_wearPart 18 = .ok (.getfield 24, 3) := by decide +kernel
theorem dX5_wearPart_21 : decode cX5_wearPart 21 = .ok (.iload_n 1, 1) := by decide +kernel
theorem dX5_wearPart_22 : decode cX5_wearPart 22 = .ok (.iaload, 1) := by decide +kernel
theorem dX5_wearPart_23 : decode cX5_wearPart 23 = .ok (.iload_n 2, 1) := by decide +kernel
theorem dX5_wearPart_24 : decode cX5_wearPart 24 = .ok (.iadd, 1) := by decide +kernel
theorem dX5_wearPart_25 : decode cX5_wearPart 25 = .ok (.invokestatic 126, 3) := by decide +kernel
theorem dX5_wearPart_28 : decode cX5_wearPart 28 = .ok (.iastore, 1) := by decide +kernel
theorem dX5_wearPart_29 : decode cX5_wearPart 29 = .ok (.return_, 1) := by decide +kernel
theorem wmRX5_126 : Cond.methodLink RX5 126 Lib.Math.min.name ∈ zTg := zm_f 241 (by decide +kernel) rfl
def fTu_wearPart (i : Nat) (a1 : Int32) (a2 : Int32) (s0 : zM) : Option (zM) :=
  if a1 < 0 then
  some s0
else
  if (3 : Int32) ≤ a1 then
    some s0
  else
    zix a1 3 fun j1 =>
      zix a1 3 fun j2 =>
      zlet (zu s0 8 i j2 (zmin (9999 : Int32) ((s0 8 i j1) + a2))) fun s0_3 =>
      some s0_3
set_option maxHeartbeats 4000000 in
set_option maxRecDepth 20000 in
theorem bfTu_wearPart {X : zX} (F : zFr X cX5_wearPart 3 RX5 none) (i : Nat) (a1 : Int32) (a2 : Int32) (hi : i < 8) (s0 : zM) {κ : zM → Option zO} (hκ : ∀ a, κ a = some ((fun a => ((.inl ((fun _ => (none : Option zV)) a), (fun q => [q]) a) : zO)) a)) : zZ X [(0, [])] 1 23 3 0 [some (zr 0 7 i), some (zi a1), some (zi a2)] [] [s0] (Option.bind (fTu_wearPart i a1 a2 s0) κ) := by
  unfold fTu_wearPart
  refine zz_iload_n F (i := 1) dX5_wearPart_0 rfl rfl ?_
  refine zz_if_lt F (tgt := 29) dX5_wearPart_1 (by decide) (fun h => zz_t h ?_) (fun h => zz_f h ?_)
  · exact zz_return F dX5_wearPart_29 rfl (hκ _)
  · refine zz_iload_n F (i := 1) dX5_wearPart_4 rfl rfl ?_
    refine zz_iconst F (v := (3 : Int32)) dX5_wearPart_5 (by decide) ?_
    refine zz_icmp_ge F (tgt := 29) dX5_wearPart_6 (by decide) (fun h => zz_t h ?_) (fun h => zz_f h ?_)
    · exact zz_return F dX5_wearPart_29 rfl (hκ _)
    · refine zz_aload_n F (i := 0) dX5_wearPart_9 rfl rfl ?_
      refine zz_getr F dX5_wearPart_10 wfRX5_24 zCl_5 rfl (⟨zlb rfl, zlb rfl, hi⟩) rfl (by decide) rfl (r' := 0) (by decide) ?_
      refine zz_iload_n F (i := 1) dX5_wearPart_13 rfl rfl ?_
      refine zz_sipush F (v := (9999 : Int32)) dX5_wearPart_14 (by decide) ?_
      refine zz_aload_n F (i := 0) dX5_wearPart_17 rfl rfl ?_
      refine zz_getr F dX5_wearPart_18 wfRX5_24 zCl_5 rfl (⟨zlb rfl, zlb rfl, hi⟩) rfl (by decide) rfl (r' := 0) (by decide) ?_
      refine zz_iload_n F (i := 1) dX5_wearPart_21 rfl rfl ?_
      refine zz_ix fun j1 hj1 hinj1 hej1 => zz_ial F dX5_wearPart_22 rfl (⟨zlb rfl, zlb rfl, hi⟩) rfl hinj1 hej1 ?_
      refine zz_iload_n F (i := 2) dX5_wearPart_23 rfl rfl ?_
      refine zz_iadd F dX5_wearPart_24 ?_
      refine zz_min F dX5_wearPart_25 wmRX5_126 wMath_min (Nat.le_of_ble_eq_true rfl) (Nat.le_of_ble_eq_true rfl) ?_
      refine zz_ix fun j2 hj2 hinj2 hej2 => zz_ias F (Ms' := [(zu s0 8 i j2 (zmin (9999 : Int32) ((s0 8 i j1) + a2)))]) dX5_wearPart_28 rfl (⟨zlb rfl, zlb rfl, hi⟩) rfl hinj2 hej2 rfl ?_
      refine zz_letm (Mf := fun s0_3 => [s0_3]) fun s0_3 => ?_
      exact zz_return F dX5_wearPart_29 rfl (hκ _)
theorem zfTu_wearPart (i : Nat) (a1 : Int32) (a2 : Int32) (hi : i < 8) (s0 : zM) : ∀ a, fTu_wearPart i a1 a2 s0 = some a → zMet yX5_wearPart cX5_wearPart 3 none 1 23 [(0, [])] [zr 0 7 i, zi a1, zi a2] [s0] ((fun a => ((.inl ((fun _ => (none : Option zV)) a), (fun q => [q]) a) : zO)) a) := fun a ha => zMet_of (L0 := [some (zr 0 7 i), some (zi a1), some (zi a2)]) (φ := Option.bind (fTu_wearPart i a1 a2 s0) (fun a => some ((fun a => ((.inl ((fun _ => (none : Option zV)) a), (fun q => [q]) a) : zO)) a))) (by decide) (fun _ => Nat.le_of_ble_eq_true rfl) (zl0 0 rfl) (fun X F => bfTu_wearPart F i a1 a2 hi s0 (fun _ => rfl)) (by rw [ha]; rfl)

theorem dX1_goesOn_0 : decode cX1_goesOn 0 = .ok (.aload_n 0, 1) := by decide +kernel
theorem dX1_goesOn_1 : decode cX1_goesOn 1 = .ok (.getfield 21, 3) := by decide +kernel
theorem dX1_goesOn_4 : decode cX1_goesOn 4 = .ok (.iconst 2, 1) := by decide +kernel
theorem dX1_goesOn_5 : decode cX1_goesOn 5 = .ok (.if_icmp .ge 5, 3) := by decide +kernel
theorem dX1_goesOn_8 : decode cX1_goesOn 8 = .ok (.iconst 0, 1) := by decide +kernel
theorem dX1_goesOn_9 : decode cX1_goesOn 9 = .ok (.ireturn, 1) := by decide +kernel
theorem dX1_goesOn_10 : decode cX1_goesOn 10 = .ok (.aload_n 0, 1) := by decide +kernel
theorem dX1_goesOn_11 : decode cX1_goesOn 11 = .ok (.getfield 9, 3) := by decide +kernel
theorem dX1_goesOn_14 : decode cX1_goesOn 14 = .ok (.aload_n 0, 1) := by decide +kernel
theorem dX1_goesOn_15 : decode cX1_goesOn 15 = .ok (.getfield 21, 3) := by decide +kernel
theorem dX1_goesOn_18 : decode cX1_goesOn 18 = .ok (.iconst 1, 1) := by decide +kernel
theorem dX1_goesOn_19 : decode cX1_goesOn 19 = .ok (.isub, 1) := by decide +kernel
theorem dX1_goesOn_20 : decode cX1_goesOn 20 = .ok (.iaload, 1) := by decide +kernel
theorem dX1_goesOn_21 : decode cX1_goesOn 21 = .ok (.istore_n 2, 1) := by decide +kernel
theorem dX1_goesOn_22 : decode cX1_goesOn 22 = .ok (.iload_n 2, 1) := by decide +kernel
theorem dX1_goesOn_23 : decode cX1_goesOn 23 = .ok (.aload_n 0, 1) := by decide +kernel
theorem dX1_goesOn_24 : decode cX1_goesOn 24 = .ok (.getfield 9, 3) := by decide +kernel
theorem dX1_goesOn_27 : decode cX1_goesOn 27 = .ok (.aload_n 0, 1) := by decide +kernel
theorem dX1_goesOn_28 : decode cX1_goesOn 28 = .ok (.getfield 21, 3) := by decide +kernel
theorem dX1_goesOn_31 : decode cX1_goesOn 31 = .ok (.iconst 2, 1) := by decide +kernel
theorem dX1_goesOn_32 : decode cX1_goesOn 32 = .ok (.isub, 1) := by decide +kernel
theorem dX1_goesOn_33 : decode cX1_goesOn 33 = .ok (.iaload, 1) := by decide +kernel
theorem dX1_goesOn_34 : decode cX1_goesOn 34 = .ok (.if_icmp .le 16, 3) := by decide +kernel
theorem dX1_goesOn_37 : decode cX1_goesOn 37 = .ok (.iload_n 1, 1) := by decide +kernel
theorem dX1_goesOn_38 : decode cX1_goesOn 38 = .ok (.iload_n 2, 1) := by decide +kernel
theorem dX1_goesOn_39 : decode cX1_goesOn 39 = .ok (.if_icmp .le 7, 3) := by decide +kernel
theorem dX1_goesOn_42 : decode cX1_goesOn 42 = .ok (.iconst 1, 1) := by decide +kernel
theorem dX1_goesOn_43 : decode cX1_goesOn 43 = .ok (.goto 17, 3) := by decide +kernel
theorem dX1_goesOn_46 : decode cX1_goesOn 46 = .ok (.iconst 0, 1) := by decide +kernel
theorem dX1_goesOn_47 : decode cX1_goesOn 47 = .ok (.goto 13, 3) := by decide +kernel
theorem dX1_goesOn_50 : decode cX1_goesOn 50 = .ok (.iload_n 1, 1) := by decide +kernel
theorem dX1_goesOn_51 : decode cX1_goesOn 51 = .ok (.iload_n 2, 1) := by decide +kernel
theorem dX1_goesOn_52 : decode cX1_goesOn 52 = .ok (.if_icmp .ge 7, 3) := by decide +kernel
theorem dX1_goesOn_55 : decode cX1_goesOn 55 = .ok (.iconst 1, 1) := by decide +kernel
theorem dX1_goesOn_56 : decode cX1_goesOn 56 = .ok (.goto 4, 3) := by decide +kernel
theorem dX1_goesOn_59 : decode cX1_goesOn 59 = .ok (.iconst 0, 1) := by decide +kernel
theorem dX1_goesOn_60 : decode cX1_goesOn 60 = .ok (.ireturn, 1) := by decide +kernel
theorem wfRX1_21 : zFl RX1 21 1 1 := ⟨_, rfl, by decide, zm_f 513 (by decide +kernel) rfl⟩
theorem wfRX1_9 : zFl RX1 9 1 0 := ⟨_, rfl, by decide, zm_f 511 (by decide +kernel) rfl⟩
def fEx_goesOn (i : Nat) (a1 : Int32) (s0 : zM) : Option (Int32) :=
  if (2 : Int32) ≤ (s0 10 i 1) then
  zix ((s0 10 i 1) - (1 : Int32)) 30 fun j1 =>
    zlet ((s0 11 i j1)) fun v2 =>
    zix ((s0 10 i 1) - (2 : Int32)) 30 fun j3 =>
    if v2 ≤ (s0 11 i j3) then
    if v2 ≤ a1 then
      some (0 : Int32)
    else
      some (1 : Int32)
  else
    if a1 ≤ v2 then
      some (0 : Int32)
    else
      some (1 : Int32)
else
  some (0 : Int32)
set_option maxHeartbeats 4000000 in
set_option maxRecDepth 20000 in
theorem bfEx_goesOn {X : zX} (F : zFr X cX1_goesOn 3 RX1 (some .boolean)) (i : Nat) (a1 : Int32) (hi : i < 8) (s0 : zM) {κ : Int32 → Option zO} (hκ : ∀ a, κ a = some ((fun a => ((.inl ((fun q => some (zi q)) a), (fun _ => [s0]) a) : zO)) a)) : zZ X [(0, [])] 0 0 3 0 [some (zr 0 10 i), some (zi a1), none] [] [s0] (Option.bind (fEx_goesOn i a1 s0) κ) := by
  unfold fEx_goesOn
  refine zz_aload_n F (i := 0) dX1_goesOn_0 rfl rfl ?_
  refine zz_getf F dX1_goesOn_1 wfRX1_21 zCl_1 rfl (⟨zlb rfl, zlb rfl, hi⟩) rfl (by decide) rfl rfl ?_
  refine zz_iconst F (v := (2 : Int32)) dX1_goesOn_4 (by decide) ?_
  refine zz_icmp_ge F (tgt := 10) dX1_goesOn_5 (by decide) (fun h => zz_t h ?_) (fun h => zz_f h ?_)
  · refine zz_aload_n F (i := 0) dX1_goesOn_10 rfl rfl ?_
    refine zz_getr F dX1_goesOn_11 wfRX1_9 zCl_1 rfl (⟨zlb rfl, zlb rfl, hi⟩) rfl (by decide) rfl (r' := 0) (by decide) ?_
    refine zz_aload_n F (i := 0) dX1_goesOn_14 rfl rfl ?_
    refine zz_getf F dX1_goesOn_15 wfRX1_21 zCl_1 rfl (⟨zlb rfl, zlb rfl, hi⟩) rfl (by decide) rfl rfl ?_
    refine zz_iconst F (v := (1 : Int32)) dX1_goesOn_18 (by decide) ?_
    refine zz_isub F dX1_goesOn_19 ?_
    refine zz_ix fun j1 hj1 hinj1 hej1 => zz_ial F dX1_goesOn_20 rfl (⟨zlb rfl, zlb rfl, hi⟩) rfl hinj1 hej1 ?_
    refine zz_istore_n F (i := 2) (L' := [some (zr 0 10 i), some (zi a1), some (zi (s0 11 i j1))]) dX1_goesOn_21 rfl (by decide) rfl rfl ?_
    refine zz_letl (Lf := fun v2 => [some (zr 0 10 i), some (zi a1), some (zi v2)]) fun v2 => ?_
    refine zz_iload_n F (i := 2) dX1_goesOn_22 rfl rfl ?_
    refine zz_aload_n F (i := 0) dX1_goesOn_23 rfl rfl ?_
    refine zz_getr F dX1_goesOn_24 wfRX1_9 zCl_1 rfl (⟨zlb rfl, zlb rfl, hi⟩) rfl (by decide) rfl (r' := 0) (by decide) ?_
    refine zz_aload_n F (i := 0) dX1_goesOn_27 rfl rfl ?_
    refine zz_getf F dX1_goesOn_28 wfRX1_21 zCl_1 rfl (⟨zlb rfl, zlb rfl, hi⟩) rfl (by decide) rfl rfl ?_
    refine zz_iconst F (v := (2 : Int32)) dX1_goesOn_31 (by decide) ?_
    refine zz_isub F dX1_goesOn_32 ?_
    refine zz_ix fun j3 hj3 hinj3 hej3 => zz_ial F dX1_goesOn_33 rfl (⟨zlb rfl, zlb rfl, hi⟩) rfl hinj3 hej3 ?_
    refine zz_icmp_le F (tgt := 50) dX1_goesOn_34 (by decide) (fun h => zz_t h ?_) (fun h => zz_f h ?_)
    · refine zz_iload_n F (i := 1) dX1_goesOn_50 rfl rfl ?_
      refine zz_iload_n F (i := 2) dX1_goesOn_51 rfl rfl ?_
      refine zz_icmp_ge F (tgt := 59) dX1_goesOn_52 (by decide) (fun h => zz_t h ?_) (fun h => zz_f h ?_)
      · refine zz_iconst F (v := (0 : Int32)) dX1_goesOn_59 (by decide) ?_
        exact zz_zreturn F dX1_goesOn_60 rfl rfl (hκ _)
      · refine zz_iconst F (v := (1 : Int32)) dX1_goesOn_55 (by decide) ?_
        refine zz_goto F (tgt := 60) dX1_goesOn_56 (by decide) ?_
        exact zz_zreturn F dX1_goesOn_60 rfl rfl (hκ _)
    · refine zz_iload_n F (i := 1) dX1_goesOn_37 rfl rfl ?_
      refine zz_iload_n F (i := 2) dX1_goesOn_38 rfl rfl ?_
      refine zz_icmp_le F (tgt := 46) dX1_goesOn_39 (by decide) (fun h => zz_t h ?_) (fun h => zz_f h ?_)
      · refine zz_iconst F (v := (0 : Int32)) dX1_goesOn_46 (by decide) ?_
        refine zz_goto F (tgt := 60) dX1_goesOn_47 (by decide) ?_
        exact zz_zreturn F dX1_goesOn_60 rfl rfl (hκ _)
      · refine zz_iconst F (v := (1 : Int32)) dX1_goesOn_42 (by decide) ?_
        refine zz_goto F (tgt := 60) dX1_goesOn_43 (by decide) ?_
        exact zz_zreturn F dX1_goesOn_60 rfl rfl (hκ _)
  · refine zz_iconst F (v := (0 : Int32)) dX1_goesOn_8 (by decide) ?_
    exact zz_zreturn F dX1_goesOn_9 rfl rfl (hκ _)
theorem zfEx_goesOn (i : Nat) (a1 : Int32) (hi : i < 8) (s0 : zM) : ∀ a, fEx_goesOn i a1 s0 = some a → zMet yX1_goesOn cX1_goesOn 3 (some .boolean) 0 0 [(0, [])] [zr 0 10 i, zi a1] [s0] ((fun a => ((.inl ((fun q => some (zi q)) a), (fun _ => [s0]) a) : zO)) a) := fun a ha => zMet_of (L0 := [some (zr 0 10 i), some (zi a1), none]) (φ := Option.bind (fEx_goesOn i a1 s0) (fun a => some ((fun a => ((.inl ((fun q => some (zi q)) a), (fun _ => [s0]) a) : zO)) a))) (by decide) (fun _ => Nat.le_of_ble_eq_true rfl) (zl0 1 rfl) (fun X F => bfEx_goesOn F i a1 hi s0 (fun _ => rfl)) (by rw [ha]; rfl)
