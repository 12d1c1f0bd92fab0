theorem dX3_passHour_0 : decode cX3_passHour 0 = .ok (.aload_n 0, 1) := by decide +kernel
theorem dX3_passHour_1 : decode cX3_passHour 1 = .ok (.dup, 1) := by decide +kernel
theorem dX3_passHour_2 : decode cX3_passHour 2 = .ok (.getfield 74, 3) := by decide +kernel
theorem dX3_passHour_5 : decode cX3_passHour 5 = .ok (.iconst 1, 1) := by decide +kernel
theorem dX3_passHour_6 : decode cX3_passHour 6 = .ok (.iadd, 1) := by decide +kernel
theorem dX3_passHour_7 : decode cX3_passHour 7 = .ok (.putfield 74, 3) := by decide +kernel
theorem dX3_passHour_10 : decode cX3_passHour 10 = .ok (.iconst 0, 1) := by decide +kernel
theorem dX3_passHour_11 : decode cX3_passHour 11 = .ok (.istore_n 1, 1) := by decide +kernel
theorem dX3_passHour_12 : decode cX3_passHour 12 = .ok (.iload_n 1, 1) := by decide +kernel
theorem dX3_passHour_13 : decode cX3_passHour 13 = .ok (.aload_n 0, 1) := by decide +kernel
theorem dX3_passHour_14 : decode cX3_passHour 14 = .ok (.getfield 56, 3) := by decide +kernel
theorem dX3_passHour_17 : decode cX3_passHour 17 = .ok (.if_icmp .ge 26, 3) := by decide +kernel
theorem dX3_passHour_20 : decode cX3_passHour 20 = .ok (.aload_n 0, 1) := by decide +kernel
theorem dX3_passHour_21 : decode cX3_passHour 21 = .ok (.getfield 11, 3) := by decide +kernel
theorem dX3_passHour_24 : decode cX3_passHour 24 = .ok (.iload_n 1, 1) := by decide +kernel
theorem dX3_passHour_25 : decode cX3_passHour 25 = .ok (.aaload, 1) := by decide +kernel
theorem dX3_passHour_26 : decode cX3_passHour 26 = .ok (.aload_n 0, 1) := by decide +kernel
theorem dX3_passHour_27 : decode cX3_passHour 27 = .ok (.getfield 32, 3) := by decide +kernel
theorem dX3_passHour_30 : decode cX3_passHour 30 = .ok (.aload_n 0, 1) := by decide +kernel
theorem dX3_passHour_31 : decode cX3_passHour 31 = .ok (.getfield 43, 3) := by decide +kernel
theorem dX3_passHour_34 : decode cX3_passHour 34 = .ok (.invokevirtual 139, 3) := by decide +kernel
theorem dX3_passHour_37 : decode cX3_passHour 37 = .ok (.iinc 1 1, 3) := by decide +kernel
theorem dX3_passHour_40 : decode cX3_passHour 40 = .ok (.goto (-28), 3) := by decide +kernel
theorem dX3_passHour_43 : decode cX3_passHour 43 = .ok (.aload_n 0, 1) := by decide +kernel
theorem dX3_passHour_44 : decode cX3_passHour 44 = .ok (.getfield 32, 3) := by decide +kernel
theorem dX3_passHour_47 : decode cX3_passHour 47 = .ok (.getfield 143, 3) := by decide +kernel
theorem dX3_passHour_50 : decode cX3_passHour 50 = .ok (.invokestatic 146, 3) := by decide +kernel
theorem dX3_passHour_53 : decode cX3_passHour 53 = .ok (.istore_n 1, 1) := by decide +kernel
theorem dX3_passHour_54 : decode cX3_passHour 54 = .ok (.iconst 0, 1) := by decide +kernel
theorem dX3_passHour_55 : decode cX3_passHour 55 = .ok (.istore_n 2, 1) := by decide +kernel
theorem dX3_passHour_56 : decode cX3_passHour 56 = .ok (.iload_n 2, 1) := by decide +kernel
theorem dX3_passHour_57 : decode cX3_passHour 57 = .ok (.aload_n 0, 1) := by decide +kernel
theorem dX3_passHour_58 : decode cX3_passHour 58 = .ok (.getfield 56, 3) := by decide +kernel
theorem dX3_passHour_61 : decode cX3_passHour 61 = .ok (.if_icmp .ge 34, 3) := by decide +kernel
theorem dX3_passHour_64 : decode cX3_passHour 64 = .ok (.aload_n 0, 1) := by decide +kernel
theorem dX3_passHour_65 : decode cX3_passHour 65 = .ok (.getfield 11, 3) := by decide +kernel
theorem dX3_passHour_68 : decode cX3_passHour 68 = .ok (.iload_n 2, 1) := by decide +kernel
theorem dX3_passHour_69 : decode cX3_passHour 69 = .ok (.aaload, 1) := by decide +kernel
theorem dX3_passHour_70 : decode cX3_passHour 70 = .ok (.aload_n 0, 1) := by decide +kernel
theorem dX3_passHour_71 : decode cX3_passHour 71 = .ok (.getfield 32, 3) := by decide +kernel
theorem dX3_passHour_74 : decode cX3_passHour 74 = .ok (.getfield 143, 3) := by decide +kernel
theorem dX3_passHour_77 : decode cX3_passHour 77 = .ok (.aload_n 0, 1) := by decide +kernel
theorem dX3_passHour_78 : decode cX3_passHour 78 = .ok (.iload_n 2, 1) := by decide +kernel
theorem dX3_passHour_79 : decode cX3_passHour 79 = .ok (.invokevirtual 150, 3) := by decide +kernel
theorem dX3_passHour_82 : decode cX3_passHour 82 = .ok (.invokestatic 153, 3) := by decide +kernel
theorem dX3_passHour_85 : decode cX3_passHour 85 = .ok (.iload_n 1, 1) := by decide +kernel
theorem dX3_passHour_86 : decode cX3_passHour 86 = .ok (.invokevirtual 156, 3) := by decide +kernel
theorem dX3_passHour_89 : decode cX3_passHour 89 = .ok (.iinc 2 1, 3) := by decide +kernel
theorem dX3_passHour_92 : decode cX3_passHour 92 = .ok (.goto (-36), 3) := by decide +kernel
theorem dX3_passHour_95 : decode cX3_passHour 95 = .ok (.aload_n 0, 1) := by decide +kernel
theorem dX3_passHour_96 : decode cX3_passHour 96 = .ok (.invokevirtual 160, 3) := by decide +kernel
theorem dX3_passHour_99 : decode cX3_passHour 99 = .ok (.aload_n 0, 1) := by decide +kernel
theorem dX3_passHour_100 : decode cX3_passHour 100 = .ok (.iconst (-1), 1) := by decide +kernel
theorem dX3_passHour_101 : decode cX3_passHour 101 = .ok (.aload_n 0, 1) := by decide +kernel
theorem dX3_passHour_102 : decode cX3_passHour 102 = .ok (.getfield 32, 3) := by decide +kernel
theorem dX3_passHour_105 : decode cX3_passHour 105 = .ok (.getfield 163, 3) := by decide +kernel
theorem dX3_passHour_108 : decode cX3_passHour 108 = .ok (.bipush 7, 2) := by decide +kernel
theorem dX3_passHour_110 : decode cX3_passHour 110 = .ok (.invokevirtual 166, 3) := by decide +kernel
theorem dX3_passHour_113 : decode cX3_passHour 113 = .ok (.istore_n 2, 1) := by decide +kernel
theorem dX3_passHour_114 : decode cX3_passHour 114 = .ok (.aload_n 0, 1) := by decide +kernel
theorem dX3_passHour_115 : decode cX3_passHour 115 = .ok (.getfield 39, 3) := by decide +kernel
theorem dX3_passHour_118 : decode cX3_passHour 118 = .ok (.iload_n 1, 1) := by decide +kernel
theorem dX3_passHour_119 : decode cX3_passHour 119 = .ok (.aload_n 0, 1) := by decide +kernel
theorem dX3_passHour_120 : decode cX3_passHour 120 = .ok (.getfield 56, 3) := by decide +kernel
theorem dX3_passHour_123 : decode cX3_passHour 123 = .ok (.imul, 1) := by decide +kernel
theorem dX3_passHour_124 : decode cX3_passHour 124 = .ok (.iload_n 2, 1) := by decide +kernel
theorem dX3_passHour_125 : decode cX3_passHour 125 = .ok (.aload_n 0, 1) := by decide +kernel
theorem dX3_passHour_126 : decode cX3_passHour 126 = .ok (.getfield 32, 3) := by decide +kernel
theorem dX3_passHour_129 : decode cX3_passHour 129 = .ok (.getfield 170, 3) := by decide +kernel
theorem dX3_passHour_132 : decode cX3_passHour 132 = .ok (.invokevirtual 173, 3) := by decide +kernel
theorem dX3_passHour_135 : decode cX3_passHour 135 = .ok (.iconst 0, 1) := by decide +kernel
theorem dX3_passHour_136 : decode cX3_passHour 136 = .ok (.istore_n 3, 1) := by decide +kernel
theorem dX3_passHour_137 : decode cX3_passHour 137 = .ok (.iload_n 3, 1) := by decide +kernel
theorem dX3_passHour_138 : decode cX3_passHour 138 = .ok (.aload_n 0, 1) := by decide +kernel
theorem dX3_passHour_139 : decode cX3_passHour 139 = .ok (.getfield 56, 3) := by decide +kernel
theorem dX3_passHour_142 : decode cX3_passHour 142 = .ok (.if_icmp .ge 18, 3) := by decide +kernel
theorem dX3_passHour_145 : decode cX3_passHour 145 = .ok (.aload_n 0, 1) := by decide +kernel
theorem dX3_passHour_146 : decode cX3_passHour 146 = .ok (.getfield 11, 3) := by decide +kernel
theorem dX3_passHour_149 : decode cX3_passHour 149 = .ok (.iload_n 3, 1) := by decide +kernel
theorem dX3_passHour_150 : decode cX3_passHour 150 = .ok (.aaload, 1) := by decide +kernel
theorem dX3_passHour_151 : decode cX3_passHour 151 = .ok (.invokevirtual 177, 3) := by decide +kernel
theorem dX3_passHour_154 : decode cX3_passHour 154 = .ok (.iinc 3 1, 3) := by decide +kernel
theorem dX3_passHour_157 : decode cX3_passHour 157 = .ok (.goto (-20), 3) := by decide +kernel
theorem dX3_passHour_160 : decode cX3_passHour 160 = .ok (.iconst 0, 1) := by decide +kernel
theorem dX3_passHour_161 : decode cX3_passHour 161 = .ok (.istore_n 3, 1) := by decide +kernel
theorem dX3_passHour_162 : decode cX3_passHour 162 = .ok (.iload_n 3, 1) := by decide +kernel
theorem dX3_passHour_163 : decode cX3_passHour 163 = .ok (.aload_n 0, 1) := by decide +kernel
theorem dX3_passHour_164 : decode cX3_passHour 164 = .ok (.getfield 68, 3) := by decide +kernel
theorem dX3_passHour_167 : decode cX3_passHour 167 = .ok (.if_icmp .ge 19, 3) := by decide +kernel
theorem dX3_passHour_170 : decode cX3_passHour 170 = .ok (.aload_n 0, 1) := by decide +kernel
theorem dX3_passHour_171 : decode cX3_passHour 171 = .ok (.aload_n 0, 1) := by decide +kernel
theorem dX3_passHour_172 : decode cX3_passHour 172 = .ok (.getfield 25, 3) := by decide +kernel
theorem dX3_passHour_175 : decode cX3_passHour 175 = .ok (.iload_n 3, 1) := by decide +kernel
theorem dX3_passHour_176 : decode cX3_passHour 176 = .ok (.aaload, 1) := by decide +kernel
theorem dX3_passHour_177 : decode cX3_passHour 177 = .ok (.invokevirtual 180, 3) := by decide +kernel
theorem dX3_passHour_180 : decode cX3_passHour 180 = .ok (.iinc 3 1, 3) := by decide +kernel
theorem dX3_passHour_183 : decode cX3_passHour 183 = .ok (.goto (-21), 3) := by decide +kernel
theorem dX3_passHour_186 : decode cX3_passHour 186 = .ok (.iload_n 2, 1) := by decide +kernel
theorem dX3_passHour_187 : decode cX3_passHour 187 = .ok (.ireturn, 1) := by decide +kernel
theorem wfRX3_74 : zFl RX3 74 3 8 := ⟨_, rfl, by decide, zm_f 662 (by decide +kernel) rfl⟩
theorem wpRX3_74 : zFw RX3 74 3 8 .int := ⟨_, rfl, by decide, zm_f 662 (by decide +kernel) rfl, rfl, by decide +kernel⟩
theorem wfRX3_43 : zFl RX3 43 3 9 := ⟨_, rfl, by decide, zm_f 664 (by decide +kernel) rfl⟩
theorem wcRX3_139 : Cond.methodLink RX3 139 yX5_settle ∈ zTg ∧ Cond.instanceMethod yX5_settle ∈ zTg ∧ Cond.selects RX5 yX5_settle yX5_settle ∈ zTg ∧ Cond.initialized RX5 ∈ zTg ∧ Cond.code yX5_settle cX5_settle 5 none ∈ zTg := ⟨zm_f 128 (by decide +kernel) rfl, zm_f 129 (by decide +kernel) rfl, zm_f 130 (by decide +kernel) rfl, zm_f 25 (by decide +kernel) rfl, zm_f 131 (by decide +kernel) rfl⟩
theorem wy_yX5_settle : yX5_settle.cls = RX5 ∧ yX5_settle.cls ≠ "java/lang/invoke/MethodHandle" ∧ yX5_settle.cls ≠ "java/lang/invoke/VarHandle" ∧ (parseMethodDescriptor yX5_settle.desc).map (fun d => d.parameters.length) = some 2 := by decide +kernel
theorem wfRX3_143 : zFl RX3 143 7 1 := ⟨_, rfl, by decide, zm_f 457 (by decide +kernel) rfl⟩
theorem wcRX3_146 : Cond.methodLink RX3 146 yX7_power ∈ zTg ∧ Cond.static yX7_power ∈ zTg ∧ Cond.initialized yX7_power.cls ∈ zTg ∧ Cond.code yX7_power cX7_power 1 (some .int) ∈ zTg := ⟨zm_f 155 (by decide +kernel) rfl, zm_f 156 (by decide +kernel) rfl, zm_f 36 (by decide +kernel) rfl, zm_f 157 (by decide +kernel) rfl⟩
theorem wcRX3_150 : Cond.methodLink RX3 150 yX3_deficitOf ∈ zTg ∧ Cond.instanceMethod yX3_deficitOf ∈ zTg ∧ Cond.selects RX3 yX3_deficitOf yX3_deficitOf ∈ zTg ∧ Cond.initialized RX3 ∈ zTg ∧ Cond.code yX3_deficitOf cX3_deficitOf 6 (some .int) ∈ zTg := ⟨zm_f 161 (by decide +kernel) rfl, zm_f 162 (by decide +kernel) rfl, zm_f 163 (by decide +kernel) rfl, zm_f 22 (by decide +kernel) rfl, zm_f 164 (by decide +kernel) rfl⟩
theorem wy_yX3_deficitOf : yX3_deficitOf.cls = RX3 ∧ yX3_deficitOf.cls ≠ "java/lang/invoke/MethodHandle" ∧ yX3_deficitOf.cls ≠ "java/lang/invoke/VarHandle" ∧ (parseMethodDescriptor yX3_deficitOf.desc).map (fun d => d.parameters.length) = some 1 := by decide +kernel
theorem wcRX3_153 : Cond.methodLink RX3 153 yX7_wind ∈ zTg ∧ Cond.static yX7_wind ∈ zTg ∧ Cond.initialized yX7_wind.cls ∈ zTg ∧ Cond.code yX7_wind cX7_wind 2 (some .int) ∈ zTg := ⟨zm_f 182 (by decide +kernel) rfl, zm_f 183 (by decide +kernel) rfl, zm_f 36 (by decide +kernel) rfl, zm_f 184 (by decide +kernel) rfl⟩
theorem wy_yX7_wind : yX7_wind.cls ≠ "java/lang/invoke/MethodHandle" ∧ yX7_wind.cls ≠ "java/lang/invoke/VarHandle" ∧ (parseMethodDescriptor yX7_wind.desc).map (fun d => d.parameters.length) = some 2 := by decide +kernel
theorem wcRX3_156 : Cond.methodLink RX3 156 yX5_take ∈ zTg ∧ Cond.instanceMethod yX5_take ∈ zTg ∧ Cond.selects RX5 yX5_take yX5_take ∈ zTg ∧ Cond.initialized RX5 ∈ zTg ∧ Cond.code yX5_take cX5_take 3 none ∈ zTg := ⟨zm_f 185 (by decide +kernel) rfl, zm_f 186 (by decide +kernel) rfl, zm_f 187 (by decide +kernel) rfl, zm_f 25 (by decide +kernel) rfl, zm_f 188 (by decide +kernel) rfl⟩
theorem wy_yX5_take : yX5_take.cls = RX5 ∧ yX5_take.cls ≠ "java/lang/invoke/MethodHandle" ∧ yX5_take.cls ≠ "java/lang/invoke/VarHandle" ∧ (parseMethodDescriptor yX5_take.desc).map (fun d => d.parameters.length) = some 2 := by decide +kernel
theorem wcRX3_160 : Cond.methodLink RX3 160 yX3_loadStrings ∈ zTg ∧ Cond.instanceMethod yX3_loadStrings ∈ zTg ∧ Cond.selects RX3 yX3_loadStrings yX3_loadStrings ∈ zTg ∧ Cond.initialized RX3 ∈ zTg ∧ Cond.code yX3_loadStrings cX3_loadStrings 2 none ∈ zTg := ⟨zm_f 199 (by decide +kernel) rfl, zm_f 201 (by decide +kernel) rfl, zm_f 4 (by decide +kernel) rfl, zm_f 22 (by decide +kernel) rfl, zm_f 203 (by decide +kernel) rfl⟩
theorem wy_yX3_loadStrings : yX3_loadStrings.cls = RX3 ∧ yX3_loadStrings.cls ≠ "java/lang/invoke/MethodHandle" ∧ yX3_loadStrings.cls ≠ "java/lang/invoke/VarHandle" ∧ (parseMethodDescriptor yX3_loadStrings.desc).map (fun d => d.parameters.length) = some 0 := by decide +kernel
theorem wfRX3_163 : zFl RX3 163 7 4 := ⟨_, rfl, by decide, zm_f 464 (by decide +kernel) rfl⟩
theorem wfRX3_39 : zFl RX3 39 3 4 := ⟨_, rfl, by decide, zm_f 653 (by decide +kernel) rfl⟩
theorem wfRX3_170 : zFl RX3 170 7 3 := ⟨_, rfl, by decide, zm_f 462 (by decide +kernel) rfl⟩
theorem wcRX3_173 : Cond.methodLink RX3 173 yX2_book ∈ zTg ∧ Cond.instanceMethod yX2_book ∈ zTg ∧ Cond.selects RX2 yX2_book yX2_book ∈ zTg ∧ Cond.initialized RX2 ∈ zTg ∧ Cond.code yX2_book cX2_book 5 none ∈ zTg := ⟨zm_f 221 (by decide +kernel) rfl, zm_f 222 (by decide +kernel) rfl, zm_f 223 (by decide +kernel) rfl, zm_f 24 (by decide +kernel) rfl, zm_f 224 (by decide +kernel) rfl⟩
theorem wy_yX2_book : yX2_book.cls = RX2 ∧ yX2_book.cls ≠ "java/lang/invoke/MethodHandle" ∧ yX2_book.cls ≠ "java/lang/invoke/VarHandle" ∧ (parseMethodDescriptor yX2_book.desc).map (fun d => d.parameters.length) = some 3 := by decide +kernel
theorem wcRX3_177 : Cond.methodLink RX3 177 yX5_wearOut ∈ zTg ∧ Cond.instanceMethod yX5_wearOut ∈ zTg ∧ Cond.selects RX5 yX5_wearOut yX5_wearOut ∈ zTg ∧ Cond.initialized RX5 ∈ zTg ∧ Cond.code yX5_wearOut cX5_wearOut 1 none ∈ zTg := ⟨zm_f 233 (by decide +kernel) rfl, zm_f 234 (by decide +kernel) rfl, zm_f 235 (by decide +kernel) rfl, zm_f 25 (by decide +kernel) rfl, zm_f 236 (by decide +kernel) rfl⟩
theorem wy_yX5_wearOut : yX5_wearOut.cls = RX5 ∧ yX5_wearOut.cls ≠ "java/lang/invoke/MethodHandle" ∧ yX5_wearOut.cls ≠ "java/lang/invoke/VarHandle" ∧ (parseMethodDescriptor yX5_wearOut.desc).map (fun d => d.parameters.length) = some 0 := by decide +kernel
theorem wfRX3_68 : zFl RX3 68 3 7 := ⟨_, rfl, by decide, zm_f 660 (by decide +kernel) rfl⟩
theorem wfRX3_25 : zFl RX3 25 3 2 := ⟨_, rfl, by decide, zm_f 649 (by decide +kernel) rfl⟩
theorem wcRX3_180 : Cond.methodLink RX3 180 yX3_work ∈ zTg ∧ Cond.instanceMethod yX3_work ∈ zTg ∧ Cond.selects RX3 yX3_work yX3_work ∈ zTg ∧ Cond.initialized RX3 ∈ zTg ∧ Cond.code yX3_work cX3_work 3 none ∈ zTg := ⟨zm_f 261 (by decide +kernel) rfl, zm_f 263 (by decide +kernel) rfl, zm_f 12 (by decide +kernel) rfl, zm_f 22 (by decide +kernel) rfl, zm_f 264 (by decide +kernel) rfl⟩
theorem wy_yX3_work : yX3_work.cls = RX3 ∧ yX3_work.cls ≠ "java/lang/invoke/MethodHandle" ∧ yX3_work.cls ≠ "java/lang/invoke/VarHandle" ∧ (parseMethodDescriptor yX3_work.desc).map (fun d => d.parameters.length) = some 1 := by decide +kernel
def fSe_passHour_l12  (q2 : Int32 × zM) : Option ((Int32 × zM) ⊕ ((zM))) :=
  if (q2.2 0 0 5) ≤ q2.1 then
  some (.inr q2.2)
else
  zix q2.1 8 fun j4 =>
    Option.bind (fTu_settle j4 (q2.2 0 0 9) q2.2) fun q5 =>
    zlet (q2.1 + 1) fun v6 =>
    some (.inl (v6, q5))
def fSe_passHour_l56 (q7 : (Int32)) (q8 : Int32 × zM) : Option ((Int32 × zM) ⊕ ((zM))) :=
  if (q8.2 0 0 5) ≤ q8.1 then
  some (.inr q8.2)
else
  zix q8.1 8 fun j10 =>
    Option.bind (fSe_deficitOf q8.1 q8.2) fun q11 =>
    Option.bind (fWa_wind (q8.2 4 0 1) q11) fun q12 =>
    Option.bind (fTu_take j10 q12 q7 q8.2) fun q13 =>
    zlet (q8.1 + 1) fun v14 =>
    some (.inl (v14, q13))
def fSe_passHour_l137  (q18 : Int32 × zM) : Option ((Int32 × zM) ⊕ ((zM))) :=
  if (q18.2 0 0 5) ≤ q18.1 then
  some (.inr q18.2)
else
  zix q18.1 8 fun j20 =>
    Option.bind (fTu_wearOut j20 q18.2) fun q21 =>
    zlet (q18.1 + 1) fun v22 =>
    some (.inl (v22, q21))
def fSe_passHour_l162  (q23 : Int32 × zM) : Option ((Int32 × zM) ⊕ ((zM))) :=
  if (q23.2 0 0 7) ≤ q23.1 then
  some (.inr q23.2)
else
  zix q23.1 3 fun j25 =>
    Option.bind (fSe_work j25 q23.2) fun q26 =>
    zlet (q23.1 + 1) fun v27 =>
    some (.inl (v27, q26))
def fSe_passHour  (s0 : zM) : Option (Int32 × zM) :=
  zlet (zu s0 0 0 8 ((s0 0 0 8) + (1 : Int32))) fun s0_1 =>
  Option.bind (ziter (fSe_passHour_l12 ) 1000 ((0 : Int32), s0_1)) fun q3 =>
  Option.bind (fWa_power (q3 4 0 1)) fun q7 =>
  Option.bind (ziter (fSe_passHour_l56 q7) 1000 ((0 : Int32), q3)) fun q9 =>
  Option.bind (fSe_loadStrings q9) fun q15 =>
  Option.bind (fSe_giveUp (-1 : Int32) (q15 4 0 4) (7 : Int32) q15) fun q16 =>
  Option.bind (fLe_book (q7 * (q16.2 0 0 5)) q16.1 (q16.2 4 0 3) q16.2) fun q17 =>
  Option.bind (ziter (fSe_passHour_l137 ) 1000 ((0 : Int32), q17)) fun q19 =>
  Option.bind (ziter (fSe_passHour_l162 ) 1000 ((0 : Int32), q19)) fun q24 =>
  some (q16.1, q24)
set_option maxHeartbeats 4000000 in
set_option maxRecDepth 20000 in
theorem bfSe_passHour_l12 {X : zX} (F : zFr X cX3_passHour 4 RX3 (some .int))   {ψ : (Int32 × zM) ⊕ ((zM)) → Option zO} (h1 : ∀ q2 : Int32 × zM, zZ X [(0, [])] 4 87 4 12 [some (zr 0 0 0), some (zi q2.1), none, none] [] [q2.2] (ψ (.inl q2))) (h2 : ∀ q3 : zM, zZ X [(0, [])] 4 87 4 43 [some (zr 0 0 0), none, none, none] [] [q3] (ψ (.inr q3))) (q2 : Int32 × zM) : zZ X [(0, [])] 4 87 4 12 [some (zr 0 0 0), some (zi q2.1), none, none] [] [q2.2] (Option.bind (fSe_passHour_l12  q2) ψ) := by
  unfold fSe_passHour_l12
  refine zz_iload_n F (i := 1) dX3_passHour_12 rfl rfl ?_
  refine zz_aload_n F (i := 0) dX3_passHour_13 rfl rfl ?_
  refine zz_getf F dX3_passHour_14 wfRX3_56 zCl_3 rfl (⟨zlb rfl, zlb rfl, zlb rfl⟩) rfl (by decide) rfl rfl ?_
  refine zz_icmp_ge F (tgt := 43) dX3_passHour_17 (by decide) (fun h => zz_t h ?_) (fun h => zz_f h ?_)
  · exact zz_sub (zs_k (zs_n (zs_k (zs_k zs_z)))) (h2 q2.2)
  · refine zz_aload_n F (i := 0) dX3_passHour_20 rfl rfl ?_
    refine zz_getr F dX3_passHour_21 wfRX3_11 zCl_3 rfl (⟨zlb rfl, zlb rfl, zlb rfl⟩) rfl (by decide) rfl (r' := 0) (by decide) ?_
    refine zz_iload_n F (i := 1) dX3_passHour_24 rfl rfl ?_
    refine zz_ix fun j4 hj4 hinj4 hej4 => zz_aal F dX3_passHour_25 rfl (⟨zlb rfl, zlb rfl, zlb rfl⟩) rfl (by decide) rfl hinj4 hej4 rfl ?_
    refine zz_aload_n F (i := 0) dX3_passHour_26 rfl rfl ?_
    refine zz_getr F dX3_passHour_27 wfRX3_32 zCl_3 rfl (⟨zlb rfl, zlb rfl, zlb rfl⟩) rfl (by decide) rfl (r' := 0) (by decide) ?_
    refine zz_aload_n F (i := 0) dX3_passHour_30 rfl rfl ?_
    refine zz_getf F dX3_passHour_31 wfRX3_43 zCl_3 rfl (⟨zlb rfl, zlb rfl, zlb rfl⟩) rfl (by decide) rfl rfl ?_
    refine zz_bind ?_
    refine zz_callVr F (ρ := [0]) (so := fun q5 => []) (Mo := fun q5 => [q5]) (zfTu_settle j4 (q2.2 0 0 9) hj4 q2.2) dX3_passHour_34 wcRX3_139 wy_yX5_settle rfl ⟨rel3, rfl, rfl, Nat.le_of_ble_eq_true rfl, Nat.le_of_ble_eq_true rfl, Nat.le_of_ble_eq_true rfl⟩ (⟨zlb rfl, zlb rfl, hj4⟩) rfl rfl rfl (fun _ => rfl) (fun _ => rfl) fun q5 => ?_
    refine zz_iinc F (i := 1) (v := q2.1 + 1) (L' := [some (zr 0 0 0), some (zi (q2.1 + 1)), none, none]) dX3_passHour_37 rfl (by first | rfl | decide) (by decide) rfl rfl ?_
    refine zz_letl (Lf := fun v6 => [some (zr 0 0 0), some (zi v6), none, none]) fun v6 => ?_
    refine zz_goto F (tgt := 12) dX3_passHour_40 (by decide) ?_
    exact zz_sub (zs_k (zs_k (zs_k (zs_k zs_z)))) (h1 (v6, q5))
set_option maxHeartbeats 4000000 in
set_option maxRecDepth 20000 in
theorem bfSe_passHour_l56 {X : zX} (F : zFr X cX3_passHour 4 RX3 (some .int)) (q7 : (Int32))  {ψ : (Int32 × zM) ⊕ ((zM)) → Option zO} (h1 : ∀ q8 : Int32 × zM, zZ X [(0, [])] 4 87 4 56 [some (zr 0 0 0), some (zi q7), some (zi q8.1), none] [] [q8.2] (ψ (.inl q8))) (h2 : ∀ q9 : zM, zZ X [(0, [])] 4 87 4 95 [some (zr 0 0 0), some (zi q7), none, none] [] [q9] (ψ (.inr q9))) (q8 : Int32 × zM) : zZ X [(0, [])] 4 87 4 56 [some (zr 0 0 0), some (zi q7), some (zi q8.1), none] [] [q8.2] (Option.bind (fSe_passHour_l56 q7 q8) ψ) := by
  unfold fSe_passHour_l56
  refine zz_iload_n F (i := 2) dX3_passHour_56 rfl rfl ?_
  refine zz_aload_n F (i := 0) dX3_passHour_57 rfl rfl ?_
  refine zz_getf F dX3_passHour_58 wfRX3_56 zCl_3 rfl (⟨zlb rfl, zlb rfl, zlb rfl⟩) rfl (by decide) rfl rfl ?_
  refine zz_icmp_ge F (tgt := 95) dX3_passHour_61 (by decide) (fun h => zz_t h ?_) (fun h => zz_f h ?_)
  · exact zz_sub (zs_k (zs_k (zs_n (zs_k zs_z)))) (h2 q8.2)
  · refine zz_aload_n F (i := 0) dX3_passHour_64 rfl rfl ?_
    refine zz_getr F dX3_passHour_65 wfRX3_11 zCl_3 rfl (⟨zlb rfl, zlb rfl, zlb rfl⟩) rfl (by decide) rfl (r' := 0) (by decide) ?_
    refine zz_iload_n F (i := 2) dX3_passHour_68 rfl rfl ?_
    refine zz_ix fun j10 hj10 hinj10 hej10 => zz_aal F dX3_passHour_69 rfl (⟨zlb rfl, zlb rfl, zlb rfl⟩) rfl (by decide) rfl hinj10 hej10 rfl ?_
    refine zz_aload_n F (i := 0) dX3_passHour_70 rfl rfl ?_
    refine zz_getr F dX3_passHour_71 wfRX3_32 zCl_3 rfl (⟨zlb rfl, zlb rfl, zlb rfl⟩) rfl (by decide) rfl (r' := 0) (by decide) ?_
    refine zz_getf F dX3_passHour_74 wfRX3_143 zCl_7 rfl (⟨zlb rfl, zlb rfl, zlb rfl⟩) rfl (by decide) rfl rfl ?_
    refine zz_aload_n F (i := 0) dX3_passHour_77 rfl rfl ?_
    refine zz_iload_n F (i := 2) dX3_passHour_78 rfl rfl ?_
    refine zz_bind ?_
    refine zz_callVr F (ρ := [0]) (so := fun q11 => [zi q11, zi (q8.2 4 0 1), zr 0 7 j10]) (Mo := fun q11 => [q8.2]) (zfSe_deficitOf q8.1 q8.2) dX3_passHour_79 wcRX3_150 wy_yX3_deficitOf rfl ⟨rel3, rfl, rfl, Nat.le_of_ble_eq_true rfl, Nat.le_of_ble_eq_true rfl, Nat.le_of_ble_eq_true rfl⟩ (⟨zlb rfl, zlb rfl, zlb rfl⟩) rfl rfl rfl (fun _ => rfl) (fun _ => rfl) fun q11 => ?_
    refine zz_bind ?_
    refine zz_callSr F (ρ := []) (so := fun q12 => [zi q12, zr 0 7 j10]) (Mo := fun q12 => [q8.2]) (zfWa_wind (q8.2 4 0 1) q11) dX3_passHour_82 wcRX3_153 wy_yX7_wind rfl ⟨rel4, rfl, rfl, Nat.le_of_ble_eq_true rfl, Nat.le_of_ble_eq_true rfl, Nat.le_of_ble_eq_true rfl⟩ rfl (fun _ => rfl) (fun _ => rfl) fun q12 => ?_
    refine zz_iload_n F (i := 1) dX3_passHour_85 rfl rfl ?_
    refine zz_bind ?_
    refine zz_callVr F (ρ := [0]) (so := fun q13 => []) (Mo := fun q13 => [q13]) (zfTu_take j10 q12 q7 hj10 q8.2) dX3_passHour_86 wcRX3_156 wy_yX5_take rfl ⟨rel3, rfl, rfl, Nat.le_of_ble_eq_true rfl, Nat.le_of_ble_eq_true rfl, Nat.le_of_ble_eq_true rfl⟩ (⟨zlb rfl, zlb rfl, hj10⟩) rfl rfl rfl (fun _ => rfl) (fun _ => rfl) fun q13 => ?_
    refine zz_iinc F (i := 2) (v := q8.1 + 1) (L' := [some (zr 0 0 0), some (zi q7), some (zi (q8.1 + 1)), none]) dX3_passHour_89 rfl (by first | rfl | decide) (by decide) rfl rfl ?_
    refine zz_letl (Lf := fun v14 => [some (zr 0 0 0), some (zi q7), some (zi v14), none]) fun v14 => ?_
    refine zz_goto F (tgt := 56) dX3_passHour_92 (by decide) ?_
    exact zz_sub (zs_k (zs_k (zs_k (zs_k zs_z)))) (h1 (v14, q13))
set_option maxHeartbeats 4000000 in
set_option maxRecDepth 20000 in
theorem bfSe_passHour_l137 {X : zX} (F : zFr X cX3_passHour 4 RX3 (some .int)) (q16 : (Int32 × zM))  {ψ : (Int32 × zM) ⊕ ((zM)) → Option zO} (h1 : ∀ q18 : Int32 × zM, zZ X [(0, [])] 4 87 4 137 [some (zr 0 0 0), none, some (zi q16.1), some (zi q18.1)] [] [q18.2] (ψ (.inl q18))) (h2 : ∀ q19 : zM, zZ X [(0, [])] 4 87 4 160 [some (zr 0 0 0), none, some (zi q16.1), none] [] [q19] (ψ (.inr q19))) (q18 : Int32 × zM) : zZ X [(0, [])] 4 87 4 137 [some (zr 0 0 0), none, some (zi q16.1), some (zi q18.1)] [] [q18.2] (Option.bind (fSe_passHour_l137  q18) ψ) := by
  unfold fSe_passHour_l137
  refine zz_iload_n F (i := 3) dX3_passHour_137 rfl rfl ?_
  refine zz_aload_n F (i := 0) dX3_passHour_138 rfl rfl ?_
  refine zz_getf F dX3_passHour_139 wfRX3_56 zCl_3 rfl (⟨zlb rfl, zlb rfl, zlb rfl⟩) rfl (by decide) rfl rfl ?_
  refine zz_icmp_ge F (tgt := 160) dX3_passHour_142 (by decide) (fun h => zz_t h ?_) (fun h => zz_f h ?_)
  · exact zz_sub (zs_k (zs_k (zs_k (zs_n zs_z)))) (h2 q18.2)
  · refine zz_aload_n F (i := 0) dX3_passHour_145 rfl rfl ?_
    refine zz_getr F dX3_passHour_146 wfRX3_11 zCl_3 rfl (⟨zlb rfl, zlb rfl, zlb rfl⟩) rfl (by decide) rfl (r' := 0) (by decide) ?_
    refine zz_iload_n F (i := 3) dX3_passHour_149 rfl rfl ?_
    refine zz_ix fun j20 hj20 hinj20 hej20 => zz_aal F dX3_passHour_150 rfl (⟨zlb rfl, zlb rfl, zlb rfl⟩) rfl (by decide) rfl hinj20 hej20 rfl ?_
    refine zz_bind ?_
    refine zz_callVr F (ρ := [0]) (so := fun q21 => []) (Mo := fun q21 => [q21]) (zfTu_wearOut j20 hj20 q18.2) dX3_passHour_151 wcRX3_177 wy_yX5_wearOut rfl ⟨rel3, rfl, rfl, Nat.le_of_ble_eq_true rfl, Nat.le_of_ble_eq_true rfl, Nat.le_of_ble_eq_true rfl⟩ (⟨zlb rfl, zlb rfl, hj20⟩) rfl rfl rfl (fun _ => rfl) (fun _ => rfl) fun q21 => ?_
    refine zz_iinc F (i := 3) (v := q18.1 + 1) (L' := [some (zr 0 0 0), none, some (zi q16.1), some (zi (q18.1 + 1))]) dX3_passHour_154 rfl (by first | rfl | decide) (by decide) rfl rfl ?_
    refine zz_letl (Lf := fun v22 => [some (zr 0 0 0), none, some (zi q16.1), some (zi v22)]) fun v22 => ?_
    refine zz_goto F (tgt := 137) dX3_passHour_157 (by decide) ?_
    exact zz_sub (zs_k (zs_k (zs_k (zs_k zs_z)))) (h1 (v22, q21))
set_option maxHeartbeats 4000000 in
set_option maxRecDepth 20000 in
theorem bfSe_passHour_l162 {X : zX} (F : zFr X cX3_passHour 4 RX3 (some .int)) (q16 : (Int32 × zM))  {ψ : (Int32 × zM) ⊕ ((zM)) → Option zO} (h1 : ∀ q23 : Int32 × zM, zZ X [(0, [])] 4 87 4 162 [some (zr 0 0 0), none, some (zi q16.1), some (zi q23.1)] [] [q23.2] (ψ (.inl q23))) (h2 : ∀ q24 : zM, zZ X [(0, [])] 4 87 4 186 [none, none, some (zi q16.1), none] [] [q24] (ψ (.inr q24))) (q23 : Int32 × zM) : zZ X [(0, [])] 4 87 4 162 [some (zr 0 0 0), none, some (zi q16.1), some (zi q23.1)] [] [q23.2] (Option.bind (fSe_passHour_l162  q23) ψ) := by
  unfold fSe_passHour_l162
  refine zz_iload_n F (i := 3) dX3_passHour_162 rfl rfl ?_
  refine zz_aload_n F (i := 0) dX3_passHour_163 rfl rfl ?_
  refine zz_getf F dX3_passHour_164 wfRX3_68 zCl_3 rfl (⟨zlb rfl, zlb rfl, zlb rfl⟩) rfl (by decide) rfl rfl ?_
  refine zz_icmp_ge F (tgt := 186) dX3_passHour_167 (by decide) (fun h => zz_t h ?_) (fun h => zz_f h ?_)
  · exact zz_sub (zs_n (zs_k (zs_k (zs_n zs_z)))) (h2 q23.2)
  · refine zz_aload_n F (i := 0) dX3_passHour_170 rfl rfl ?_
    refine zz_aload_n F (i := 0) dX3_passHour_171 rfl rfl ?_
    refine zz_getr F dX3_passHour_172 wfRX3_25 zCl_3 rfl (⟨zlb rfl, zlb rfl, zlb rfl⟩) rfl (by decide) rfl (r' := 0) (by decide) ?_
    refine zz_iload_n F (i := 3) dX3_passHour_175 rfl rfl ?_
    refine zz_ix fun j25 hj25 hinj25 hej25 => zz_aal F dX3_passHour_176 rfl (⟨zlb rfl, zlb rfl, zlb rfl⟩) rfl (by decide) rfl hinj25 hej25 rfl ?_
    refine zz_bind ?_
    refine zz_callVr F (ρ := [0]) (so := fun q26 => []) (Mo := fun q26 => [q26]) (zfSe_work j25 hj25 q23.2) dX3_passHour_177 wcRX3_180 wy_yX3_work rfl ⟨rel3, rfl, rfl, Nat.le_of_ble_eq_true rfl, Nat.le_of_ble_eq_true rfl, Nat.le_of_ble_eq_true rfl⟩ (⟨zlb rfl, zlb rfl, zlb rfl⟩) rfl rfl rfl (fun _ => rfl) (fun _ => rfl) fun q26 => ?_
    refine zz_iinc F (i := 3) (v := q23.1 + 1) (L' := [some (zr 0 0 0), none, some (zi q16.1), some (zi (q23.1 + 1))]) dX3_passHour_180 rfl (by first | rfl | decide) (by decide) rfl rfl ?_
    refine zz_letl (Lf := fun v27 => [some (zr 0 0 0), none, some (zi q16.1), some (zi v27)]) fun v27 => ?_
    refine zz_goto F (tgt := 162) dX3_passHour_183 (by decide) ?_
    exact zz_sub (zs_k (zs_k (zs_k (zs_k zs_z)))) (h1 (v27, q26))
set_option maxHeartbeats 4000000 in
set_option maxRecDepth 20000 in
theorem bfSe_passHour {X : zX} (F : zFr X cX3_passHour 4 RX3 (some .int))   (s0 : zM) {κ : Int32 × zM → Option zO} (hκ : ∀ a, κ a = some ((fun a => ((.inl ((fun q => some (zi q.1)) a), (fun q => [q.2]) a) : zO)) a)) : zZ X [(0, [])] 4 87 4 0 [some (zr 0 0 0), none, none, none] [] [s0] (Option.bind (fSe_passHour s0) κ) := by
  unfold fSe_passHour
  refine zz_aload_n F (i := 0) dX3_passHour_0 rfl rfl ?_
  refine zz_dup F dX3_passHour_1 rfl ?_
  refine zz_getf F dX3_passHour_2 wfRX3_74 zCl_3 rfl (⟨zlb rfl, zlb rfl, zlb rfl⟩) rfl (by decide) rfl rfl ?_
  refine zz_iconst F (v := (1 : Int32)) dX3_passHour_5 (by decide) ?_
  refine zz_iadd F dX3_passHour_6 ?_
  refine zz_put F (Ms' := [(zu s0 0 0 8 ((s0 0 0 8) + (1 : Int32)))]) dX3_passHour_7 wpRX3_74 zCl_3 rfl (⟨zlb rfl, zlb rfl, zlb rfl⟩) rfl (by decide) rfl rfl rfl ?_
  refine zz_letm (Mf := fun s0_1 => [s0_1]) fun s0_1 => ?_
  refine zz_iconst F (v := (0 : Int32)) dX3_passHour_10 (by decide) ?_
  refine zz_istore_n F (i := 1) (L' := [some (zr 0 0 0), some (zi (0 : Int32)), none, none]) dX3_passHour_11 rfl (by decide) rfl rfl ?_
  refine zz_sub (zs_k (zs_k (zs_k (zs_k zs_z)))) ?_
  refine zz_bind ?_
  refine zz_iter (Lf := fun q2 => [some (zr 0 0 0), some (zi q2.1), none, none]) (Mf := fun q2 => [q2.2]) (fun q2 _ e34 e35 => bfSe_passHour_l12 F   e34 (fun q3 => ?_)  q2) 1000 ((0 : Int32), s0_1)
  rw [e35]
  refine zz_aload_n F (i := 0) dX3_passHour_43 rfl rfl ?_
  refine zz_getr F dX3_passHour_44 wfRX3_32 zCl_3 rfl (⟨zlb rfl, zlb rfl, zlb rfl⟩) rfl (by decide) rfl (r' := 0) (by decide) ?_
  refine zz_getf F dX3_passHour_47 wfRX3_143 zCl_7 rfl (⟨zlb rfl, zlb rfl, zlb rfl⟩) rfl (by decide) rfl rfl ?_
  refine zz_bind ?_
  refine zz_callSr F (ρ := []) (so := fun q7 => [zi q7]) (Mo := fun q7 => [q3]) (zfWa_power (q3 4 0 1)) dX3_passHour_50 wcRX3_146 wy_yX7_power rfl ⟨rel4, rfl, rfl, Nat.le_of_ble_eq_true rfl, Nat.le_of_ble_eq_true rfl, Nat.le_of_ble_eq_true rfl⟩ rfl (fun _ => rfl) (fun _ => rfl) fun q7 => ?_
  refine zz_istore_n F (i := 1) (L' := [some (zr 0 0 0), some (zi q7), none, none]) dX3_passHour_53 rfl (by decide) rfl rfl ?_
  refine zz_iconst F (v := (0 : Int32)) dX3_passHour_54 (by decide) ?_
  refine zz_istore_n F (i := 2) (L' := [some (zr 0 0 0), some (zi q7), some (zi (0 : Int32)), none]) dX3_passHour_55 rfl (by decide) rfl rfl ?_
  refine zz_sub (zs_k (zs_k (zs_k (zs_k zs_z)))) ?_
  refine zz_bind ?_
  refine zz_iter (Lf := fun q8 => [some (zr 0 0 0), some (zi q7), some (zi q8.1), none]) (Mf := fun q8 => [q8.2]) (fun q8 _ e32 e33 => bfSe_passHour_l56 F q7  e32 (fun q9 => ?_)  q8) 1000 ((0 : Int32), q3)
  rw [e33]
  refine zz_aload_n F (i := 0) dX3_passHour_95 rfl rfl ?_
  refine zz_bind ?_
  refine zz_callVr F (ρ := [0]) (so := fun q15 => []) (Mo := fun q15 => [q15]) (zfSe_loadStrings q9) dX3_passHour_96 wcRX3_160 wy_yX3_loadStrings rfl ⟨rel3, rfl, rfl, Nat.le_of_ble_eq_true rfl, Nat.le_of_ble_eq_true rfl, Nat.le_of_ble_eq_true rfl⟩ (⟨zlb rfl, zlb rfl, zlb rfl⟩) rfl rfl rfl (fun _ => rfl) (fun _ => rfl) fun q15 => ?_
  refine zz_aload_n F (i := 0) dX3_passHour_99 rfl rfl ?_
  refine zz_iconst F (v := (-1 : Int32)) dX3_passHour_100 (by decide) ?_
  refine zz_aload_n F (i := 0) dX3_passHour_101 rfl rfl ?_
  refine zz_getr F dX3_passHour_102 wfRX3_32 zCl_3 rfl (⟨zlb rfl, zlb rfl, zlb rfl⟩) rfl (by decide) rfl (r' := 0) (by decide) ?_
  refine zz_getf F dX3_passHour_105 wfRX3_163 zCl_7 rfl (⟨zlb rfl, zlb rfl, zlb rfl⟩) rfl (by decide) rfl rfl ?_
  refine zz_bipush F (v := (7 : Int32)) dX3_passHour_108 (by decide) ?_
  refine zz_bind ?_
  refine zz_callVr F (ρ := [0]) (so := fun q16 => [zi q16.1]) (Mo := fun q16 => [q16.2]) (zfSe_giveUp (-1 : Int32) (q15 4 0 4) (7 : Int32) q15) dX3_passHour_110 wcRX3_166 wy_yX3_giveUp rfl ⟨rel3, rfl, rfl, Nat.le_of_ble_eq_true rfl, Nat.le_of_ble_eq_true rfl, Nat.le_of_ble_eq_true rfl⟩ (⟨zlb rfl, zlb rfl, zlb rfl⟩) rfl rfl rfl (fun _ => rfl) (fun _ => rfl) fun q16 => ?_
  refine zz_istore_n F (i := 2) (L' := [some (zr 0 0 0), some (zi q7), some (zi q16.1), none]) dX3_passHour_113 rfl (by decide) rfl rfl ?_
  refine zz_aload_n F (i := 0) dX3_passHour_114 rfl rfl ?_
  refine zz_getr F dX3_passHour_115 wfRX3_39 zCl_3 rfl (⟨zlb rfl, zlb rfl, zlb rfl⟩) rfl (by decide) rfl (r' := 0) (by decide) ?_
  refine zz_iload_n F (i := 1) dX3_passHour_118 rfl rfl ?_
  refine zz_aload_n F (i := 0) dX3_passHour_119 rfl rfl ?_
  refine zz_getf F dX3_passHour_120 wfRX3_56 zCl_3 rfl (⟨zlb rfl, zlb rfl, zlb rfl⟩) rfl (by decide) rfl rfl ?_
  refine zz_imul F dX3_passHour_123 ?_
  refine zz_iload_n F (i := 2) dX3_passHour_124 rfl rfl ?_
  refine zz_aload_n F (i := 0) dX3_passHour_125 rfl rfl ?_
  refine zz_getr F dX3_passHour_126 wfRX3_32 zCl_3 rfl (⟨zlb rfl, zlb rfl, zlb rfl⟩) rfl (by decide) rfl (r' := 0) (by decide) ?_
  refine zz_getf F dX3_passHour_129 wfRX3_170 zCl_7 rfl (⟨zlb rfl, zlb rfl, zlb rfl⟩) rfl (by decide) rfl rfl ?_
  refine zz_bind ?_
  refine zz_callVr F (ρ := [0]) (so := fun q17 => []) (Mo := fun q17 => [q17]) (zfLe_book (q7 * (q16.2 0 0 5)) q16.1 (q16.2 4 0 3) q16.2) dX3_passHour_132 wcRX3_173 wy_yX2_book rfl ⟨rel3, rfl, rfl, Nat.le_of_ble_eq_true rfl, Nat.le_of_ble_eq_true rfl, Nat.le_of_ble_eq_true rfl⟩ (⟨zlb rfl, zlb rfl, zlb rfl⟩) rfl rfl rfl (fun _ => rfl) (fun _ => rfl) fun q17 => ?_
  refine zz_iconst F (v := (0 : Int32)) dX3_passHour_135 (by decide) ?_
  refine zz_istore_n F (i := 3) (L' := [some (zr 0 0 0), some (zi q7), some (zi q16.1), some (zi (0 : Int32))]) dX3_passHour_136 rfl (by decide) rfl rfl ?_
  refine zz_sub (zs_k (zs_n (zs_k (zs_k zs_z)))) ?_
  refine zz_bind ?_
  refine zz_iter (Lf := fun q18 => [some (zr 0 0 0), none, some (zi q16.1), some (zi q18.1)]) (Mf := fun q18 => [q18.2]) (fun q18 _ e30 e31 => bfSe_passHour_l137 F q16  e30 (fun q19 => ?_)  q18) 1000 ((0 : Int32), q17)
  rw [e31]
  refine zz_iconst F (v := (0 : Int32)) dX3_passHour_160 (by decide) ?_
  refine zz_istore_n F (i := 3) (L' := [some (zr 0 0 0), none, some (zi q16.1), some (zi (0 : Int32))]) dX3_passHour_161 rfl (by decide) rfl rfl ?_
  refine zz_sub (zs_k (zs_k (zs_k (zs_k zs_z)))) ?_
  refine zz_bind ?_
  refine zz_iter (Lf := fun q23 => [some (zr 0 0 0), none, some (zi q16.1), some (zi q23.1)]) (Mf := fun q23 => [q23.2]) (fun q23 _ e28 e29 => bfSe_passHour_l162 F q16  e28 (fun q24 => ?_)  q23) 1000 ((0 : Int32), q19)
  rw [e29]
  refine zz_iload_n F (i := 2) dX3_passHour_186 rfl rfl ?_
  exact zz_ireturn F dX3_passHour_187 rfl (hκ _)
theorem zfSe_passHour   (s0 : zM) : ∀ a, fSe_passHour s0 = some a → zMet yX3_passHour cX3_passHour 4 (some .int) 4 87 [(0, [])] [zr 0 0 0] [s0] ((fun a => ((.inl ((fun q => some (zi q.1)) a), (fun q => [q.2]) a) : zO)) a) := fun a ha => zMet_of (L0 := [some (zr 0 0 0), none, none, none]) (φ := Option.bind (fSe_passHour s0) (fun a => some ((fun a => ((.inl ((fun q => some (zi q.1)) a), (fun q => [q.2]) a) : zO)) a))) (by decide) (fun _ => Nat.le_of_ble_eq_true rfl) (zl0 3 rfl) (fun X F => bfSe_passHour F s0 (fun _ => rfl)) (by rw [ha]; rfl)

theorem dX3_passHours_0 : decode cX3_passHours 0 = .ok (.iconst 0, 1) := by decide +kernel
theorem dX3_passHours_1 : decode cX3_passHours 1 = .ok (.istore_n 2, 1) := by decide +kernel
theorem dX3_passHours_2 : decode cX3_passHours 2 = .ok (.iconst 0, 1) := by decide +kernel
theorem dX3_passHours_3 : decode cX3_passHours 3 = .ok (.istore_n 3, 1) := by decide +kernel
theorem dX3_passHours_4 : decode cX3_passHours 4 = .ok (.iload_n 3, 1) := by decide +kernel
theorem dX3_passHours_5 : decode cX3_passHours 5 = .ok (.iload_n 1, 1) := by decide +kernel
theorem dX3_passHours_6 : decode cX3_passHours 6 = .ok (.if_icmp .ge 16, 3) := by decide +kernel
theorem dX3_passHours_9 : decode cX3_passHours 9 = .ok (.iload_n 2, 1) := by decide +kernel
theorem dX3_passHours_10 : decode cX3_passHours 10 = .ok (.aload_n 0, 1) := by decide +kernel
theorem dX3_passHours_11 : decode cX3_passHours 11 = .ok (.invokevirtual 135, 3) := by decide +kernel
theorem dX3_passHours_14 : decode cX3_passHours 14 = .ok (.iadd, 1) := by decide +kernel
theorem dX3_passHours_15 : decode cX3_passHours 15 = .ok (.istore_n 2, 1) := by decide +kernel
theorem dX3_passHours_16 : decode cX3_passHours 16 = .ok (.iinc 3 1, 3) := by decide +kernel
theorem dX3_passHours_19 : decode cX3_passHours 19 = .ok (.goto (-15), 3) := by decide +kernel
theorem dX3_passHours_22 : decode cX3_passHours 22 = .ok (.iload_n 2, 1) := by decide +kernel
theorem dX3_passHours_23 : decode cX3_passHours 23 = .ok (.ireturn, 1) := by decide +kernel
theorem wcRX3_135 : Cond.methodLink RX3 135 yX3_passHour ∈ zTg ∧ Cond.instanceMethod yX3_passHour ∈ zTg ∧ Cond.selects RX3 yX3_passHour yX3_passHour ∈ zTg ∧ Cond.initialized RX3 ∈ zTg ∧ Cond.code yX3_passHour cX3_passHour 4 (some .int) ∈ zTg := ⟨zm_f 124 (by decide +kernel) rfl, zm_f 125 (by decide +kernel) rfl, zm_f 126 (by decide +kernel) rfl, zm_f 22 (by decide +kernel) rfl, zm_f 127 (by decide +kernel) rfl⟩
theorem wy_yX3_passHour : yX3_passHour.cls = RX3 ∧ yX3_passHour.cls ≠ "java/lang/invoke/MethodHandle" ∧ yX3_passHour.cls ≠ "java/lang/invoke/VarHandle" ∧ (parseMethodDescriptor yX3_passHour.desc).map (fun d => d.parameters.length) = some 0 := by decide +kernel
def fSe_passHours_l4 (a1 : Int32) (q1 : Int32 × Int32 × zM) : Option ((Int32 × Int32 × zM) ⊕ ((Int32 × zM))) :=
  if a1 ≤ q1.2.1 then
  some (.inr (q1.1, q1.2.2))
else
  Option.bind (fSe_passHour q1.2.2) fun q3 =>
    zlet ((q1.1 + q3.1)) fun v4 =>
    zlet (q1.2.1 + 1) fun v5 =>
    some (.inl (v4, v5, q3.2))
def fSe_passHours (a1 : Int32) (s0 : zM) : Option (Int32 × zM) :=
  Option.bind (ziter (fSe_passHours_l4 a1) 1000 ((0 : Int32), (0 : Int32), s0)) fun q2 =>
  some (q2.1, q2.2)
set_option maxHeartbeats 4000000 in
set_option maxRecDepth 20000 in
theorem bfSe_passHours_l4 {X : zX} (F : zFr X cX3_passHours 4 RX3 (some .int)) (a1 : Int32)  {ψ : (Int32 × Int32 × zM) ⊕ ((Int32 × zM)) → Option zO} (h1 : ∀ q1 : Int32 × Int32 × zM, zZ X [(0, [])] 5 110 4 4 [some (zr 0 0 0), some (zi a1), some (zi q1.1), some (zi q1.2.1)] [] [q1.2.2] (ψ (.inl q1))) (h2 : ∀ q2 : Int32 × zM, zZ X [(0, [])] 5 110 4 22 [none, none, some (zi q2.1), none] [] [q2.2] (ψ (.inr q2))) (q1 : Int32 × Int32 × zM) : zZ X [(0, [])] 5 110 4 4 [some (zr 0 0 0), some (zi a1), some (zi q1.1), some (zi q1.2.1)] [] [q1.2.2] (Option.bind (fSe_passHours_l4 a1 q1) ψ) := by
  unfold fSe_passHours_l4
  refine zz_iload_n F (i := 3) dX3_passHours_4 rfl rfl ?_
  refine zz_iload_n F (i := 1) dX3_passHours_5 rfl rfl ?_
  refine zz_icmp_ge F (tgt := 22) dX3_passHours_6 (by decide) (fun h => zz_t h ?_) (fun h => zz_f h ?_)
  · exact zz_sub (zs_n (zs_n (zs_k (zs_n zs_z)))) (h2 (q1.1, q1.2.2))
  · refine zz_iload_n F (i := 2) dX3_passHours_9 rfl rfl ?_
    refine zz_aload_n F (i := 0) dX3_passHours_10 rfl rfl ?_
    refine zz_bind ?_
    refine zz_callVr F (ρ := [0]) (so := fun q3 => [zi q3.1, zi q1.1]) (Mo := fun q3 => [q3.2]) (zfSe_passHour q1.2.2) dX3_passHours_11 wcRX3_135 wy_yX3_passHour rfl ⟨rel3, rfl, rfl, Nat.le_of_ble_eq_true rfl, Nat.le_of_ble_eq_true rfl, Nat.le_of_ble_eq_true rfl⟩ (⟨zlb rfl, zlb rfl, zlb rfl⟩) rfl rfl rfl (fun _ => rfl) (fun _ => rfl) fun q3 => ?_
    refine zz_iadd F dX3_passHours_14 ?_
    refine zz_istore_n F (i := 2) (L' := [some (zr 0 0 0), some (zi a1), some (zi (q1.1 + q3.1)), some (zi q1.2.1)]) dX3_passHours_15 rfl (by decide) rfl rfl ?_
    refine zz_letl (Lf := fun v4 => [some (zr 0 0 0), some (zi a1), some (zi v4), some (zi q1.2.1)]) fun v4 => ?_
    refine zz_iinc F (i := 3) (v := q1.2.1 + 1) (L' := [some (zr 0 0 0), some (zi a1), some (zi v4), some (zi (q1.2.1 + 1))]) dX3_passHours_16 rfl (by first | rfl | decide) (by decide) rfl rfl ?_
    refine zz_letl (Lf := fun v5 => [some (zr 0 0 0), some (zi a1), some (zi v4), some (zi v5)]) fun v5 => ?_
    refine zz_goto F (tgt := 4) dX3_passHours_19 (by decide) ?_
    exact zz_sub (zs_k (zs_k (zs_k (zs_k zs_z)))) (h1 (v4, v5, q3.2))
set_option maxHeartbeats 4000000 in
set_option maxRecDepth 20000 in
theorem bfSe_passHours {X : zX} (F : zFr X cX3_passHours 4 RX3 (some .int)) (a1 : Int32)  (s0 : zM) {κ : Int32 × zM → Option zO} (hκ : ∀ a, κ a = some ((fun a => ((.inl ((fun q => some (zi q.1)) a), (fun q => [q.2]) a) : zO)) a)) : zZ X [(0, [])] 5 110 4 0 [some (zr 0 0 0), some (zi a1), none, none] [] [s0] (Option.bind (fSe_passHours a1 s0) κ) := by
  unfold fSe_passHours
  refine zz_iconst F (v := (0 : Int32)) dX3_passHours_0 (by decide) ?_
  refine zz_istore_n F (i := 2) (L' := [some (zr 0 0 0), some (zi a1), some (zi (0 : Int32)), none]) dX3_passHours_1 rfl (by decide) rfl rfl ?_
  refine zz_iconst F (v := (0 : Int32)) dX3_passHours_2 (by decide) ?_
  refine zz_istore_n F (i := 3) (L' := [some (zr 0 0 0), some (zi a1), some (zi (0 : Int32)), some (zi (0 : Int32))]) dX3_passHours_3 rfl (by decide) rfl rfl ?_
  refine zz_sub (zs_k (zs_k (zs_k (zs_k zs_z)))) ?_
  refine zz_bind ?_
  refine zz_iter (Lf := fun q1 => [some (zr 0 0 0), some (zi a1), some (zi q1.1), some (zi q1.2.1)]) (Mf := fun q1 => [q1.2.2]) (fun q1 _ e6 e7 => bfSe_passHours_l4 F a1  e6 (fun q2 => ?_)  q1) 1000 ((0 : Int32), (0 : Int32), s0)
  rw [e7]
  refine zz_iload_n F (i := 2) dX3_passHours_22 rfl rfl ?_
  exact zz_ireturn F dX3_passHours_23 rfl (hκ _)
theorem zfSe_passHours (a1 : Int32)  (s0 : zM) : ∀ a, fSe_passHours a1 s0 = some a → zMet yX3_passHours cX3_passHours 4 (some .int) 5 110 [(0, [])] [zr 0 0 0, zi a1] [s0] ((fun a => ((.inl ((fun q => some (zi q.1)) a), (fun q => [q.2]) a) : zO)) a) := fun a ha => zMet_of (L0 := [some (zr 0 0 0), some (zi a1), none, none]) (φ := Option.bind (fSe_passHours a1 s0) (fun a => some ((fun a => ((.inl ((fun q => some (zi q.1)) a), (fun q => [q.2]) a) : zO)) a))) (by decide) (fun _ => Nat.le_of_ble_eq_true rfl) (zl0 2 rfl) (fun X F => bfSe_passHours F a1 s0 (fun _ => rfl)) (by rw [ha]; rfl)

theorem dX9_blow_0 : decode cX9_blow 0 = .ok (.iload_n 1, 1) := by decide +kernel
theorem dX9_blow_1 : decode cX9_blow 1 = .ok (.iconst 1, 1) := by decide +kernel
theorem dX9_blow_2 : decode cX9_blow 2 = .ok (.bipush 24, 2) := by decide +kernel
theorem dX9_blow_4 : decode cX9_blow 4 = .ok (.invokestatic 26, 3) := by decide +kernel
theorem dX9_blow_7 : decode cX9_blow 7 = .ok (.ifCond .ne 59, 3) := by decide +kernel
theorem dX9_blow_10 : decode cX9_blow 10 = .ok (.iload_n 2, 1) := by decide +kernel
theorem dX9_blow_11 : decode cX9_blow 11 = .ok (.iconst 0, 1) := by decide +kernel
theorem dX9_blow_12 : decode cX9_blow 12 = .ok (.bipush 7, 2) := by decide +kernel
theorem dX9_blow_14 : decode cX9_blow 14 = .ok (.invokestatic 26, 3) := by decide +kernel
theorem dX9_blow_17 : decode cX9_blow 17 = .ok (.ifCond .ne 49, 3) := by decide +kernel
theorem dX9_blow_20 : decode cX9_blow 20 = .ok (.iload_n 3, 1) := by decide +kernel
theorem dX9_blow_21 : decode cX9_blow 21 = .ok (.iconst 0, 1) := by decide +kernel
theorem dX9_blow_22 : decode cX9_blow 22 = .ok (.bipush 30, 2) := by decide +kernel
theorem dX9_blow_24 : decode cX9_blow 24 = .ok (.invokestatic 26, 3) := by decide +kernel
theorem dX9_blow_27 : decode cX9_blow 27 = .ok (.ifCond .ne 39, 3) := by decide +kernel
theorem dX9_blow_30 : decode cX9_blow 30 = .ok (.iload 4, 2) := by decide +kernel
theorem dX9_blow_32 : decode cX9_blow 32 = .ok (.iconst 0, 1) := by decide +kernel
theorem dX9_blow_33 : decode cX9_blow 33 = .ok (.bipush 60, 2) := by decide +kernel
theorem dX9_blow_35 : decode cX9_blow 35 = .ok (.invokestatic 26, 3) := by decide +kernel
theorem dX9_blow_38 : decode cX9_blow 38 = .ok (.ifCond .ne 28, 3) := by decide +kernel
theorem dX9_blow_41 : decode cX9_blow 41 = .ok (.iload 5, 2) := by decide +kernel
theorem dX9_blow_43 : decode cX9_blow 43 = .ok (.bipush (-50), 2) := by decide +kernel
theorem dX9_blow_45 : decode cX9_blow 45 = .ok (.sipush 200, 3) := by decide +kernel
theorem dX9_blow_48 : decode cX9_blow 48 = .ok (.invokestatic 26, 3) := by decide +kernel
theorem dX9_blow_51 : decode cX9_blow 51 = .ok (.ifCond .ne 15, 3) := by decide +kernel
theorem dX9_blow_54 : decode cX9_blow 54 = .ok (.iload 6, 2) := by decide +kernel
theorem dX9_blow_56 : decode cX9_blow 56 = .ok (.iconst 0, 1) := by decide +kernel
theorem dX9_blow_57 : decode cX9_blow 57 = .ok (.sipush 20000, 3) := by decide +kernel
theorem dX9_blow_60 : decode cX9_blow 60 = .ok (.invokestatic 26, 3) := by decide +kernel
theorem dX9_blow_63 : decode cX9_blow 63 = .ok (.ifCond .eq 13, 3) := by decide +kernel
theorem dX9_blow_66 : decode cX9_blow 66 = .ok (.new 30, 3) := by decide +kernel
theorem dX9_blow_69 : decode cX9_blow 69 = .ok (.dup, 1) := by decide +kernel
theorem dX9_blow_70 : decode cX9_blow 70 = .ok (.ldc 98, 2) := by decide +kernel
theorem dX9_blow_72 : decode cX9_blow 72 = .ok (.invokespecial 34, 3) := by decide +kernel
theorem dX9_blow_75 : decode cX9_blow 75 = .ok (.athrow, 1) := by decide +kernel
theorem dX9_blow_76 : decode cX9_blow 76 = .ok (.aload_n 0, 1) := by decide +kernel
theorem dX9_blow_77 : decode cX9_blow 77 = .ok (.getfield 10, 3) := by decide +kernel
theorem dX9_blow_80 : decode cX9_blow 80 = .ok (.getfield 100, 3) := by decide +kernel
theorem dX9_blow_83 : decode cX9_blow 83 = .ok (.iload_n 2, 1) := by decide +kernel
theorem dX9_blow_84 : decode cX9_blow 84 = .ok (.iload_n 3, 1) := by decide +kernel
theorem dX9_blow_85 : decode cX9_blow 85 = .ok (.iload 4, 2) := by decide +kernel
theorem dX9_blow_87 : decode cX9_blow 87 = .ok (.iload 5, 2) := by decide +kernel
theorem dX9_blow_89 : decode cX9_blow 89 = .ok (.iload 6, 2) := by decide +kernel
theorem dX9_blow_91 : decode cX9_blow 91 = .ok (.invokevirtual 104, 3) := by decide +kernel
theorem dX9_blow_94 : decode cX9_blow 94 = .ok (.aload_n 0, 1) := by decide +kernel
theorem dX9_blow_95 : decode cX9_blow 95 = .ok (.getfield 10, 3) := by decide +kernel
theorem dX9_blow_98 : decode cX9_blow 98 = .ok (.iload_n 1, 1) := by decide +kernel
theorem dX9_blow_99 : decode cX9_blow 99 = .ok (.invokevirtual 110, 3) := by decide +kernel
theorem dX9_blow_102 : decode cX9_blow 102 = .ok (.ireturn, 1) := by decide +kernel
theorem wsRX9_98 : (RX9, 98, "no such HOURS") ∈ zstr := by decide +kernel
theorem wfRX9_100 : zFl RX9 100 3 3 := ⟨_, rfl, by decide, zm_f 652 (by decide +kernel) rfl⟩
theorem wcRX9_104 : Cond.methodLink RX9 104 yX8_set ∈ zTg ∧ Cond.instanceMethod yX8_set ∈ zTg ∧ Cond.selects RX8 yX8_set yX8_set ∈ zTg ∧ Cond.initialized RX8 ∈ zTg ∧ Cond.code yX8_set cX8_set 6 none ∈ zTg := ⟨zm_f 116 (by decide +kernel) rfl, zm_f 117 (by decide +kernel) rfl, zm_f 118 (by decide +kernel) rfl, zm_f 23 (by decide +kernel) rfl, zm_f 119 (by decide +kernel) rfl⟩
theorem wy_yX8_set : yX8_set.cls = RX8 ∧ yX8_set.cls ≠ "java/lang/invoke/MethodHandle" ∧ yX8_set.cls ≠ "java/lang/invoke/VarHandle" ∧ (parseMethodDescriptor yX8_set.desc).map (fun d => d.parameters.length) = some 5 := by decide +kernel
theorem wcRX9_110 : Cond.methodLink RX9 110 yX3_passHours ∈ zTg ∧ Cond.instanceMethod yX3_passHours ∈ zTg ∧ Cond.selects RX3 yX3_passHours yX3_passHours ∈ zTg ∧ Cond.initialized RX3 ∈ zTg ∧ Cond.code yX3_passHours cX3_passHours 4 (some .int) ∈ zTg := ⟨zm_f 120 (by decide +kernel) rfl, zm_f 121 (by decide +kernel) rfl, zm_f 122 (by decide +kernel) rfl, zm_f 22 (by decide +kernel) rfl, zm_f 123 (by decide +kernel) rfl⟩
theorem wy_yX3_passHours : yX3_passHours.cls = RX3 ∧ yX3_passHours.cls ≠ "java/lang/invoke/MethodHandle" ∧ yX3_passHours.cls ≠ "java/lang/invoke/VarHandle" ∧ (parseMethodDescriptor yX3_passHours.desc).map (fun d => d.parameters.length) = some 1 := by decide +kernel
def fWB_blow (a1 : Int32) (a2 : Int32) (a3 : Int32) (a4 : Int32) (a5 : Int32) (a6 : Int32) (s0 : zM) (s1 : zM) (s2 : zM) (s3 : zM) : Option ((Int32 × zM) ⊕ (String × zM)) :=
  Option.bind (fWB_outside a1 (1 : Int32) (24 : Int32)) fun q1 =>
  if q1 = 0 then
  Option.bind (fWB_outside a2 (0 : Int32) (7 : Int32)) fun q2 =>
    if q2 = 0 then
    Option.bind (fWB_outside a3 (0 : Int32) (30 : Int32)) fun q3 =>
      if q3 = 0 then
      Option.bind (fWB_outside a4 (0 : Int32) (60 : Int32)) fun q4 =>
        if q4 = 0 then
        Option.bind (fWB_outside a5 (-50 : Int32) (200 : Int32)) fun q5 =>
          if q5 = 0 then
          Option.bind (fWB_outside a6 (0 : Int32) (20000 : Int32)) fun q6 =>
            if q6 = 0 then
            Option.bind (fWe_set a2 a3 a4 a5 a6 s1) fun q7 =>
              Option.bind (fSe_passHours a1 q7) fun q8 =>
              some (.inl (q8.1, q8.2))
          else
            some (.inr ("java/lang/IllegalArgumentException", s1))
        else
          some (.inr ("java/lang/IllegalArgumentException", s1))
      else
        some (.inr ("java/lang/IllegalArgumentException", s1))
    else
      some (.inr ("java/lang/IllegalArgumentException", s1))
  else
    some (.inr ("java/lang/IllegalArgumentException", s1))
else
  some (.inr ("java/lang/IllegalArgumentException", s1))
set_option maxHeartbeats 4000000 in
set_option maxRecDepth 20000 in
theorem bfWB_blow {X : zX} (F : zFr X cX9_blow 7 RX9 (some .int)) (a1 : Int32) (a2 : Int32) (a3 : Int32) (a4 : Int32) (a5 : Int32) (a6 : Int32)  (s0 : zM) (s1 : zM) (s2 : zM) (s3 : zM) {κ : (Int32 × zM) ⊕ (String × zM) → Option zO} (hκ : ∀ a, κ a = some ((zts (fun q => some (zi q.1)) (fun q => [s0, q.2, s2, s3]) (fun b => b.1) (fun b => [s0, b.2, s2, s3])) a)) : zZ X [(2, [1, 2, 3]), (0, []), (0, []), (1, [])] 6 133 7 0 [some (zr 0 0 0), some (zi a1), some (zi a2), some (zi a3), some (zi a4), some (zi a5), some (zi a6)] [] [s0, s1, s2, s3] (Option.bind (fWB_blow a1 a2 a3 a4 a5 a6 s0 s1 s2 s3) κ) := by
  unfold fWB_blow
  refine zz_iload_n F (i := 1) dX9_blow_0 rfl rfl ?_
  refine zz_iconst F (v := (1 : Int32)) dX9_blow_1 (by decide) ?_
  refine zz_bipush F (v := (24 : Int32)) dX9_blow_2 (by decide) ?_
  refine zz_bind ?_
  refine zz_callSr F (ρ := []) (so := fun q1 => [zi q1]) (Mo := fun q1 => [s0, s1, s2, s3]) (zfWB_outside a1 (1 : Int32) (24 : Int32)) dX9_blow_4 wcRX9_26 wy_yX9_outside rfl ⟨rel0, rfl, rfl, Nat.le_of_ble_eq_true rfl, Nat.le_of_ble_eq_true rfl, Nat.le_of_ble_eq_true rfl⟩ rfl (fun _ => rfl) (fun _ => rfl) fun q1 => ?_
  refine zz_if_ne F (tgt := 66) dX9_blow_7 (by decide) (fun h => zz_f h ?_) (fun h => zz_t h ?_)
  · exact zz_throw F (cls := "java/lang/IllegalArgumentException") dX9_blow_66 dX9_blow_69 dX9_blow_70 dX9_blow_72 dX9_blow_75 (by decide) wtRX9_30_34k wsRX9_98 wtRX9_30_34g wtRX9_30_34n wtRX9_30_34o (Nat.le_of_ble_eq_true rfl) (Nat.le_of_ble_eq_true rfl) (hκ _)
  · refine zz_iload_n F (i := 2) dX9_blow_10 rfl rfl ?_
    refine zz_iconst F (v := (0 : Int32)) dX9_blow_11 (by decide) ?_
    refine zz_bipush F (v := (7 : Int32)) dX9_blow_12 (by decide) ?_
    refine zz_bind ?_
    refine zz_callSr F (ρ := []) (so := fun q2 => [zi q2]) (Mo := fun q2 => [s0, s1, s2, s3]) (zfWB_outside a2 (0 : Int32) (7 : Int32)) dX9_blow_14 wcRX9_26 wy_yX9_outside rfl ⟨rel0, rfl, rfl, Nat.le_of_ble_eq_true rfl, Nat.le_of_ble_eq_true rfl, Nat.le_of_ble_eq_true rfl⟩ rfl (fun _ => rfl) (fun _ => rfl) fun q2 => ?_
    refine zz_if_ne F (tgt := 66) dX9_blow_17 (by decide) (fun h => zz_f h ?_) (fun h => zz_t h ?_)
    · exact zz_throw F (cls := "java/lang/IllegalArgumentException") dX9_blow_66 dX9_blow_69 dX9_blow_70 dX9_blow_72 dX9_blow_75 (by decide) wtRX9_30_34k wsRX9_98 wtRX9_30_34g wtRX9_30_34n wtRX9_30_34o (Nat.le_of_ble_eq_true rfl) (Nat.le_of_ble_eq_true rfl) (hκ _)
    · refine zz_iload_n F (i := 3) dX9_blow_20 rfl rfl ?_
      refine zz_iconst F (v := (0 : Int32)) dX9_blow_21 (by decide) ?_
      refine zz_bipush F (v := (30 : Int32)) dX9_blow_22 (by decide) ?_
      refine zz_bind ?_
      refine zz_callSr F (ρ := []) (so := fun q3 => [zi q3]) (Mo := fun q3 => [s0, s1, s2, s3]) (zfWB_outside a3 (0 : Int32) (30 : Int32)) dX9_blow_24 wcRX9_26 wy_yX9_outside rfl ⟨rel0, rfl, rfl, Nat.le_of_ble_eq_true rfl, Nat.le_of_ble_eq_true rfl, Nat.le_of_ble_eq_true rfl⟩ rfl (fun _ => rfl) (fun _ => rfl) fun q3 => ?_
      refine zz_if_ne F (tgt := 66) dX9_blow_27 (by decide) (fun h => zz_f h ?_) (fun h => zz_t h ?_)
      · exact zz_throw F (cls := "java/lang/IllegalArgumentException") dX9_blow_66 dX9_blow_69 dX9_blow_70 dX9_blow_72 dX9_blow_75 (by decide) wtRX9_30_34k wsRX9_98 wtRX9_30_34g wtRX9_30_34n wtRX9_30_34o (Nat.le_of_ble_eq_true rfl) (Nat.le_of_ble_eq_true rfl) (hκ _)
      · refine zz_iload F (i := 4) dX9_blow_30 rfl ?_
        refine zz_iconst F (v := (0 : Int32)) dX9_blow_32 (by decide) ?_
        refine zz_bipush F (v := (60 : Int32)) dX9_blow_33 (by decide) ?_
        refine zz_bind ?_
        refine zz_callSr F (ρ := []) (so := fun q4 => [zi q4]) (Mo := fun q4 => [s0, s1, s2, s3]) (zfWB_outside a4 (0 : Int32) (60 : Int32)) dX9_blow_35 wcRX9_26 wy_yX9_outside rfl ⟨rel0, rfl, rfl, Nat.le_of_ble_eq_true rfl, Nat.le_of_ble_eq_true rfl, Nat.le_of_ble_eq_true rfl⟩ rfl (fun _ => rfl) (fun _ => rfl) fun q4 => ?_
        refine zz_if_ne F (tgt := 66) dX9_blow_38 (by decide) (fun h => zz_f h ?_) (fun h => zz_t h ?_)
        · exact zz_throw F (cls := "java/lang/IllegalArgumentException") dX9_blow_66 dX9_blow_69 dX9_blow_70 dX9_blow_72 dX9_blow_75 (by decide) wtRX9_30_34k wsRX9_98 wtRX9_30_34g wtRX9_30_34n wtRX9_30_34o (Nat.le_of_ble_eq_true rfl) (Nat.le_of_ble_eq_true rfl) (hκ _)
        · refine zz_iload F (i := 5) dX9_blow_41 rfl ?_
          refine zz_bipush F (v := (-50 : Int32)) dX9_blow_43 (by decide) ?_
          refine zz_sipush F (v := (200 : Int32)) dX9_blow_45 (by decide) ?_
          refine zz_bind ?_
          refine zz_callSr F (ρ := []) (so := fun q5 => [zi q5]) (Mo := fun q5 => [s0, s1, s2, s3]) (zfWB_outside a5 (-50 : Int32) (200 : Int32)) dX9_blow_48 wcRX9_26 wy_yX9_outside rfl ⟨rel0, rfl, rfl, Nat.le_of_ble_eq_true rfl, Nat.le_of_ble_eq_true rfl, Nat.le_of_ble_eq_true rfl⟩ rfl (fun _ => rfl) (fun _ => rfl) fun q5 => ?_
          refine zz_if_ne F (tgt := 66) dX9_blow_51 (by decide) (fun h => zz_f h ?_) (fun h => zz_t h ?_)
          · exact zz_throw F (cls := "java/lang/IllegalArgumentException") dX9_blow_66 dX9_blow_69 dX9_blow_70 dX9_blow_72 dX9_blow_75 (by decide) wtRX9_30_34k wsRX9_98 wtRX9_30_34g wtRX9_30_34n wtRX9_30_34o (Nat.le_of_ble_eq_true rfl) (Nat.le_of_ble_eq_true rfl) (hκ _)
          · refine zz_iload F (i := 6) dX9_blow_54 rfl ?_
            refine zz_iconst F (v := (0 : Int32)) dX9_blow_56 (by decide) ?_
            refine zz_sipush F (v := (20000 : Int32)) dX9_blow_57 (by decide) ?_
            refine zz_bind ?_
            refine zz_callSr F (ρ := []) (so := fun q6 => [zi q6]) (Mo := fun q6 => [s0, s1, s2, s3]) (zfWB_outside a6 (0 : Int32) (20000 : Int32)) dX9_blow_60 wcRX9_26 wy_yX9_outside rfl ⟨rel0, rfl, rfl, Nat.le_of_ble_eq_true rfl, Nat.le_of_ble_eq_true rfl, Nat.le_of_ble_eq_true rfl⟩ rfl (fun _ => rfl) (fun _ => rfl) fun q6 => ?_
            refine zz_if_eq F (tgt := 76) dX9_blow_63 (by decide) (fun h => zz_t h ?_) (fun h => zz_f h ?_)
            · refine zz_aload_n F (i := 0) dX9_blow_76 rfl rfl ?_
              refine zz_getr F dX9_blow_77 wfRX9_10 zCl_8 rfl (⟨zlb rfl, zlb rfl, zlb rfl⟩) rfl (by decide) rfl (r' := 1) (by decide) ?_
              refine zz_getr F dX9_blow_80 wfRX9_100 zCl_3 rfl (⟨zlb rfl, zlb rfl, zlb rfl⟩) rfl (by decide) rfl (r' := 1) (by decide) ?_
              refine zz_iload_n F (i := 2) dX9_blow_83 rfl rfl ?_
              refine zz_iload_n F (i := 3) dX9_blow_84 rfl rfl ?_
              refine zz_iload F (i := 4) dX9_blow_85 rfl ?_
              refine zz_iload F (i := 5) dX9_blow_87 rfl ?_
              refine zz_iload F (i := 6) dX9_blow_89 rfl ?_
              refine zz_bind ?_
              refine zz_callVr F (ρ := [1]) (so := fun q7 => []) (Mo := fun q7 => [s0, q7, s2, s3]) (zfWe_set a2 a3 a4 a5 a6 s1) dX9_blow_91 wcRX9_104 wy_yX8_set rfl ⟨rel1, rfl, rfl, Nat.le_of_ble_eq_true rfl, Nat.le_of_ble_eq_true rfl, Nat.le_of_ble_eq_true rfl⟩ (⟨zlb rfl, zlb rfl, zlb rfl⟩) rfl rfl rfl (fun _ => rfl) (fun _ => rfl) fun q7 => ?_
              refine zz_aload_n F (i := 0) dX9_blow_94 rfl rfl ?_
              refine zz_getr F dX9_blow_95 wfRX9_10 zCl_8 rfl (⟨zlb rfl, zlb rfl, zlb rfl⟩) rfl (by decide) rfl (r' := 1) (by decide) ?_
              refine zz_iload_n F (i := 1) dX9_blow_98 rfl rfl ?_
              refine zz_bind ?_
              refine zz_callVr F (ρ := [1]) (so := fun q8 => [zi q8.1]) (Mo := fun q8 => [s0, q8.2, s2, s3]) (zfSe_passHours a1 q7) dX9_blow_99 wcRX9_110 wy_yX3_passHours rfl ⟨rel1, rfl, rfl, Nat.le_of_ble_eq_true rfl, Nat.le_of_ble_eq_true rfl, Nat.le_of_ble_eq_true rfl⟩ (⟨zlb rfl, zlb rfl, zlb rfl⟩) rfl rfl rfl (fun _ => rfl) (fun _ => rfl) fun q8 => ?_
              exact zz_ireturn F dX9_blow_102 rfl (hκ _)
            · exact zz_throw F (cls := "java/lang/IllegalArgumentException") dX9_blow_66 dX9_blow_69 dX9_blow_70 dX9_blow_72 dX9_blow_75 (by decide) wtRX9_30_34k wsRX9_98 wtRX9_30_34g wtRX9_30_34n wtRX9_30_34o (Nat.le_of_ble_eq_true rfl) (Nat.le_of_ble_eq_true rfl) (hκ _)
theorem zfWB_blow (a1 : Int32) (a2 : Int32) (a3 : Int32) (a4 : Int32) (a5 : Int32) (a6 : Int32)  (s0 : zM) (s1 : zM) (s2 : zM) (s3 : zM) : ∀ a, fWB_blow a1 a2 a3 a4 a5 a6 s0 s1 s2 s3 = some a → zMet yX9_blow cX9_blow 7 (some .int) 6 133 [(2, [1, 2, 3]), (0, []), (0, []), (1, [])] [zr 0 0 0, zi a1, zi a2, zi a3, zi a4, zi a5, zi a6] [s0, s1, s2, s3] ((zts (fun q => some (zi q.1)) (fun q => [s0, q.2, s2, s3]) (fun b => b.1) (fun b => [s0, b.2, s2, s3])) a) := fun a ha => zMet_of (L0 := [some (zr 0 0 0), some (zi a1), some (zi a2), some (zi a3), some (zi a4), some (zi a5), some (zi a6)]) (φ := Option.bind (fWB_blow a1 a2 a3 a4 a5 a6 s0 s1 s2 s3) (fun a => some ((zts (fun q => some (zi q.1)) (fun q => [s0, q.2, s2, s3]) (fun b => b.1) (fun b => [s0, b.2, s2, s3])) a))) (by decide) (fun _ => Nat.le_of_ble_eq_true rfl) (zl0 0 rfl) (fun X F => bfWB_blow F a1 a2 a3 a4 a5 a6 s0 s1 s2 s3 (fun _ => rfl)) (by rw [ha]; rfl)

theorem dX9_checkTurbine_0 : decode cX9_checkTurbine 0 = .ok (.aload_n 0, 1) := by decide +kernel
theorem dX9_checkTurbine_1 : decode cX9_checkTurbine 1 = .ok (.getfield 10, 3) := by decide +kernel
theorem dX9_checkTurbine_4 : decode cX9_checkTurbine 4 = .ok (.iload_n 1, 1) := by decide +kernel
theorem dX9_checkTurbine_5 : decode cX9_checkTurbine 5 = .ok (.invokevirtual 168, 3) := by decide +kernel
theorem dX9_checkTurbine_8 : decode cX9_checkTurbine 8 = .ok (.ifCond .ne 14, 3) := by decide +kernel
theorem dX9_checkTurbine_11 : decode cX9_checkTurbine 11 = .ok (.new 238, 3) := by decide +kernel
theorem dX9_checkTurbine_14 : decode cX9_checkTurbine 14 = .ok (.dup, 1) := by decide +kernel
theorem dX9_checkTurbine_15 : decode cX9_checkTurbine 15 = .ok (.ldc_w 362, 3) := by decide +kernel
theorem dX9_checkTurbine_18 : decode cX9_checkTurbine 18 = .ok (.invokespecial 242, 3) := by decide +kernel
theorem dX9_checkTurbine_21 : decode cX9_checkTurbine 21 = .ok (.athrow, 1) := by decide +kernel
theorem dX9_checkTurbine_22 : decode cX9_checkTurbine 22 = .ok (.return_, 1) := by decide +kernel
theorem wcRX9_168 : Cond.methodLink RX9 168 yX3_hasTurbine ∈ zTg ∧ Cond.instanceMethod yX3_hasTurbine ∈ zTg ∧ Cond.selects RX3 yX3_hasTurbine yX3_hasTurbine ∈ zTg ∧ Cond.initialized RX3 ∈ zTg ∧ Cond.code yX3_hasTurbine cX3_hasTurbine 2 (some .boolean) ∈ zTg := ⟨zm_f 282 (by decide +kernel) rfl, zm_f 270 (by decide +kernel) rfl, zm_f 271 (by decide +kernel) rfl, zm_f 22 (by decide +kernel) rfl, zm_f 272 (by decide +kernel) rfl⟩
theorem wsRX9_362 : (RX9, 362, "no such TURBINE") ∈ zstr := by decide +kernel
def fWB_checkTurbine (a1 : Int32) (s0 : zM) (s1 : zM) (s2 : zM) (s3 : zM) : Option ((Unit) ⊕ (String)) :=
  Option.bind (fSe_hasTurbine a1 s1) fun q1 =>
  if q1 = 0 then
  some (.inr "java/lang/IndexOutOfBoundsException")
else
  some (.inl ())
set_option maxHeartbeats 4000000 in
set_option maxRecDepth 20000 in
theorem bfWB_checkTurbine {X : zX} (F : zFr X cX9_checkTurbine 2 RX9 none) (a1 : Int32)  (s0 : zM) (s1 : zM) (s2 : zM) (s3 : zM) {κ : (Unit) ⊕ (String) → Option zO} (hκ : ∀ a, κ a = some ((zts (fun _ => (none : Option zV)) (fun _ => [s0, s1, s2, s3]) (fun b => b) (fun _ => [s0, s1, s2, s3])) a)) : zZ X [(2, [1, 2, 3]), (0, []), (0, []), (1, [])] 6 90 2 0 [some (zr 0 0 0), some (zi a1)] [] [s0, s1, s2, s3] (Option.bind (fWB_checkTurbine a1 s0 s1 s2 s3) κ) := by
  unfold fWB_checkTurbine
  refine zz_aload_n F (i := 0) dX9_checkTurbine_0 rfl rfl ?_
  refine zz_getr F dX9_checkTurbine_1 wfRX9_10 zCl_8 rfl (⟨zlb rfl, zlb rfl, zlb rfl⟩) rfl (by decide) rfl (r' := 1) (by decide) ?_
  refine zz_iload_n F (i := 1) dX9_checkTurbine_4 rfl rfl ?_
  refine zz_bind ?_
  refine zz_callVr F (ρ := [1]) (so := fun q1 => [zi q1]) (Mo := fun q1 => [s0, s1, s2, s3]) (zfSe_hasTurbine a1 s1) dX9_checkTurbine_5 wcRX9_168 wy_yX3_hasTurbine rfl ⟨rel1, rfl, rfl, Nat.le_of_ble_eq_true rfl, Nat.le_of_ble_eq_true rfl, Nat.le_of_ble_eq_true rfl⟩ (⟨zlb rfl, zlb rfl, zlb rfl⟩) rfl rfl rfl (fun _ => rfl) (fun _ => rfl) fun q1 => ?_
  refine zz_if_ne F (tgt := 22) dX9_checkTurbine_8 (by decide) (fun h => zz_f h ?_) (fun h => zz_t h ?_)
  · exact zz_return F dX9_checkTurbine_22 rfl (hκ _)
  · exact zz_throwW F (cls := "java/lang/IndexOutOfBoundsException") dX9_checkTurbine_11 dX9_checkTurbine_14 dX9_checkTurbine_15 dX9_checkTurbine_18 dX9_checkTurbine_21 (by decide) wtRX9_238_242k wsRX9_362 wtRX9_238_242g wtRX9_238_242n wtRX9_238_242o (Nat.le_of_ble_eq_true rfl) (Nat.le_of_ble_eq_true rfl) (hκ _)
theorem zfWB_checkTurbine (a1 : Int32)  (s0 : zM) (s1 : zM) (s2 : zM) (s3 : zM) : ∀ a, fWB_checkTurbine a1 s0 s1 s2 s3 = some a → zMet yX9_checkTurbine cX9_checkTurbine 2 none 6 90 [(2, [1, 2, 3]), (0, []), (0, []), (1, [])] [zr 0 0 0, zi a1] [s0, s1, s2, s3] ((zts (fun _ => (none : Option zV)) (fun _ => [s0, s1, s2, s3]) (fun b => b) (fun _ => [s0, s1, s2, s3])) a) := fun a ha => zMet_of (L0 := [some (zr 0 0 0), some (zi a1)]) (φ := Option.bind (fWB_checkTurbine a1 s0 s1 s2 s3) (fun a => some ((zts (fun _ => (none : Option zV)) (fun _ => [s0, s1, s2, s3]) (fun b => b) (fun _ => [s0, s1, s2, s3])) a))) (by decide) (fun _ => Nat.le_of_ble_eq_true rfl) (zl0 0 rfl) (fun X F => bfWB_checkTurbine F a1 s0 s1 s2 s3 (fun _ => rfl)) (by rw [ha]; rfl)

theorem dX9_turn_0 : decode cX9_turn 0 = .ok (.aload_n 0, 1) := by decide +kernel
theorem dX9_turn_1 : decode cX9_turn 1 = .ok (.iload_n 1, 1) := by decide +kernel
theorem dX9_turn_2 : decode cX9_turn 2 = .ok (.invokevirtual 113, 3) := by decide +kernel
theorem dX9_turn_5 : decode cX9_turn 5 = .ok (.iload_n 2, 1) := by decide +kernel
theorem dX9_turn_6 : decode cX9_turn 6 = .ok (.bipush (-2), 2) := by decide +kernel
theorem dX9_turn_8 : decode cX9_turn 8 = .ok (.iconst 2, 1) := by decide +kernel
theorem dX9_turn_9 : decode cX9_turn 9 = .ok (.invokestatic 26, 3) := by decide +kernel
theorem dX9_turn_12 : decode cX9_turn 12 = .ok (.ifCond .eq 13, 3) := by decide +kernel
theorem dX9_turn_15 : decode cX9_turn 15 = .ok (.new 30, 3) := by decide +kernel
theorem dX9_turn_18 : decode cX9_turn 18 = .ok (.dup, 1) := by decide +kernel
theorem dX9_turn_19 : decode cX9_turn 19 = .ok (.ldc 116, 2) := by decide +kernel
theorem dX9_turn_21 : decode cX9_turn 21 = .ok (.invokespecial 34, 3) := by decide +kernel
theorem dX9_turn_24 : decode cX9_turn 24 = .ok (.athrow, 1) := by decide +kernel
theorem dX9_turn_25 : decode cX9_turn 25 = .ok (.aload_n 0, 1) := by decide +kernel
theorem dX9_turn_26 : decode cX9_turn 26 = .ok (.getfield 10, 3) := by decide +kernel
theorem dX9_turn_29 : decode cX9_turn 29 = .ok (.getfield 118, 3) := by decide +kernel
theorem dX9_turn_32 : decode cX9_turn 32 = .ok (.iload_n 1, 1) := by decide +kernel
theorem dX9_turn_33 : decode cX9_turn 33 = .ok (.aaload, 1) := by decide +kernel
theorem dX9_turn_34 : decode cX9_turn 34 = .ok (.astore_n 3, 1) := by decide +kernel
theorem dX9_turn_35 : decode cX9_turn 35 = .ok (.aload_n 3, 1) := by decide +kernel
theorem dX9_turn_36 : decode cX9_turn 36 = .ok (.getfield 122, 3) := by decide +kernel
theorem dX9_turn_39 : decode cX9_turn 39 = .ok (.istore 4, 2) := by decide +kernel
theorem dX9_turn_41 : decode cX9_turn 41 = .ok (.aload_n 3, 1) := by decide +kernel
theorem dX9_turn_42 : decode cX9_turn 42 = .ok (.iload_n 2, 1) := by decide +kernel
theorem dX9_turn_43 : decode cX9_turn 43 = .ok (.putfield 122, 3) := by decide +kernel
theorem dX9_turn_46 : decode cX9_turn 46 = .ok (.iload 4, 2) := by decide +kernel
theorem dX9_turn_48 : decode cX9_turn 48 = .ok (.ireturn, 1) := by decide +kernel
theorem wcRX9_113 : Cond.methodLink RX9 113 yX9_checkTurbine ∈ zTg ∧ Cond.instanceMethod yX9_checkTurbine ∈ zTg ∧ Cond.selects RX9 yX9_checkTurbine yX9_checkTurbine ∈ zTg ∧ Cond.initialized RX9 ∈ zTg ∧ Cond.code yX9_checkTurbine cX9_checkTurbine 2 none ∈ zTg := ⟨zm_f 277 (by decide +kernel) rfl, zm_f 279 (by decide +kernel) rfl, zm_f 13 (by decide +kernel) rfl, zm_f 21 (by decide +kernel) rfl, zm_f 281 (by decide +kernel) rfl⟩
theorem wy_yX9_checkTurbine : yX9_checkTurbine.cls = RX9 ∧ yX9_checkTurbine.cls ≠ "java/lang/invoke/MethodHandle" ∧ yX9_checkTurbine.cls ≠ "java/lang/invoke/VarHandle" ∧ (parseMethodDescriptor yX9_checkTurbine.desc).map (fun d => d.parameters.length) = some 1 := by decide +kernel
theorem wfRX9_118 : zFl RX9 118 3 0 := ⟨_, rfl, by decide, zm_f 646 (by decide +kernel) rfl⟩
theorem wfRX9_122 : zFl RX9 122 5 7 := ⟨_, rfl, by decide, zm_f 546 (by decide +kernel) rfl⟩
theorem wpRX9_122 : zFw RX9 122 5 7 .int := ⟨_, rfl, by decide, zm_f 546 (by decide +kernel) rfl, rfl, by decide +kernel⟩
theorem wsRX9_116 : (RX9, 116, "a TURN is -2 to 2") ∈ zstr := by decide +kernel
def fWB_turn (a1 : Int32) (a2 : Int32) (s0 : zM) (s1 : zM) (s2 : zM) (s3 : zM) : Option ((Int32 × zM) ⊕ (String × zM)) :=
  Option.bind (fWB_checkTurbine a1 s0 s1 s2 s3) (Sum.elim (fun (_ : Unit) =>
  Option.bind (fWB_outside a2 (-2 : Int32) (2 : Int32)) fun q2 =>
  if q2 = 0 then
  zix a1 8 fun j3 =>
    zlet ((s1 7 j3 7)) fun v4 =>
    zlet (zu s1 7 j3 7 a2) fun s1_5 =>
    some (.inl (v4, s1_5))
else
  some (.inr ("java/lang/IllegalArgumentException", s1))) (fun b => some (.inr (b, s1))))
set_option maxHeartbeats 4000000 in
set_option maxRecDepth 20000 in
theorem bfWB_turn {X : zX} (F : zFr X cX9_turn 5 RX9 (some .int)) (a1 : Int32) (a2 : Int32)  (s0 : zM) (s1 : zM) (s2 : zM) (s3 : zM) {κ : (Int32 × zM) ⊕ (String × zM) → Option zO} (hκ : ∀ a, κ a = some ((zts (fun q => some (zi q.1)) (fun q => [s0, q.2, s2, s3]) (fun b => b.1) (fun b => [s0, b.2, s2, s3])) a)) : zZ X [(2, [1, 2, 3]), (0, []), (0, []), (1, [])] 7 111 5 0 [some (zr 0 0 0), some (zi a1), some (zi a2), none, none] [] [s0, s1, s2, s3] (Option.bind (fWB_turn a1 a2 s0 s1 s2 s3) κ) := by
  unfold fWB_turn
  refine zz_aload_n F (i := 0) dX9_turn_0 rfl rfl ?_
  refine zz_iload_n F (i := 1) dX9_turn_1 rfl rfl ?_
  refine zz_bind ?_
  refine zz_callVx F (ρ := [0, 1, 2, 3]) (so := fun _ => []) (Mo := fun _ => [s0, s1, s2, s3]) (Xo := fun _ => [s0, s1, s2, s3]) (zfWB_checkTurbine a1 s0 s1 s2 s3) dX9_turn_2 wcRX9_113 wy_yX9_checkTurbine rfl ⟨rel2, rfl, rfl, Nat.le_of_ble_eq_true rfl, Nat.le_of_ble_eq_true rfl, Nat.le_of_ble_eq_true rfl⟩ (⟨zlb rfl, zlb rfl, zlb rfl⟩) rfl rfl rfl (fun _ => rfl) (fun _ => rfl) (fun _ => rfl) (fun _ => (hκ _)) fun _ => ?_
  dsimp only [Sum.elim_inl]
  refine zz_iload_n F (i := 2) dX9_turn_5 rfl rfl ?_
  refine zz_bipush F (v := (-2 : Int32)) dX9_turn_6 (by decide) ?_
  refine zz_iconst F (v := (2 : Int32)) dX9_turn_8 (by decide) ?_
  refine zz_bind ?_
  refine zz_callSr F (ρ := []) (so := fun q2 => [zi q2]) (Mo := fun q2 => [s0, s1, s2, s3]) (zfWB_outside a2 (-2 : Int32) (2 : Int32)) dX9_turn_9 wcRX9_26 wy_yX9_outside rfl ⟨rel0, rfl, rfl, Nat.le_of_ble_eq_true rfl, Nat.le_of_ble_eq_true rfl, Nat.le_of_ble_eq_true rfl⟩ rfl (fun _ => rfl) (fun _ => rfl) fun q2 => ?_
  refine zz_if_eq F (tgt := 25) dX9_turn_12 (by decide) (fun h => zz_t h ?_) (fun h => zz_f h ?_)
  · refine zz_aload_n F (i := 0) dX9_turn_25 rfl rfl ?_
    refine zz_getr F dX9_turn_26 wfRX9_10 zCl_8 rfl (⟨zlb rfl, zlb rfl, zlb rfl⟩) rfl (by decide) rfl (r' := 1) (by decide) ?_
    refine zz_getr F dX9_turn_29 wfRX9_118 zCl_3 rfl (⟨zlb rfl, zlb rfl, zlb rfl⟩) rfl (by decide) rfl (r' := 1) (by decide) ?_
    refine zz_iload_n F (i := 1) dX9_turn_32 rfl rfl ?_
    refine zz_ix fun j3 hj3 hinj3 hej3 => zz_aal F dX9_turn_33 rfl (⟨zlb rfl, zlb rfl, zlb rfl⟩) rfl (by decide) rfl hinj3 hej3 rfl ?_
    refine zz_astore_n F (i := 3) (L' := [some (zr 0 0 0), some (zi a1), some (zi a2), some (zr 1 7 j3), none]) dX9_turn_34 rfl (by decide) rfl rfl ?_
    refine zz_aload_n F (i := 3) dX9_turn_35 rfl rfl ?_
    refine zz_getf F dX9_turn_36 wfRX9_122 zCl_5 rfl (⟨zlb rfl, zlb rfl, hj3⟩) rfl (by decide) rfl rfl ?_
    refine zz_istore F (i := 4) (L' := [some (zr 0 0 0), some (zi a1), some (zi a2), some (zr 1 7 j3), some (zi (s1 7 j3 7))]) dX9_turn_39 (by decide) rfl rfl ?_
    refine zz_letl (Lf := fun v4 => [some (zr 0 0 0), some (zi a1), some (zi a2), some (zr 1 7 j3), some (zi v4)]) fun v4 => ?_
    refine zz_aload_n F (i := 3) dX9_turn_41 rfl rfl ?_
    refine zz_iload_n F (i := 2) dX9_turn_42 rfl rfl ?_
    refine zz_put F (Ms' := [s0, (zu s1 7 j3 7 a2), s2, s3]) dX9_turn_43 wpRX9_122 zCl_5 rfl (⟨zlb rfl, zlb rfl, hj3⟩) rfl (by decide) rfl rfl rfl ?_
    refine zz_letm (Mf := fun s1_5 => [s0, s1_5, s2, s3]) fun s1_5 => ?_
    refine zz_iload F (i := 4) dX9_turn_46 rfl ?_
    exact zz_ireturn F dX9_turn_48 rfl (hκ _)
  · exact zz_throw F (cls := "java/lang/IllegalArgumentException") dX9_turn_15 dX9_turn_18 dX9_turn_19 dX9_turn_21 dX9_turn_24 (by decide) wtRX9_30_34k wsRX9_116 wtRX9_30_34g wtRX9_30_34n wtRX9_30_34o (Nat.le_of_ble_eq_true rfl) (Nat.le_of_ble_eq_true rfl) (hκ _)
theorem zfWB_turn (a1 : Int32) (a2 : Int32)  (s0 : zM) (s1 : zM) (s2 : zM) (s3 : zM) : ∀ a, fWB_turn a1 a2 s0 s1 s2 s3 = some a → zMet yX9_turn cX9_turn 5 (some .int) 7 111 [(2, [1, 2, 3]), (0, []), (0, []), (1, [])] [zr 0 0 0, zi a1, zi a2] [s0, s1, s2, s3] ((zts (fun q => some (zi q.1)) (fun q => [s0, q.2, s2, s3]) (fun b => b.1) (fun b => [s0, b.2, s2, s3])) a) := fun a ha => zMet_of (L0 := [some (zr 0 0 0), some (zi a1), some (zi a2), none, none]) (φ := Option.bind (fWB_turn a1 a2 s0 s1 s2 s3) (fun a => some ((zts (fun q => some (zi q.1)) (fun q => [s0, q.2, s2, s3]) (fun b => b.1) (fun b => [s0, b.2, s2, s3])) a))) (by decide) (fun _ => Nat.le_of_ble_eq_true rfl) (zl0 2 rfl) (fun X F => bfWB_turn F a1 a2 s0 s1 s2 s3 (fun _ => rfl)) (by rw [ha]; rfl)

theorem dX9_ofTurbine_0 : decode cX9_ofTurbine 0 = .ok (.aload_n 0, 1) := by decide +kernel
theorem dX9_ofTurbine_1 : decode cX9_ofTurbine 1 = .ok (.iload_n 1, 1) := by decide +kernel
theorem dX9_ofTurbine_2 : decode cX9_ofTurbine 2 = .ok (.invokevirtual 113, 3) := by decide +kernel
theorem dX9_ofTurbine_5 : decode cX9_ofTurbine 5 = .ok (.aload_n 0, 1) := by decide +kernel
theorem dX9_ofTurbine_6 : decode cX9_ofTurbine 6 = .ok (.getfield 10, 3) := by decide +kernel
theorem dX9_ofTurbine_9 : decode cX9_ofTurbine 9 = .ok (.getfield 118, 3) := by decide +kernel
theorem dX9_ofTurbine_12 : decode cX9_ofTurbine 12 = .ok (.iload_n 1, 1) := by decide +kernel
theorem dX9_ofTurbine_13 : decode cX9_ofTurbine 13 = .ok (.aaload, 1) := by decide +kernel
theorem dX9_ofTurbine_14 : decode cX9_ofTurbine 14 = .ok (.astore_n 3, 1) := by decide +kernel
theorem dX9_ofTurbine_15 : decode cX9_ofTurbine 15 = .ok (.iload_n 2, 1) := by decide +kernel
theorem dX9_ofTurbine_16 : decode cX9_ofTurbine 16 = .ok (.tableswitch 116 0 9 #[56, 61, 66, 71, 76, 85, 93, 101, 106, 111], 56) := by decide +kernel
theorem dX9_ofTurbine_72 : decode cX9_ofTurbine 72 = .ok (.aload_n 3, 1) := by decide +kernel
theorem dX9_ofTurbine_73 : decode cX9_ofTurbine 73 = .ok (.getfield 127, 3) := by decide +kernel
theorem dX9_ofTurbine_76 : decode cX9_ofTurbine 76 = .ok (.ireturn, 1) := by decide +kernel
theorem dX9_ofTurbine_77 : decode cX9_ofTurbine 77 = .ok (.aload_n 3, 1) := by decide +kernel
theorem dX9_ofTurbine_78 : decode cX9_ofTurbine 78 = .ok (.getfield 122, 3) := by decide +kernel
theorem dX9_ofTurbine_81 : decode cX9_ofTurbine 81 = .ok (.ireturn, 1) := by decide +kernel
theorem dX9_ofTurbine_82 : decode cX9_ofTurbine 82 = .ok (.aload_n 3, 1) := by decide +kernel
theorem dX9_ofTurbine_83 : decode cX9_ofTurbine 83 = .ok (.getfield 205, 3) := by decide +kernel
theorem dX9_ofTurbine_86 : decode cX9_ofTurbine 86 = .ok (.ireturn, 1) := by decide +kernel
theorem dX9_ofTurbine_87 : decode cX9_ofTurbine 87 = .ok (.aload_n 3, 1) := by decide +kernel
theorem dX9_ofTurbine_88 : decode cX9_ofTurbine 88 = .ok (.getfield 208, 3) := by decide +kernel
theorem dX9_ofTurbine_91 : decode cX9_ofTurbine 91 = .ok (.ireturn, 1) := by decide +kernel
theorem dX9_ofTurbine_92 : decode cX9_ofTurbine 92 = .ok (.aload_n 0, 1) := by decide +kernel
theorem dX9_ofTurbine_93 : decode cX9_ofTurbine 93 = .ok (.getfield 10, 3) := by decide +kernel
theorem dX9_ofTurbine_96 : decode cX9_ofTurbine 96 = .ok (.iload_n 1, 1) := by decide +kernel
theorem dX9_ofTurbine_97 : decode cX9_ofTurbine 97 = .ok (.invokevirtual 211, 3) := by decide +kernel
theorem dX9_ofTurbine_100 : decode cX9_ofTurbine 100 = .ok (.ireturn, 1) := by decide +kernel
theorem dX9_ofTurbine_101 : decode cX9_ofTurbine 101 = .ok (.aload_n 3, 1) := by decide +kernel
theorem dX9_ofTurbine_102 : decode cX9_ofTurbine 102 = .ok (.getfield 214, 3) := by decide +kernel
theorem dX9_ofTurbine_105 : decode cX9_ofTurbine 105 = .ok (.getfield 218, 3) := by decide +kernel
theorem dX9_ofTurbine_108 : decode cX9_ofTurbine 108 = .ok (.ireturn, 1) := by decide +kernel
theorem dX9_ofTurbine_109 : decode cX9_ofTurbine 109 = .ok (.aload_n 3, 1) := by decide +kernel
theorem dX9_ofTurbine_110 : decode cX9_ofTurbine 110 = .ok (.getfield 214, 3) := by decide +kernel
theorem dX9_ofTurbine_113 : decode cX9_ofTurbine 113 = .ok (.getfield 223, 3) := by decide +kernel
theorem dX9_ofTurbine_116 : decode cX9_ofTurbine 116 = .ok (.ireturn, 1) := by decide +kernel
theorem dX9_ofTurbine_117 : decode cX9_ofTurbine 117 = .ok (.aload_n 3, 1) := by decide +kernel
theorem dX9_ofTurbine_118 : decode cX9_ofTurbine 118 = .ok (.getfield 226, 3) := by decide +kernel
theorem dX9_ofTurbine_121 : decode cX9_ofTurbine 121 = .ok (.ireturn, 1) := by decide +kernel
theorem dX9_ofTurbine_122 : decode cX9_ofTurbine 122 = .ok (.aload_n 3, 1) := by decide +kernel
theorem dX9_ofTurbine_123 : decode cX9_ofTurbine 123 = .ok (.getfield 177, 3) := by decide +kernel
theorem dX9_ofTurbine_126 : decode cX9_ofTurbine 126 = .ok (.ireturn, 1) := by decide +kernel
theorem dX9_ofTurbine_127 : decode cX9_ofTurbine 127 = .ok (.aload_n 3, 1) := by decide +kernel
theorem dX9_ofTurbine_128 : decode cX9_ofTurbine 128 = .ok (.getfield 229, 3) := by decide +kernel
theorem dX9_ofTurbine_131 : decode cX9_ofTurbine 131 = .ok (.ireturn, 1) := by decide +kernel
theorem dX9_ofTurbine_132 : decode cX9_ofTurbine 132 = .ok (.new 30, 3) := by decide +kernel
theorem dX9_ofTurbine_135 : decode cX9_ofTurbine 135 = .ok (.dup, 1) := by decide +kernel
theorem dX9_ofTurbine_136 : decode cX9_ofTurbine 136 = .ok (.ldc 232, 2) := by decide +kernel
theorem dX9_ofTurbine_138 : decode cX9_ofTurbine 138 = .ok (.invokespecial 34, 3) := by decide +kernel
theorem dX9_ofTurbine_141 : decode cX9_ofTurbine 141 = .ok (.athrow, 1) := by decide +kernel
theorem wsRX9_232 : (RX9, 232, "of a TURBINE 0 to 9 is asked") ∈ zstr := by decide +kernel
theorem wfRX9_127 : zFl RX9 127 5 3 := ⟨_, rfl, by decide, zm_f 538 (by decide +kernel) rfl⟩
theorem wfRX9_205 : zFl RX9 205 5 8 := ⟨_, rfl, by decide, zm_f 549 (by decide +kernel) rfl⟩
theorem wfRX9_208 : zFl RX9 208 5 10 := ⟨_, rfl, by decide, zm_f 552 (by decide +kernel) rfl⟩
theorem wcRX9_211 : Cond.methodLink RX9 211 yX3_deficitOf ∈ zTg ∧ Cond.instanceMethod yX3_deficitOf ∈ zTg ∧ Cond.selects RX3 yX3_deficitOf yX3_deficitOf ∈ zTg ∧ Cond.initialized RX3 ∈ zTg ∧ Cond.code yX3_deficitOf cX3_deficitOf 6 (some .int) ∈ zTg := ⟨zm_f 377 (by decide +kernel) rfl, zm_f 162 (by decide +kernel) rfl, zm_f 163 (by decide +kernel) rfl, zm_f 22 (by decide +kernel) rfl, zm_f 164 (by decide +kernel) rfl⟩
theorem wfRX9_214 : zFl RX9 214 5 13 := ⟨_, rfl, by decide, zm_f 561 (by decide +kernel) rfl⟩
theorem wfRX9_218 : zFl RX9 218 1 2 := ⟨_, rfl, by decide, zm_f 516 (by decide +kernel) rfl⟩
theorem wfRX9_223 : zFl RX9 223 1 1 := ⟨_, rfl, by decide, zm_f 514 (by decide +kernel) rfl⟩
theorem wfRX9_226 : zFl RX9 226 5 5 := ⟨_, rfl, by decide, zm_f 542 (by decide +kernel) rfl⟩
theorem wfRX9_177 : zFl RX9 177 5 6 := ⟨_, rfl, by decide, zm_f 544 (by decide +kernel) rfl⟩
theorem wfRX9_229 : zFl RX9 229 5 4 := ⟨_, rfl, by decide, zm_f 540 (by decide +kernel) rfl⟩
def fWB_ofTurbine (a1 : Int32) (a2 : Int32) (s0 : zM) (s1 : zM) (s2 : zM) (s3 : zM) : Option ((Int32) ⊕ (String)) :=
  Option.bind (fWB_checkTurbine a1 s0 s1 s2 s3) (Sum.elim (fun (_ : Unit) =>
  zix a1 8 fun j2 =>
  if a2 < 0 ∨ 9 < a2 then
  some (.inr "java/lang/IllegalArgumentException")
else
  if a2 = 0 then
    some (.inl (s1 7 j2 3))
  else
    if a2 = 1 then
      some (.inl (s1 7 j2 7))
    else
      if a2 = 2 then
        some (.inl (s1 7 j2 8))
      else
        if a2 = 3 then
          some (.inl (s1 7 j2 10))
        else
          if a2 = 4 then
            Option.bind (fSe_deficitOf a1 s1) fun q3 =>
              some (.inl q3)
          else
            if a2 = 5 then
              some (.inl (s1 10 j2 2))
            else
              if a2 = 6 then
                some (.inl (s1 10 j2 1))
              else
                if a2 = 7 then
                  some (.inl (s1 7 j2 5))
                else
                  if a2 = 8 then
                    some (.inl (s1 7 j2 6))
                  else
                    some (.inl (s1 7 j2 4))) (fun b => some (.inr b)))
set_option maxHeartbeats 4000000 in
set_option maxRecDepth 20000 in
theorem bfWB_ofTurbine {X : zX} (F : zFr X cX9_ofTurbine 4 RX9 (some .int)) (a1 : Int32) (a2 : Int32)  (s0 : zM) (s1 : zM) (s2 : zM) (s3 : zM) {κ : (Int32) ⊕ (String) → Option zO} (hκ : ∀ a, κ a = some ((zts (fun q => some (zi q)) (fun _ => [s0, s1, s2, s3]) (fun b => b) (fun _ => [s0, s1, s2, s3])) a)) : zZ X [(2, [1, 2, 3]), (0, []), (0, []), (1, [])] 7 111 4 0 [some (zr 0 0 0), some (zi a1), some (zi a2), none] [] [s0, s1, s2, s3] (Option.bind (fWB_ofTurbine a1 a2 s0 s1 s2 s3) κ) := by
  unfold fWB_ofTurbine
  refine zz_aload_n F (i := 0) dX9_ofTurbine_0 rfl rfl ?_
  refine zz_iload_n F (i := 1) dX9_ofTurbine_1 rfl rfl ?_
  refine zz_bind ?_
  refine zz_callVx F (ρ := [0, 1, 2, 3]) (so := fun _ => []) (Mo := fun _ => [s0, s1, s2, s3]) (Xo := fun _ => [s0, s1, s2, s3]) (zfWB_checkTurbine a1 s0 s1 s2 s3) dX9_ofTurbine_2 wcRX9_113 wy_yX9_checkTurbine rfl ⟨rel2, rfl, rfl, Nat.le_of_ble_eq_true rfl, Nat.le_of_ble_eq_true rfl, Nat.le_of_ble_eq_true rfl⟩ (⟨zlb rfl, zlb rfl, zlb rfl⟩) rfl rfl rfl (fun _ => rfl) (fun _ => rfl) (fun _ => rfl) (fun _ => (hκ _)) fun _ => ?_
  dsimp only [Sum.elim_inl]
  refine zz_aload_n F (i := 0) dX9_ofTurbine_5 rfl rfl ?_
  refine zz_getr F dX9_ofTurbine_6 wfRX9_10 zCl_8 rfl (⟨zlb rfl, zlb rfl, zlb rfl⟩) rfl (by decide) rfl (r' := 1) (by decide) ?_
  refine zz_getr F dX9_ofTurbine_9 wfRX9_118 zCl_3 rfl (⟨zlb rfl, zlb rfl, zlb rfl⟩) rfl (by decide) rfl (r' := 1) (by decide) ?_
  refine zz_iload_n F (i := 1) dX9_ofTurbine_12 rfl rfl ?_
  refine zz_ix fun j2 hj2 hinj2 hej2 => zz_aal F dX9_ofTurbine_13 rfl (⟨zlb rfl, zlb rfl, zlb rfl⟩) rfl (by decide) rfl hinj2 hej2 rfl ?_
  refine zz_astore_n F (i := 3) (L' := [some (zr 0 0 0), some (zi a1), some (zi a2), some (zr 1 7 j2)]) dX9_ofTurbine_14 rfl (by decide) rfl rfl ?_
  refine zz_iload_n F (i := 2) dX9_ofTurbine_15 rfl rfl ?_
  refine zz_sw (c := a2 < 0 ∨ 9 < a2) (fun h => ?_) (fun h => ?_)
  · refine zz_tableOut F (tgt := 132) dX9_ofTurbine_16 (zsw_out (lw := 0) (hi := 9) (a := 0) (b := 9) (by decide) (by decide) h) (by decide) ?_
    exact zz_throw F (cls := "java/lang/IllegalArgumentException") dX9_ofTurbine_132 dX9_ofTurbine_135 dX9_ofTurbine_136 dX9_ofTurbine_138 dX9_ofTurbine_141 (by decide) wtRX9_30_34k wsRX9_232 wtRX9_30_34g wtRX9_30_34n wtRX9_30_34o (Nat.le_of_ble_eq_true rfl) (Nat.le_of_ble_eq_true rfl) (hκ _)
  · refine zz_sw (c := a2 = 0) (fun hv => ?_) (fun hn0 => ?_)
    · refine zz_tableIn F (tgt := 72) (off := 56) dX9_ofTurbine_16 (by rw [zsw_at (k := 0) (a := 0) hv (by decide)]; decide) (by rw [zsw_at (k := 0) (a := 0) hv (by decide)]; decide) (by rw [zsw_at (k := 0) (a := 0) hv (by decide)]; rfl) (by decide) ?_
      refine zz_aload_n F (i := 3) dX9_ofTurbine_72 rfl rfl ?_
      refine zz_getf F dX9_ofTurbine_73 wfRX9_127 zCl_5 rfl (⟨zlb rfl, zlb rfl, hj2⟩) rfl (by decide) rfl rfl ?_
      exact zz_ireturn F dX9_ofTurbine_76 rfl (hκ _)
    · refine zz_sw (c := a2 = 1) (fun hv => ?_) (fun hn1 => ?_)
      · refine zz_tableIn F (tgt := 77) (off := 61) dX9_ofTurbine_16 (by rw [zsw_at (k := 1) (a := 1) hv (by decide)]; decide) (by rw [zsw_at (k := 1) (a := 1) hv (by decide)]; decide) (by rw [zsw_at (k := 1) (a := 1) hv (by decide)]; rfl) (by decide) ?_
        refine zz_aload_n F (i := 3) dX9_ofTurbine_77 rfl rfl ?_
        refine zz_getf F dX9_ofTurbine_78 wfRX9_122 zCl_5 rfl (⟨zlb rfl, zlb rfl, hj2⟩) rfl (by decide) rfl rfl ?_
        exact zz_ireturn F dX9_ofTurbine_81 rfl (hκ _)
      · refine zz_sw (c := a2 = 2) (fun hv => ?_) (fun hn2 => ?_)
        · refine zz_tableIn F (tgt := 82) (off := 66) dX9_ofTurbine_16 (by rw [zsw_at (k := 2) (a := 2) hv (by decide)]; decide) (by rw [zsw_at (k := 2) (a := 2) hv (by decide)]; decide) (by rw [zsw_at (k := 2) (a := 2) hv (by decide)]; rfl) (by decide) ?_
          refine zz_aload_n F (i := 3) dX9_ofTurbine_82 rfl rfl ?_
          refine zz_getf F dX9_ofTurbine_83 wfRX9_205 zCl_5 rfl (⟨zlb rfl, zlb rfl, hj2⟩) rfl (by decide) rfl rfl ?_
          exact zz_ireturn F dX9_ofTurbine_86 rfl (hκ _)
        · refine zz_sw (c := a2 = 3) (fun hv => ?_) (fun hn3 => ?_)
          · refine zz_tableIn F (tgt := 87) (off := 71) dX9_ofTurbine_16 (by rw [zsw_at (k := 3) (a := 3) hv (by decide)]; decide) (by rw [zsw_at (k := 3) (a := 3) hv (by decide)]; decide) (by rw [zsw_at (k := 3) (a := 3) hv (by decide)]; rfl) (by decide) ?_
            refine zz_aload_n F (i := 3) dX9_ofTurbine_87 rfl rfl ?_
            refine zz_getf F dX9_ofTurbine_88 wfRX9_208 zCl_5 rfl (⟨zlb rfl, zlb rfl, hj2⟩) rfl (by decide) rfl rfl ?_
            exact zz_ireturn F dX9_ofTurbine_91 rfl (hκ _)
          · refine zz_sw (c := a2 = 4) (fun hv => ?_) (fun hn4 => ?_)
            · refine zz_tableIn F (tgt := 92) (off := 76) dX9_ofTurbine_16 (by rw [zsw_at (k := 4) (a := 4) hv (by decide)]; decide) (by rw [zsw_at (k := 4) (a := 4) hv (by decide)]; decide) (by rw [zsw_at (k := 4) (a := 4) hv (by decide)]; rfl) (by decide) ?_
              refine zz_aload_n F (i := 0) dX9_ofTurbine_92 rfl rfl ?_
              refine zz_getr F dX9_ofTurbine_93 wfRX9_10 zCl_8 rfl (⟨zlb rfl, zlb rfl, zlb rfl⟩) rfl (by decide) rfl (r' := 1) (by decide) ?_
              refine zz_iload_n F (i := 1) dX9_ofTurbine_96 rfl rfl ?_
              refine zz_bind ?_
              refine zz_callVr F (ρ := [1]) (so := fun q3 => [zi q3]) (Mo := fun q3 => [s0, s1, s2, s3]) (zfSe_deficitOf a1 s1) dX9_ofTurbine_97 wcRX9_211 wy_yX3_deficitOf rfl ⟨rel1, rfl, rfl, Nat.le_of_ble_eq_true rfl, Nat.le_of_ble_eq_true rfl, Nat.le_of_ble_eq_true rfl⟩ (⟨zlb rfl, zlb rfl, zlb rfl⟩) rfl rfl rfl (fun _ => rfl) (fun _ => rfl) fun q3 => ?_
              exact zz_ireturn F dX9_ofTurbine_100 rfl (hκ _)
            · refine zz_sw (c := a2 = 5) (fun hv => ?_) (fun hn5 => ?_)
              · refine zz_tableIn F (tgt := 101) (off := 85) dX9_ofTurbine_16 (by rw [zsw_at (k := 5) (a := 5) hv (by decide)]; decide) (by rw [zsw_at (k := 5) (a := 5) hv (by decide)]; decide) (by rw [zsw_at (k := 5) (a := 5) hv (by decide)]; rfl) (by decide) ?_
                refine zz_aload_n F (i := 3) dX9_ofTurbine_101 rfl rfl ?_
                refine zz_getr F dX9_ofTurbine_102 wfRX9_214 zCl_5 rfl (⟨zlb rfl, zlb rfl, hj2⟩) rfl (by decide) rfl (r' := 1) (by decide) ?_
                refine zz_getf F dX9_ofTurbine_105 wfRX9_218 zCl_1 rfl (⟨zlb rfl, zlb rfl, hj2⟩) rfl (by decide) rfl rfl ?_
                exact zz_ireturn F dX9_ofTurbine_108 rfl (hκ _)
              · refine zz_sw (c := a2 = 6) (fun hv => ?_) (fun hn6 => ?_)
                · refine zz_tableIn F (tgt := 109) (off := 93) dX9_ofTurbine_16 (by rw [zsw_at (k := 6) (a := 6) hv (by decide)]; decide) (by rw [zsw_at (k := 6) (a := 6) hv (by decide)]; decide) (by rw [zsw_at (k := 6) (a := 6) hv (by decide)]; rfl) (by decide) ?_
                  refine zz_aload_n F (i := 3) dX9_ofTurbine_109 rfl rfl ?_
                  refine zz_getr F dX9_ofTurbine_110 wfRX9_214 zCl_5 rfl (⟨zlb rfl, zlb rfl, hj2⟩) rfl (by decide) rfl (r' := 1) (by decide) ?_
                  refine zz_getf F dX9_ofTurbine_113 wfRX9_223 zCl_1 rfl (⟨zlb rfl, zlb rfl, hj2⟩) rfl (by decide) rfl rfl ?_
                  exact zz_ireturn F dX9_ofTurbine_116 rfl (hκ _)
                · refine zz_sw (c := a2 = 7) (fun hv => ?_) (fun hn7 => ?_)
                  · refine zz_tableIn F (tgt := 117) (off := 101) dX9_ofTurbine_16 (by rw [zsw_at (k := 7) (a := 7) hv (by decide)]; decide) (by rw [zsw_at (k := 7) (a := 7) hv (by decide)]; decide) (by rw [zsw_at (k := 7) (a := 7) hv (by decide)]; rfl) (by decide) ?_
                    refine zz_aload_n F (i := 3) dX9_ofTurbine_117 rfl rfl ?_
                    refine zz_getf F dX9_ofTurbine_118 wfRX9_226 zCl_5 rfl (⟨zlb rfl, zlb rfl, hj2⟩) rfl (by decide) rfl rfl ?_
                    exact zz_ireturn F dX9_ofTurbine_121 rfl (hκ _)
                  · refine zz_sw (c := a2 = 8) (fun hv => ?_) (fun hn8 => ?_)
                    · refine zz_tableIn F (tgt := 122) (off := 106) dX9_ofTurbine_16 (by rw [zsw_at (k := 8) (a := 8) hv (by decide)]; decide) (by rw [zsw_at (k := 8) (a := 8) hv (by decide)]; decide) (by rw [zsw_at (k := 8) (a := 8) hv (by decide)]; rfl) (by decide) ?_
                      refine zz_aload_n F (i := 3) dX9_ofTurbine_122 rfl rfl ?_
                      refine zz_getf F dX9_ofTurbine_123 wfRX9_177 zCl_5 rfl (⟨zlb rfl, zlb rfl, hj2⟩) rfl (by decide) rfl rfl ?_
                      exact zz_ireturn F dX9_ofTurbine_126 rfl (hκ _)
                    · have hv : a2 = 9 := zsw_eq (a := 9) (by decide) (by have h1 := zsw_in (lw := 0) (hi := 9) (a := 0) (b := 9) (by decide) (by decide) h; have e0 := zsw_ne (a := 0) (by decide) hn0; have e1 := zsw_ne (a := 1) (by decide) hn1; have e2 := zsw_ne (a := 2) (by decide) hn2; have e3 := zsw_ne (a := 3) (by decide) hn3; have e4 := zsw_ne (a := 4) (by decide) hn4; have e5 := zsw_ne (a := 5) (by decide) hn5; have e6 := zsw_ne (a := 6) (by decide) hn6; have e7 := zsw_ne (a := 7) (by decide) hn7; have e8 := zsw_ne (a := 8) (by decide) hn8; omega)
                      refine zz_tableIn F (tgt := 127) (off := 111) dX9_ofTurbine_16 (by rw [zsw_at (k := 9) (a := 9) hv (by decide)]; decide) (by rw [zsw_at (k := 9) (a := 9) hv (by decide)]; decide) (by rw [zsw_at (k := 9) (a := 9) hv (by decide)]; rfl) (by decide) ?_
                      refine zz_aload_n F (i := 3) dX9_ofTurbine_127 rfl rfl ?_
                      refine zz_getf F dX9_ofTurbine_128 wfRX9_229 zCl_5 rfl (⟨zlb rfl, zlb rfl, hj2⟩) rfl (by decide) rfl rfl ?_
                      exact zz_ireturn F dX9_ofTurbine_131 rfl (hκ _)
theorem zfWB_ofTurbine (a1 : Int32) (a2 : Int32)  (s0 : zM) (s1 : zM) (s2 : zM) (s3 : zM) : ∀ a, fWB_ofTurbine a1 a2 s0 s1 s2 s3 = some a → zMet yX9_ofTurbine cX9_ofTurbine 4 (some .int) 7 111 [(2, [1, 2, 3]), (0, []), (0, []), (1, [])] [zr 0 0 0, zi a1, zi a2] [s0, s1, s2, s3] ((zts (fun q => some (zi q)) (fun _ => [s0, s1, s2, s3]) (fun b => b) (fun _ => [s0, s1, s2, s3])) a) := fun a ha => zMet_of (L0 := [some (zr 0 0 0), some (zi a1), some (zi a2), none]) (φ := Option.bind (fWB_ofTurbine a1 a2 s0 s1 s2 s3) (fun a => some ((zts (fun q => some (zi q)) (fun _ => [s0, s1, s2, s3]) (fun b => b) (fun _ => [s0, s1, s2, s3])) a))) (by decide) (fun _ => Nat.le_of_ble_eq_true rfl) (zl0 1 rfl) (fun X F => bfWB_ofTurbine F a1 a2 s0 s1 s2 s3 (fun _ => rfl)) (by rw [ha]; rfl)

theorem dX9_checkPart_0 : decode cX9_checkPart 0 = .ok (.iload_n 0, 1) := by decide +kernel
theorem dX9_checkPart_1 : decode cX9_checkPart 1 = .ok (.iconst 0, 1) := by decide +kernel
theorem dX9_checkPart_2 : decode cX9_checkPart 2 = .ok (.iconst 2, 1) := by decide +kernel
theorem dX9_checkPart_3 : decode cX9_checkPart 3 = .ok (.invokestatic 26, 3) := by decide +kernel
theorem dX9_checkPart_6 : decode cX9_checkPart 6 = .ok (.ifCond .eq 14, 3) := by decide +kernel
theorem dX9_checkPart_9 : decode cX9_checkPart 9 = .ok (.new 238, 3) := by decide +kernel
theorem dX9_checkPart_12 : decode cX9_checkPart 12 = .ok (.dup, 1) := by decide +kernel
theorem dX9_checkPart_13 : decode cX9_checkPart 13 = .ok (.ldc_w 368, 3) := by decide +kernel
theorem dX9_checkPart_16 : decode cX9_checkPart 16 = .ok (.invokespecial 242, 3) := by decide +kernel
theorem dX9_checkPart_19 : decode cX9_checkPart 19 = .ok (.athrow, 1) := by decide +kernel
theorem dX9_checkPart_20 : decode cX9_checkPart 20 = .ok (.return_, 1) := by decide +kernel
theorem rel5 : zRel [] [] [] := by unfold zRel; decide
theorem wsRX9_368 : (RX9, 368, "no such PART") ∈ zstr := by decide +kernel
def fWB_checkPart (a0 : Int32)  : Option ((Unit) ⊕ (String)) :=
  Option.bind (fWB_outside a0 (0 : Int32) (2 : Int32)) fun q1 =>
  if q1 = 0 then
  some (.inl ())
else
  some (.inr "java/lang/IndexOutOfBoundsException")
set_option maxHeartbeats 4000000 in
set_option maxRecDepth 20000 in
theorem bfWB_checkPart {X : zX} (F : zFr X cX9_checkPart 1 RX9 none) (a0 : Int32)   {κ : (Unit) ⊕ (String) → Option zO} (hκ : ∀ a, κ a = some ((zts (fun _ => (none : Option zV)) (fun _ => []) (fun b => b) (fun _ => [])) a)) : zZ X [] 6 90 1 0 [some (zi a0)] [] [] (Option.bind (fWB_checkPart a0) κ) := by
  unfold fWB_checkPart
  refine zz_iload_n F (i := 0) dX9_checkPart_0 rfl rfl ?_
  refine zz_iconst F (v := (0 : Int32)) dX9_checkPart_1 (by decide) ?_
  refine zz_iconst F (v := (2 : Int32)) dX9_checkPart_2 (by decide) ?_
  refine zz_bind ?_
  refine zz_callSr F (ρ := []) (so := fun q1 => [zi q1]) (Mo := fun q1 => []) (zfWB_outside a0 (0 : Int32) (2 : Int32)) dX9_checkPart_3 wcRX9_26 wy_yX9_outside rfl ⟨rel5, rfl, rfl, Nat.le_of_ble_eq_true rfl, Nat.le_of_ble_eq_true rfl, Nat.le_of_ble_eq_true rfl⟩ rfl (fun _ => rfl) (fun _ => rfl) fun q1 => ?_
  refine zz_if_eq F (tgt := 20) dX9_checkPart_6 (by decide) (fun h => zz_t h ?_) (fun h => zz_f h ?_)
  · exact zz_return F dX9_checkPart_20 rfl (hκ _)
  · exact zz_throwW F (cls := "java/lang/IndexOutOfBoundsException") dX9_checkPart_9 dX9_checkPart_12 dX9_checkPart_13 dX9_checkPart_16 dX9_checkPart_19 (by decide) wtRX9_238_242k wsRX9_368 wtRX9_238_242g wtRX9_238_242n wtRX9_238_242o (Nat.le_of_ble_eq_true rfl) (Nat.le_of_ble_eq_true rfl) (hκ _)
theorem zfWB_checkPart (a0 : Int32)   : ∀ a, fWB_checkPart a0 = some a → zMet yX9_checkPart cX9_checkPart 1 none 6 90 [] [zi a0] [] ((zts (fun _ => (none : Option zV)) (fun _ => []) (fun b => b) (fun _ => [])) a) := fun a ha => zMet_of (L0 := [some (zi a0)]) (φ := Option.bind (fWB_checkPart a0) (fun a => some ((zts (fun _ => (none : Option zV)) (fun _ => []) (fun b => b) (fun _ => [])) a))) (by decide) (fun _ => Nat.le_of_ble_eq_true rfl) (zl0 0 rfl) (fun X F => bfWB_checkPart F a0 (fun _ => rfl)) (by rw [ha]; rfl)
