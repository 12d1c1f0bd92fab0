theorem dX10_copy_0 : decode cX10_copy 0 = .ok (.new 12, 3) := by decide +kernel
theorem dX10_copy_3 : decode cX10_copy 3 = .ok (.dup, 1) := by decide +kernel
theorem dX10_copy_4 : decode cX10_copy 4 = .ok (.invokespecial 42, 3) := by decide +kernel
theorem dX10_copy_7 : decode cX10_copy 7 = .ok (.astore_n 1, 1) := by decide +kernel
theorem dX10_copy_8 : decode cX10_copy 8 = .ok (.iconst 0, 1) := by decide +kernel
theorem dX10_copy_9 : decode cX10_copy 9 = .ok (.istore_n 2, 1) := by decide +kernel
theorem dX10_copy_10 : decode cX10_copy 10 = .ok (.iload_n 2, 1) := by decide +kernel
theorem dX10_copy_11 : decode cX10_copy 11 = .ok (.aload_n 0, 1) := by decide +kernel
theorem dX10_copy_12 : decode cX10_copy 12 = .ok (.getfield 43, 3) := by decide +kernel
theorem dX10_copy_15 : decode cX10_copy 15 = .ok (.if_icmp .ge 47, 3) := by decide +kernel
theorem dX10_copy_18 : decode cX10_copy 18 = .ok (.aload_n 0, 1) := by decide +kernel
theorem dX10_copy_19 : decode cX10_copy 19 = .ok (.getfield 11, 3) := by decide +kernel
theorem dX10_copy_22 : decode cX10_copy 22 = .ok (.iload_n 2, 1) := by decide +kernel
theorem dX10_copy_23 : decode cX10_copy 23 = .ok (.aaload, 1) := by decide +kernel
theorem dX10_copy_24 : decode cX10_copy 24 = .ok (.iconst 0, 1) := by decide +kernel
theorem dX10_copy_25 : decode cX10_copy 25 = .ok (.aload_n 1, 1) := by decide +kernel
theorem dX10_copy_26 : decode cX10_copy 26 = .ok (.getfield 11, 3) := by decide +kernel
theorem dX10_copy_29 : decode cX10_copy 29 = .ok (.iload_n 2, 1) := by decide +kernel
theorem dX10_copy_30 : decode cX10_copy 30 = .ok (.aaload, 1) := by decide +kernel
theorem dX10_copy_31 : decode cX10_copy 31 = .ok (.iconst 0, 1) := by decide +kernel
theorem dX10_copy_32 : decode cX10_copy 32 = .ok (.bipush 23, 2) := by decide +kernel
theorem dX10_copy_34 : decode cX10_copy 34 = .ok (.invokestatic 46, 3) := by decide +kernel
theorem dX10_copy_37 : decode cX10_copy 37 = .ok (.aload_n 0, 1) := by decide +kernel
theorem dX10_copy_38 : decode cX10_copy 38 = .ok (.getfield 16, 3) := by decide +kernel
theorem dX10_copy_41 : decode cX10_copy 41 = .ok (.iload_n 2, 1) := by decide +kernel
theorem dX10_copy_42 : decode cX10_copy 42 = .ok (.aaload, 1) := by decide +kernel
theorem dX10_copy_43 : decode cX10_copy 43 = .ok (.iconst 0, 1) := by decide +kernel
theorem dX10_copy_44 : decode cX10_copy 44 = .ok (.aload_n 1, 1) := by decide +kernel
theorem dX10_copy_45 : decode cX10_copy 45 = .ok (.getfield 16, 3) := by decide +kernel
theorem dX10_copy_48 : decode cX10_copy 48 = .ok (.iload_n 2, 1) := by decide +kernel
theorem dX10_copy_49 : decode cX10_copy 49 = .ok (.aaload, 1) := by decide +kernel
theorem dX10_copy_50 : decode cX10_copy 50 = .ok (.iconst 0, 1) := by decide +kernel
theorem dX10_copy_51 : decode cX10_copy 51 = .ok (.bipush 30, 2) := by decide +kernel
theorem dX10_copy_53 : decode cX10_copy 53 = .ok (.invokestatic 46, 3) := by decide +kernel
theorem dX10_copy_56 : decode cX10_copy 56 = .ok (.iinc 2 1, 3) := by decide +kernel
theorem dX10_copy_59 : decode cX10_copy 59 = .ok (.goto (-49), 3) := by decide +kernel
theorem dX10_copy_62 : decode cX10_copy 62 = .ok (.iconst 0, 1) := by decide +kernel
theorem dX10_copy_63 : decode cX10_copy 63 = .ok (.istore_n 2, 1) := by decide +kernel
theorem dX10_copy_64 : decode cX10_copy 64 = .ok (.iload_n 2, 1) := by decide +kernel
theorem dX10_copy_65 : decode cX10_copy 65 = .ok (.iconst 3, 1) := by decide +kernel
theorem dX10_copy_66 : decode cX10_copy 66 = .ok (.if_icmp .ge 46, 3) := by decide +kernel
theorem dX10_copy_69 : decode cX10_copy 69 = .ok (.aload_n 0, 1) := by decide +kernel
theorem dX10_copy_70 : decode cX10_copy 70 = .ok (.getfield 19, 3) := by decide +kernel
theorem dX10_copy_73 : decode cX10_copy 73 = .ok (.iload_n 2, 1) := by decide +kernel
theorem dX10_copy_74 : decode cX10_copy 74 = .ok (.aaload, 1) := by decide +kernel
theorem dX10_copy_75 : decode cX10_copy 75 = .ok (.iconst 0, 1) := by decide +kernel
theorem dX10_copy_76 : decode cX10_copy 76 = .ok (.aload_n 1, 1) := by decide +kernel
theorem dX10_copy_77 : decode cX10_copy 77 = .ok (.getfield 19, 3) := by decide +kernel
theorem dX10_copy_80 : decode cX10_copy 80 = .ok (.iload_n 2, 1) := by decide +kernel
theorem dX10_copy_81 : decode cX10_copy 81 = .ok (.aaload, 1) := by decide +kernel
theorem dX10_copy_82 : decode cX10_copy 82 = .ok (.iconst 0, 1) := by decide +kernel
theorem dX10_copy_83 : decode cX10_copy 83 = .ok (.iconst 3, 1) := by decide +kernel
theorem dX10_copy_84 : decode cX10_copy 84 = .ok (.invokestatic 46, 3) := by decide +kernel
theorem dX10_copy_87 : decode cX10_copy 87 = .ok (.aload_n 0, 1) := by decide +kernel
theorem dX10_copy_88 : decode cX10_copy 88 = .ok (.getfield 22, 3) := by decide +kernel
theorem dX10_copy_91 : decode cX10_copy 91 = .ok (.iload_n 2, 1) := by decide +kernel
theorem dX10_copy_92 : decode cX10_copy 92 = .ok (.aaload, 1) := by decide +kernel
theorem dX10_copy_93 : decode cX10_copy 93 = .ok (.iconst 0, 1) := by decide +kernel
theorem dX10_copy_94 : decode cX10_copy 94 = .ok (.aload_n 1, 1) := by decide +kernel
theorem dX10_copy_95 : decode cX10_copy 95 = .ok (.getfield 22, 3) := by decide +kernel
theorem dX10_copy_98 : decode cX10_copy 98 = .ok (.iload_n 2, 1) := by decide +kernel
theorem dX10_copy_99 : decode cX10_copy 99 = .ok (.aaload, 1) := by decide +kernel
theorem dX10_copy_100 : decode cX10_copy 100 = .ok (.iconst 0, 1) := by decide +kernel
theorem dX10_copy_101 : decode cX10_copy 101 = .ok (.bipush 6, 2) := by decide +kernel
theorem dX10_copy_103 : decode cX10_copy 103 = .ok (.invokestatic 46, 3) := by decide +kernel
theorem dX10_copy_106 : decode cX10_copy 106 = .ok (.iinc 2 1, 3) := by decide +kernel
theorem dX10_copy_109 : decode cX10_copy 109 = .ok (.goto (-45), 3) := by decide +kernel
theorem dX10_copy_112 : decode cX10_copy 112 = .ok (.aload_n 0, 1) := by decide +kernel
theorem dX10_copy_113 : decode cX10_copy 113 = .ok (.getfield 25, 3) := by decide +kernel
theorem dX10_copy_116 : decode cX10_copy 116 = .ok (.iconst 0, 1) := by decide +kernel
theorem dX10_copy_117 : decode cX10_copy 117 = .ok (.aload_n 1, 1) := by decide +kernel
theorem dX10_copy_118 : decode cX10_copy 118 = .ok (.getfield 25, 3) := by decide +kernel
theorem dX10_copy_121 : decode cX10_copy 121 = .ok (.iconst 0, 1) := by decide +kernel
theorem dX10_copy_122 : decode cX10_copy 122 = .ok (.bipush 32, 2) := by decide +kernel
theorem dX10_copy_124 : decode cX10_copy 124 = .ok (.invokestatic 46, 3) := by decide +kernel
theorem dX10_copy_127 : decode cX10_copy 127 = .ok (.aload_n 0, 1) := by decide +kernel
theorem dX10_copy_128 : decode cX10_copy 128 = .ok (.getfield 29, 3) := by decide +kernel
theorem dX10_copy_131 : decode cX10_copy 131 = .ok (.iconst 0, 1) := by decide +kernel
theorem dX10_copy_132 : decode cX10_copy 132 = .ok (.aload_n 1, 1) := by decide +kernel
theorem dX10_copy_133 : decode cX10_copy 133 = .ok (.getfield 29, 3) := by decide +kernel
theorem dX10_copy_136 : decode cX10_copy 136 = .ok (.iconst 0, 1) := by decide +kernel
theorem dX10_copy_137 : decode cX10_copy 137 = .ok (.bipush 32, 2) := by decide +kernel
theorem dX10_copy_139 : decode cX10_copy 139 = .ok (.invokestatic 46, 3) := by decide +kernel
theorem dX10_copy_142 : decode cX10_copy 142 = .ok (.aload_n 1, 1) := by decide +kernel
theorem dX10_copy_143 : decode cX10_copy 143 = .ok (.aload_n 0, 1) := by decide +kernel
theorem dX10_copy_144 : decode cX10_copy 144 = .ok (.getfield 43, 3) := by decide +kernel
theorem dX10_copy_147 : decode cX10_copy 147 = .ok (.putfield 43, 3) := by decide +kernel
theorem dX10_copy_150 : decode cX10_copy 150 = .ok (.aload_n 1, 1) := by decide +kernel
theorem dX10_copy_151 : decode cX10_copy 151 = .ok (.aload_n 0, 1) := by decide +kernel
theorem dX10_copy_152 : decode cX10_copy 152 = .ok (.getfield 52, 3) := by decide +kernel
theorem dX10_copy_155 : decode cX10_copy 155 = .ok (.putfield 52, 3) := by decide +kernel
theorem dX10_copy_158 : decode cX10_copy 158 = .ok (.aload_n 1, 1) := by decide +kernel
theorem dX10_copy_159 : decode cX10_copy 159 = .ok (.aload_n 0, 1) := by decide +kernel
theorem dX10_copy_160 : decode cX10_copy 160 = .ok (.getfield 55, 3) := by decide +kernel
theorem dX10_copy_163 : decode cX10_copy 163 = .ok (.putfield 55, 3) := by decide +kernel
theorem dX10_copy_166 : decode cX10_copy 166 = .ok (.aload_n 1, 1) := by decide +kernel
theorem dX10_copy_167 : decode cX10_copy 167 = .ok (.aload_n 0, 1) := by decide +kernel
theorem dX10_copy_168 : decode cX10_copy 168 = .ok (.getfield 58, 3) := by decide +kernel
theorem dX10_copy_171 : decode cX10_copy 171 = .ok (.putfield 58, 3) := by decide +kernel
theorem dX10_copy_174 : decode cX10_copy 174 = .ok (.aload_n 1, 1) := by decide +kernel
theorem dX10_copy_175 : decode cX10_copy 175 = .ok (.aload_n 0, 1) := by decide +kernel
theorem dX10_copy_176 : decode cX10_copy 176 = .ok (.getfield 61, 3) := by decide +kernel
theorem dX10_copy_179 : decode cX10_copy 179 = .ok (.putfield 61, 3) := by decide +kernel
theorem dX10_copy_182 : decode cX10_copy 182 = .ok (.aload_n 1, 1) := by decide +kernel
theorem dX10_copy_183 : decode cX10_copy 183 = .ok (.aload_n 0, 1) := by decide +kernel
theorem dX10_copy_184 : decode cX10_copy 184 = .ok (.getfield 64, 3) := by decide +kernel
theorem dX10_copy_187 : decode cX10_copy 187 = .ok (.putfield 64, 3) := by decide +kernel
theorem dX10_copy_190 : decode cX10_copy 190 = .ok (.aload_n 1, 1) := by decide +kernel
theorem dX10_copy_191 : decode cX10_copy 191 = .ok (.aload_n 0, 1) := by decide +kernel
theorem dX10_copy_192 : decode cX10_copy 192 = .ok (.getfield 67, 3) := by decide +kernel
theorem dX10_copy_195 : decode cX10_copy 195 = .ok (.putfield 67, 3) := by decide +kernel
theorem dX10_copy_198 : decode cX10_copy 198 = .ok (.aload_n 1, 1) := by decide +kernel
theorem dX10_copy_199 : decode cX10_copy 199 = .ok (.aload_n 0, 1) := by decide +kernel
theorem dX10_copy_200 : decode cX10_copy 200 = .ok (.getfield 70, 3) := by decide +kernel
theorem dX10_copy_203 : decode cX10_copy 203 = .ok (.putfield 70, 3) := by decide +kernel
theorem dX10_copy_206 : decode cX10_copy 206 = .ok (.aload_n 1, 1) := by decide +kernel
theorem dX10_copy_207 : decode cX10_copy 207 = .ok (.aload_n 0, 1) := by decide +kernel
theorem dX10_copy_208 : decode cX10_copy 208 = .ok (.getfield 35, 3) := by decide +kernel
theorem dX10_copy_211 : decode cX10_copy 211 = .ok (.putfield 35, 3) := by decide +kernel
theorem dX10_copy_214 : decode cX10_copy 214 = .ok (.aload_n 1, 1) := by decide +kernel
theorem dX10_copy_215 : decode cX10_copy 215 = .ok (.aload_n 0, 1) := by decide +kernel
theorem dX10_copy_216 : decode cX10_copy 216 = .ok (.getfield 39, 3) := by decide +kernel
theorem dX10_copy_219 : decode cX10_copy 219 = .ok (.putfield 39, 3) := by decide +kernel
theorem dX10_copy_222 : decode cX10_copy 222 = .ok (.aload_n 1, 1) := by decide +kernel
theorem dX10_copy_223 : decode cX10_copy 223 = .ok (.aload_n 0, 1) := by decide +kernel
theorem dX10_copy_224 : decode cX10_copy 224 = .ok (.getfield 73, 3) := by decide +kernel
theorem dX10_copy_227 : decode cX10_copy 227 = .ok (.putfield 73, 3) := by decide +kernel
theorem dX10_copy_230 : decode cX10_copy 230 = .ok (.aload_n 1, 1) := by decide +kernel
theorem dX10_copy_231 : decode cX10_copy 231 = .ok (.aload_n 0, 1) := by decide +kernel
theorem dX10_copy_232 : decode cX10_copy 232 = .ok (.getfield 76, 3) := by decide +kernel
theorem dX10_copy_235 : decode cX10_copy 235 = .ok (.putfield 76, 3) := by decide +kernel
theorem dX10_copy_238 : decode cX10_copy 238 = .ok (.aload_n 1, 1) := by decide +kernel
theorem dX10_copy_239 : decode cX10_copy 239 = .ok (.aload_n 0, 1) := by decide +kernel
theorem dX10_copy_240 : decode cX10_copy 240 = .ok (.getfield 79, 3) := by decide +kernel
theorem dX10_copy_243 : decode cX10_copy 243 = .ok (.putfield 79, 3) := by decide +kernel
theorem dX10_copy_246 : decode cX10_copy 246 = .ok (.aload_n 1, 1) := by decide +kernel
theorem dX10_copy_247 : decode cX10_copy 247 = .ok (.aload_n 0, 1) := by decide +kernel
theorem dX10_copy_248 : decode cX10_copy 248 = .ok (.getfield 82, 3) := by decide +kernel
theorem dX10_copy_251 : decode cX10_copy 251 = .ok (.putfield 82, 3) := by decide +kernel
theorem dX10_copy_254 : decode cX10_copy 254 = .ok (.aload_n 1, 1) := by decide +kernel
theorem dX10_copy_255 : decode cX10_copy 255 = .ok (.aload_n 0, 1) := by decide +kernel
theorem dX10_copy_256 : decode cX10_copy 256 = .ok (.getfield 85, 3) := by decide +kernel
theorem dX10_copy_259 : decode cX10_copy 259 = .ok (.putfield 85, 3) := by decide +kernel
theorem dX10_copy_262 : decode cX10_copy 262 = .ok (.aload_n 1, 1) := by decide +kernel
theorem dX10_copy_263 : decode cX10_copy 263 = .ok (.aload_n 0, 1) := by decide +kernel
theorem dX10_copy_264 : decode cX10_copy 264 = .ok (.getfield 88, 3) := by decide +kernel
theorem dX10_copy_267 : decode cX10_copy 267 = .ok (.putfield 88, 3) := by decide +kernel
theorem dX10_copy_270 : decode cX10_copy 270 = .ok (.aload_n 1, 1) := by decide +kernel
theorem dX10_copy_271 : decode cX10_copy 271 = .ok (.areturn, 1) := by decide +kernel
theorem wnF : Cond.classLink RX10 12 RX10 ∈ zTg ∧ Cond.instantiable RX10 23 ∈ zTg ∧ Cond.initialized RX10 ∈ zTg := ⟨zm_f 1283 (by decide +kernel) rfl, zm_f 961 (by decide +kernel) rfl, zm_f 47 (by decide +kernel) rfl⟩
theorem dFX10 : ∀ j, j < 23 → defaultValue (tyX10 j) = vp_V [.null, .null, .null, .null, .null, .null, .null, .int 0, .int 0, .int 0, .int 0, .int 0, .int 0, .int 0, .int 0, .int 0, .int 0, .int 0, .int 0, .int 0, .int 0, .int 0, .int 0] j := by
  intro j hj
  rcases (show j = 0 ∨ j = 1 ∨ j = 2 ∨ j = 3 ∨ j = 4 ∨ j = 5 ∨ j = 6 ∨ j = 7 ∨ j = 8 ∨ j = 9 ∨ j = 10 ∨ j = 11 ∨ j = 12 ∨ j = 13 ∨ j = 14 ∨ j = 15 ∨ j = 16 ∨ j = 17 ∨ j = 18 ∨ j = 19 ∨ j = 20 ∨ j = 21 ∨ j = 22 by omega) with rfl | rfl | rfl | rfl | rfl | rfl | rfl | rfl | rfl | rfl | rfl | rfl | rfl | rfl | rfl | rfl | rfl | rfl | rfl | rfl | rfl | rfl | rfl <;> rfl
theorem wiF : Cond.methodLink RX10 42 yX10_init ∈ zTg ∧ Cond.instanceMethod yX10_init ∈ zTg ∧ Cond.initialized yX10_init.cls ∈ zTg ∧ Cond.code yX10_init cX10_init 1 none ∈ zTg := ⟨zm_f 1284 (by decide +kernel) rfl, zm_f 963 (by decide +kernel) rfl, zm_f 47 (by decide +kernel) rfl, zm_f 964 (by decide +kernel) rfl⟩
theorem wyF : yX10_init.name = "<init>" ∧ yX10_init.cls ≠ "java/lang/invoke/MethodHandle" ∧ yX10_init.cls ≠ "java/lang/invoke/VarHandle" ∧ (parseMethodDescriptor yX10_init.desc).map (fun d => d.parameters.length) = some 0 := by decide +kernel
theorem vfRX10_43 : zFl RX10 43 9 7 := ⟨_, rfl, by decide, zm_f 981 (by decide +kernel) rfl⟩
theorem vfRX10_19 : zFl RX10 19 9 2 := ⟨_, rfl, by decide, zm_f 972 (by decide +kernel) rfl⟩
theorem waF : Cond.methodLink RX10 46 arraycopyName ∈ zTg ∧ Cond.native arraycopyName ∈ zTg ∧ Cond.static arraycopyName ∈ zTg ∧ Cond.initialized "java/lang/System" ∈ zTg := ⟨zm_f 1177 (by decide +kernel) rfl, zm_f 582 (by decide +kernel) rfl, zm_f 581 (by decide +kernel) rfl, zm_f 54 (by decide +kernel) rfl⟩
theorem vfRX10_22 : zFl RX10 22 9 3 := ⟨_, rfl, by decide, zm_f 974 (by decide +kernel) rfl⟩
theorem vfRX10_25 : zFl RX10 25 9 4 := ⟨_, rfl, by decide, zm_f 976 (by decide +kernel) rfl⟩
theorem vfRX10_29 : zFl RX10 29 9 5 := ⟨_, rfl, by decide, zm_f 978 (by decide +kernel) rfl⟩
theorem vpRX10_43 : zFw RX10 43 9 7 .int := ⟨_, rfl, by decide, zm_f 981 (by decide +kernel) rfl, rfl, by decide +kernel⟩
theorem vfRX10_52 : zFl RX10 52 9 8 := ⟨_, rfl, by decide, zm_f 983 (by decide +kernel) rfl⟩
theorem vpRX10_52 : zFw RX10 52 9 8 .int := ⟨_, rfl, by decide, zm_f 983 (by decide +kernel) rfl, rfl, by decide +kernel⟩
theorem vfRX10_55 : zFl RX10 55 9 9 := ⟨_, rfl, by decide, zm_f 985 (by decide +kernel) rfl⟩
theorem vpRX10_55 : zFw RX10 55 9 9 .int := ⟨_, rfl, by decide, zm_f 985 (by decide +kernel) rfl, rfl, by decide +kernel⟩
theorem vfRX10_58 : zFl RX10 58 9 10 := ⟨_, rfl, by decide, zm_f 987 (by decide +kernel) rfl⟩
theorem vpRX10_58 : zFw RX10 58 9 10 .int := ⟨_, rfl, by decide, zm_f 987 (by decide +kernel) rfl, rfl, by decide +kernel⟩
theorem vfRX10_61 : zFl RX10 61 9 11 := ⟨_, rfl, by decide, zm_f 989 (by decide +kernel) rfl⟩
theorem vpRX10_61 : zFw RX10 61 9 11 .int := ⟨_, rfl, by decide, zm_f 989 (by decide +kernel) rfl, rfl, by decide +kernel⟩
theorem vfRX10_64 : zFl RX10 64 9 12 := ⟨_, rfl, by decide, zm_f 991 (by decide +kernel) rfl⟩
theorem vpRX10_64 : zFw RX10 64 9 12 .int := ⟨_, rfl, by decide, zm_f 991 (by decide +kernel) rfl, rfl, by decide +kernel⟩
theorem vfRX10_67 : zFl RX10 67 9 13 := ⟨_, rfl, by decide, zm_f 993 (by decide +kernel) rfl⟩
theorem vpRX10_67 : zFw RX10 67 9 13 .int := ⟨_, rfl, by decide, zm_f 993 (by decide +kernel) rfl, rfl, by decide +kernel⟩
theorem vfRX10_70 : zFl RX10 70 9 14 := ⟨_, rfl, by decide, zm_f 995 (by decide +kernel) rfl⟩
theorem vpRX10_70 : zFw RX10 70 9 14 .int := ⟨_, rfl, by decide, zm_f 995 (by decide +kernel) rfl, rfl, by decide +kernel⟩
theorem vfRX10_35 : zFl RX10 35 9 15 := ⟨_, rfl, by decide, zm_f 997 (by decide +kernel) rfl⟩
theorem vpRX10_35 : zFw RX10 35 9 15 .int := ⟨_, rfl, by decide, zm_f 997 (by decide +kernel) rfl, rfl, by decide +kernel⟩
theorem vfRX10_39 : zFl RX10 39 9 16 := ⟨_, rfl, by decide, zm_f 999 (by decide +kernel) rfl⟩
theorem vpRX10_39 : zFw RX10 39 9 16 .int := ⟨_, rfl, by decide, zm_f 999 (by decide +kernel) rfl, rfl, by decide +kernel⟩
theorem vfRX10_73 : zFl RX10 73 9 17 := ⟨_, rfl, by decide, zm_f 1001 (by decide +kernel) rfl⟩
theorem vpRX10_73 : zFw RX10 73 9 17 .int := ⟨_, rfl, by decide, zm_f 1001 (by decide +kernel) rfl, rfl, by decide +kernel⟩
theorem vfRX10_76 : zFl RX10 76 9 18 := ⟨_, rfl, by decide, zm_f 1003 (by decide +kernel) rfl⟩
theorem vpRX10_76 : zFw RX10 76 9 18 .int := ⟨_, rfl, by decide, zm_f 1003 (by decide +kernel) rfl, rfl, by decide +kernel⟩
theorem vfRX10_79 : zFl RX10 79 9 19 := ⟨_, rfl, by decide, zm_f 1005 (by decide +kernel) rfl⟩
theorem vpRX10_79 : zFw RX10 79 9 19 .int := ⟨_, rfl, by decide, zm_f 1005 (by decide +kernel) rfl, rfl, by decide +kernel⟩
theorem vfRX10_82 : zFl RX10 82 9 20 := ⟨_, rfl, by decide, zm_f 1007 (by decide +kernel) rfl⟩
theorem vpRX10_82 : zFw RX10 82 9 20 .int := ⟨_, rfl, by decide, zm_f 1007 (by decide +kernel) rfl, rfl, by decide +kernel⟩
theorem vfRX10_85 : zFl RX10 85 9 21 := ⟨_, rfl, by decide, zm_f 1009 (by decide +kernel) rfl⟩
theorem vpRX10_85 : zFw RX10 85 9 21 .int := ⟨_, rfl, by decide, zm_f 1009 (by decide +kernel) rfl, rfl, by decide +kernel⟩
theorem vfRX10_88 : zFl RX10 88 9 22 := ⟨_, rfl, by decide, zm_f 1011 (by decide +kernel) rfl⟩
theorem vpRX10_88 : zFw RX10 88 9 22 .int := ⟨_, rfl, by decide, zm_f 1011 (by decide +kernel) rfl, rfl, by decide +kernel⟩
theorem zcpy0 (sp dp n : Nat) : va_cpy (fun _ => (0 : Int32)) (fun _ => (0 : Int32)) sp dp n = fun _ => 0 := by
  funext k
  unfold va_cpy
  split <;> rfl
set_option maxHeartbeats 8000000 in
set_option maxRecDepth 20000 in
theorem zcopyF (ad1 : zR → Nat) : zAl yX10_copy cX10_copy 3 (some (.object "WakeBanksModel$Sea")) 3 90 30 568 [.ref (ad1 (0, 0, 0))] (fun cA => zwl cA ad1 [(3, [])] [zfr3]) (fun cA v ws => ∃ l : List Nat, v = some (.ref (zad3 l (0, 0, 0))) ∧ ws = zwl cA ad1 [(3, [])] [zfr3] ++ zwl cA (zad3 l) [(3, [])] [zfr3]) := by
  refine zAl_of (by decide) (Nat.le_of_ble_eq_true rfl) fun X F T hex => ?_
  show zN X 30 568 3 90 _ 3 0 [(0, .ref (ad1 (0, 0, 0)))] [] (zwl (zcA X) ad1 [(3, [])] [zfr3]) 0 0
  refine zn_new F (ci := 9) (N := 23) (fs := [.null, .null, .null, .null, .null, .null, .null, .int 0, .int 0, .int 0, .int 0, .int 0, .int 0, .int 0, .int 0, .int 0, .int 0, .int 0, .int 0, .int 0, .int 0, .int 0, .int 0]) dX10_copy_0 rfl zCl_9 tyX10_ok wnF dFX10 (Nat.le_of_ble_eq_true rfl) (Nat.le_of_ble_eq_true rfl) fun q0 => ?_
  refine zn_dup F dX10_copy_3 rfl ?_
  refine zn_call F (ws0 := zwl (zcA X) ad1 [(3, [])] [zfr3]) zcMS dX10_copy_4 wiF wyF rfl (Nat.le_of_ble_eq_true rfl) (Nat.le_of_ble_eq_true rfl) (Nat.le_of_ble_eq_true rfl) (Nat.le_of_ble_eq_true rfl) (Nat.le_of_ble_eq_true rfl) fun w0 hB0 => ?_
  obtain ⟨l1, rfl⟩ := hB0
  refine zn_astore_n F (i := 1) (lv' := [(1, .ref ((zad3 (q0 :: l1)) (0, 0, 0))), (0, .ref (ad1 (0, 0, 0)))]) dX10_copy_7 rfl (by decide) rfl ?_
  refine zn_iconst F (v := 0) dX10_copy_8 (by decide) ?_
  refine zn_istore_n F (i := 2) (lv' := [(2, .int 0), (1, .ref ((zad3 (q0 :: l1)) (0, 0, 0))), (0, .ref (ad1 (0, 0, 0)))]) dX10_copy_9 rfl (by decide) rfl ?_
  refine zn_iload_n F (i := 2) (k := 0) dX10_copy_10 rfl rfl ?_
  refine zn_aload_n F (i := 0) (k := 2) dX10_copy_11 rfl rfl ?_
  refine zn_get F (j := 0) (v := .int 0) dX10_copy_12 vfRX10_43 zCl_9 rfl rfl ?_
  refine zn_ge_t F (tgt := 62) dX10_copy_15 (by decide) (by decide) ?_
  refine zn_iconst F (v := 0) dX10_copy_62 (by decide) ?_
  refine zn_istore_n F (i := 2) (lv' := [(2, .int 0), (1, .ref ((zad3 (q0 :: l1)) (0, 0, 0))), (0, .ref (ad1 (0, 0, 0)))]) dX10_copy_63 rfl (by decide) rfl ?_
  refine zn_iload_n F (i := 2) (k := 0) dX10_copy_64 rfl rfl ?_
  refine zn_iconst F (v := 3) dX10_copy_65 (by decide) ?_
  refine zn_ge_f F (tgt := 112) dX10_copy_66 (by decide) (by decide) ?_
  refine zn_aload_n F (i := 0) (k := 2) dX10_copy_69 rfl rfl ?_
  refine zn_get F (j := 0) (v := .ref (ad1 (0, 3, 0))) dX10_copy_70 vfRX10_19 zCl_9 rfl rfl ?_
  refine zn_iload_n F (i := 2) (k := 0) dX10_copy_73 rfl rfl ?_
  refine zn_aald F (q0 := 3) (n := 3) (jn := 0) (b := (ad1 (0, 10, 0))) dX10_copy_74 rfl (vp_in_nI (n := 0) (by decide) (by decide)) (by decide) rfl ?_
  refine zn_iconst F (v := 0) dX10_copy_75 (by decide) ?_
  refine zn_aload_n F (i := 1) (k := 1) dX10_copy_76 rfl rfl ?_
  refine zn_get F (j := 30) (v := .ref ((zad3 (q0 :: l1)) (0, 3, 0))) dX10_copy_77 vfRX10_19 zCl_9 rfl rfl ?_
  refine zn_iload_n F (i := 2) (k := 0) dX10_copy_80 rfl rfl ?_
  refine zn_aald F (q0 := 33) (n := 3) (jn := 0) (b := ((zad3 (q0 :: l1)) (0, 10, 0))) dX10_copy_81 rfl (vp_in_nI (n := 0) (by decide) (by decide)) (by decide) rfl ?_
  refine zn_iconst F (v := 0) dX10_copy_82 (by decide) ?_
  refine zn_iconst F (v := 3) dX10_copy_83 (by decide) ?_
  refine zn_copy F (q0 := 24) (q1 := 54) (f := fun _ => 0) (g := fun _ => 0) (h := fun _ => 0) (ws' := zwl (zcA X) ad1 [(3, [])] [zfr3] ++ zwl (zcA X) (zad3 (q0 :: l1)) [(3, [])] [zfr3]) dX10_copy_84 waF rfl rfl (by decide) (by decide) (by decide) (by decide) (by decide) (Nat.le_of_ble_eq_true rfl) (by decide) (zcpy0 _ _ _) rfl ?_
  refine zn_aload_n F (i := 0) (k := 2) dX10_copy_87 rfl rfl ?_
  refine zn_get F (j := 0) (v := .ref (ad1 (0, 4, 0))) dX10_copy_88 vfRX10_22 zCl_9 rfl rfl ?_
  refine zn_iload_n F (i := 2) (k := 0) dX10_copy_91 rfl rfl ?_
  refine zn_aald F (q0 := 4) (n := 3) (jn := 0) (b := (ad1 (0, 11, 0))) dX10_copy_92 rfl (vp_in_nI (n := 0) (by decide) (by decide)) (by decide) rfl ?_
  refine zn_iconst F (v := 0) dX10_copy_93 (by decide) ?_
  refine zn_aload_n F (i := 1) (k := 1) dX10_copy_94 rfl rfl ?_
  refine zn_get F (j := 30) (v := .ref ((zad3 (q0 :: l1)) (0, 4, 0))) dX10_copy_95 vfRX10_22 zCl_9 rfl rfl ?_
  refine zn_iload_n F (i := 2) (k := 0) dX10_copy_98 rfl rfl ?_
  refine zn_aald F (q0 := 34) (n := 3) (jn := 0) (b := ((zad3 (q0 :: l1)) (0, 11, 0))) dX10_copy_99 rfl (vp_in_nI (n := 0) (by decide) (by decide)) (by decide) rfl ?_
  refine zn_iconst F (v := 0) dX10_copy_100 (by decide) ?_
  refine zn_bipush F (v := 6) dX10_copy_101 (by decide) ?_
  refine zn_copy F (q0 := 27) (q1 := 57) (f := fun _ => 0) (g := fun _ => 0) (h := fun _ => 0) (ws' := zwl (zcA X) ad1 [(3, [])] [zfr3] ++ zwl (zcA X) (zad3 (q0 :: l1)) [(3, [])] [zfr3]) dX10_copy_103 waF rfl rfl (by decide) (by decide) (by decide) (by decide) (by decide) (Nat.le_of_ble_eq_true rfl) (by decide) (zcpy0 _ _ _) rfl ?_
  refine zn_iinc F (i := 2) (k := 0) (v := 1) (lv' := [(2, .int 1), (1, .ref ((zad3 (q0 :: l1)) (0, 0, 0))), (0, .ref (ad1 (0, 0, 0)))]) dX10_copy_106 rfl (by decide) (by decide) rfl ?_
  refine zn_goto F (tgt := 64) dX10_copy_109 (by decide) ?_
  refine zn_iload_n F (i := 2) (k := 0) dX10_copy_64 rfl rfl ?_
  refine zn_iconst F (v := 3) dX10_copy_65 (by decide) ?_
  refine zn_ge_f F (tgt := 112) dX10_copy_66 (by decide) (by decide) ?_
  refine zn_aload_n F (i := 0) (k := 2) dX10_copy_69 rfl rfl ?_
  refine zn_get F (j := 0) (v := .ref (ad1 (0, 3, 0))) dX10_copy_70 vfRX10_19 zCl_9 rfl rfl ?_
  refine zn_iload_n F (i := 2) (k := 0) dX10_copy_73 rfl rfl ?_
  refine zn_aald F (q0 := 3) (n := 3) (jn := 1) (b := (ad1 (0, 10, 1))) dX10_copy_74 rfl (vp_in_nI (n := 1) (by decide) (by decide)) (by decide) rfl ?_
  refine zn_iconst F (v := 0) dX10_copy_75 (by decide) ?_
  refine zn_aload_n F (i := 1) (k := 1) dX10_copy_76 rfl rfl ?_
  refine zn_get F (j := 30) (v := .ref ((zad3 (q0 :: l1)) (0, 3, 0))) dX10_copy_77 vfRX10_19 zCl_9 rfl rfl ?_
  refine zn_iload_n F (i := 2) (k := 0) dX10_copy_80 rfl rfl ?_
  refine zn_aald F (q0 := 33) (n := 3) (jn := 1) (b := ((zad3 (q0 :: l1)) (0, 10, 1))) dX10_copy_81 rfl (vp_in_nI (n := 1) (by decide) (by decide)) (by decide) rfl ?_
  refine zn_iconst F (v := 0) dX10_copy_82 (by decide) ?_
  refine zn_iconst F (v := 3) dX10_copy_83 (by decide) ?_
  refine zn_copy F (q0 := 25) (q1 := 55) (f := fun _ => 0) (g := fun _ => 0) (h := fun _ => 0) (ws' := zwl (zcA X) ad1 [(3, [])] [zfr3] ++ zwl (zcA X) (zad3 (q0 :: l1)) [(3, [])] [zfr3]) dX10_copy_84 waF rfl rfl (by decide) (by decide) (by decide) (by decide) (by decide) (Nat.le_of_ble_eq_true rfl) (by decide) (zcpy0 _ _ _) rfl ?_
  refine zn_aload_n F (i := 0) (k := 2) dX10_copy_87 rfl rfl ?_
  refine zn_get F (j := 0) (v := .ref (ad1 (0, 4, 0))) dX10_copy_88 vfRX10_22 zCl_9 rfl rfl ?_
  refine zn_iload_n F (i := 2) (k := 0) dX10_copy_91 rfl rfl ?_
  refine zn_aald F (q0 := 4) (n := 3) (jn := 1) (b := (ad1 (0, 11, 1))) dX10_copy_92 rfl (vp_in_nI (n := 1) (by decide) (by decide)) (by decide) rfl ?_
  refine zn_iconst F (v := 0) dX10_copy_93 (by decide) ?_
  refine zn_aload_n F (i := 1) (k := 1) dX10_copy_94 rfl rfl ?_
  refine zn_get F (j := 30) (v := .ref ((zad3 (q0 :: l1)) (0, 4, 0))) dX10_copy_95 vfRX10_22 zCl_9 rfl rfl ?_
  refine zn_iload_n F (i := 2) (k := 0) dX10_copy_98 rfl rfl ?_
  refine zn_aald F (q0 := 34) (n := 3) (jn := 1) (b := ((zad3 (q0 :: l1)) (0, 11, 1))) dX10_copy_99 rfl (vp_in_nI (n := 1) (by decide) (by decide)) (by decide) rfl ?_
  refine zn_iconst F (v := 0) dX10_copy_100 (by decide) ?_
  refine zn_bipush F (v := 6) dX10_copy_101 (by decide) ?_
  refine zn_copy F (q0 := 28) (q1 := 58) (f := fun _ => 0) (g := fun _ => 0) (h := fun _ => 0) (ws' := zwl (zcA X) ad1 [(3, [])] [zfr3] ++ zwl (zcA X) (zad3 (q0 :: l1)) [(3, [])] [zfr3]) dX10_copy_103 waF rfl rfl (by decide) (by decide) (by decide) (by decide) (by decide) (Nat.le_of_ble_eq_true rfl) (by decide) (zcpy0 _ _ _) rfl ?_
  refine zn_iinc F (i := 2) (k := 0) (v := 2) (lv' := [(2, .int 2), (1, .ref ((zad3 (q0 :: l1)) (0, 0, 0))), (0, .ref (ad1 (0, 0, 0)))]) dX10_copy_106 rfl (by decide) (by decide) rfl ?_
  refine zn_goto F (tgt := 64) dX10_copy_109 (by decide) ?_
  refine zn_iload_n F (i := 2) (k := 0) dX10_copy_64 rfl rfl ?_
  refine zn_iconst F (v := 3) dX10_copy_65 (by decide) ?_
  refine zn_ge_f F (tgt := 112) dX10_copy_66 (by decide) (by decide) ?_
  refine zn_aload_n F (i := 0) (k := 2) dX10_copy_69 rfl rfl ?_
  refine zn_get F (j := 0) (v := .ref (ad1 (0, 3, 0))) dX10_copy_70 vfRX10_19 zCl_9 rfl rfl ?_
  refine zn_iload_n F (i := 2) (k := 0) dX10_copy_73 rfl rfl ?_
  refine zn_aald F (q0 := 3) (n := 3) (jn := 2) (b := (ad1 (0, 10, 2))) dX10_copy_74 rfl (vp_in_nI (n := 2) (by decide) (by decide)) (by decide) rfl ?_
  refine zn_iconst F (v := 0) dX10_copy_75 (by decide) ?_
  refine zn_aload_n F (i := 1) (k := 1) dX10_copy_76 rfl rfl ?_
  refine zn_get F (j := 30) (v := .ref ((zad3 (q0 :: l1)) (0, 3, 0))) dX10_copy_77 vfRX10_19 zCl_9 rfl rfl ?_
  refine zn_iload_n F (i := 2) (k := 0) dX10_copy_80 rfl rfl ?_
  refine zn_aald F (q0 := 33) (n := 3) (jn := 2) (b := ((zad3 (q0 :: l1)) (0, 10, 2))) dX10_copy_81 rfl (vp_in_nI (n := 2) (by decide) (by decide)) (by decide) rfl ?_
  refine zn_iconst F (v := 0) dX10_copy_82 (by decide) ?_
  refine zn_iconst F (v := 3) dX10_copy_83 (by decide) ?_
  refine zn_copy F (q0 := 26) (q1 := 56) (f := fun _ => 0) (g := fun _ => 0) (h := fun _ => 0) (ws' := zwl (zcA X) ad1 [(3, [])] [zfr3] ++ zwl (zcA X) (zad3 (q0 :: l1)) [(3, [])] [zfr3]) dX10_copy_84 waF rfl rfl (by decide) (by decide) (by decide) (by decide) (by decide) (Nat.le_of_ble_eq_true rfl) (by decide) (zcpy0 _ _ _) rfl ?_
  refine zn_aload_n F (i := 0) (k := 2) dX10_copy_87 rfl rfl ?_
  refine zn_get F (j := 0) (v := .ref (ad1 (0, 4, 0))) dX10_copy_88 vfRX10_22 zCl_9 rfl rfl ?_
  refine zn_iload_n F (i := 2) (k := 0) dX10_copy_91 rfl rfl ?_
  refine zn_aald F (q0 := 4) (n := 3) (jn := 2) (b := (ad1 (0, 11, 2))) dX10_copy_92 rfl (vp_in_nI (n := 2) (by decide) (by decide)) (by decide) rfl ?_
  refine zn_iconst F (v := 0) dX10_copy_93 (by decide) ?_
  refine zn_aload_n F (i := 1) (k := 1) dX10_copy_94 rfl rfl ?_
  refine zn_get F (j := 30) (v := .ref ((zad3 (q0 :: l1)) (0, 4, 0))) dX10_copy_95 vfRX10_22 zCl_9 rfl rfl ?_
  refine zn_iload_n F (i := 2) (k := 0) dX10_copy_98 rfl rfl ?_
  refine zn_aald F (q0 := 34) (n := 3) (jn := 2) (b := ((zad3 (q0 :: l1)) (0, 11, 2))) dX10_copy_99 rfl (vp_in_nI (n := 2) (by decide) (by decide)) (by decide) rfl ?_
  refine zn_iconst F (v := 0) dX10_copy_100 (by decide) ?_
  refine zn_bipush F (v := 6) dX10_copy_101 (by decide) ?_
  refine zn_copy F (q0 := 29) (q1 := 59) (f := fun _ => 0) (g := fun _ => 0) (h := fun _ => 0) (ws' := zwl (zcA X) ad1 [(3, [])] [zfr3] ++ zwl (zcA X) (zad3 (q0 :: l1)) [(3, [])] [zfr3]) dX10_copy_103 waF rfl rfl (by decide) (by decide) (by decide) (by decide) (by decide) (Nat.le_of_ble_eq_true rfl) (by decide) (zcpy0 _ _ _) rfl ?_
  refine zn_iinc F (i := 2) (k := 0) (v := 3) (lv' := [(2, .int 3), (1, .ref ((zad3 (q0 :: l1)) (0, 0, 0))), (0, .ref (ad1 (0, 0, 0)))]) dX10_copy_106 rfl (by decide) (by decide) rfl ?_
  refine zn_goto F (tgt := 64) dX10_copy_109 (by decide) ?_
  refine zn_iload_n F (i := 2) (k := 0) dX10_copy_64 rfl rfl ?_
  refine zn_iconst F (v := 3) dX10_copy_65 (by decide) ?_
  refine zn_ge_t F (tgt := 112) dX10_copy_66 (by decide) (by decide) ?_
  refine zn_aload_n F (i := 0) (k := 2) dX10_copy_112 rfl rfl ?_
  refine zn_get F (j := 0) (v := .ref (ad1 (0, 5, 0))) dX10_copy_113 vfRX10_25 zCl_9 rfl rfl ?_
  refine zn_iconst F (v := 0) dX10_copy_116 (by decide) ?_
  refine zn_aload_n F (i := 1) (k := 1) dX10_copy_117 rfl rfl ?_
  refine zn_get F (j := 30) (v := .ref ((zad3 (q0 :: l1)) (0, 5, 0))) dX10_copy_118 vfRX10_25 zCl_9 rfl rfl ?_
  refine zn_iconst F (v := 0) dX10_copy_121 (by decide) ?_
  refine zn_bipush F (v := 32) dX10_copy_122 (by decide) ?_
  refine zn_copy F (q0 := 5) (q1 := 35) (f := fun _ => 0) (g := fun _ => 0) (h := fun _ => 0) (ws' := zwl (zcA X) ad1 [(3, [])] [zfr3] ++ zwl (zcA X) (zad3 (q0 :: l1)) [(3, [])] [zfr3]) dX10_copy_124 waF rfl rfl (by decide) (by decide) (by decide) (by decide) (by decide) (Nat.le_of_ble_eq_true rfl) (by decide) (zcpy0 _ _ _) rfl ?_
  refine zn_aload_n F (i := 0) (k := 2) dX10_copy_127 rfl rfl ?_
  refine zn_get F (j := 0) (v := .ref (ad1 (0, 6, 0))) dX10_copy_128 vfRX10_29 zCl_9 rfl rfl ?_
  refine zn_iconst F (v := 0) dX10_copy_131 (by decide) ?_
  refine zn_aload_n F (i := 1) (k := 1) dX10_copy_132 rfl rfl ?_
  refine zn_get F (j := 30) (v := .ref ((zad3 (q0 :: l1)) (0, 6, 0))) dX10_copy_133 vfRX10_29 zCl_9 rfl rfl ?_
  refine zn_iconst F (v := 0) dX10_copy_136 (by decide) ?_
  refine zn_bipush F (v := 32) dX10_copy_137 (by decide) ?_
  refine zn_copy F (q0 := 6) (q1 := 36) (f := fun _ => 0) (g := fun _ => 0) (h := fun _ => 0) (ws' := zwl (zcA X) ad1 [(3, [])] [zfr3] ++ zwl (zcA X) (zad3 (q0 :: l1)) [(3, [])] [zfr3]) dX10_copy_139 waF rfl rfl (by decide) (by decide) (by decide) (by decide) (by decide) (Nat.le_of_ble_eq_true rfl) (by decide) (zcpy0 _ _ _) rfl ?_
  refine zn_aload_n F (i := 1) (k := 1) dX10_copy_142 rfl rfl ?_
  refine zn_aload_n F (i := 0) (k := 2) dX10_copy_143 rfl rfl ?_
  refine zn_get F (j := 0) (v := .int 0) dX10_copy_144 vfRX10_43 zCl_9 rfl rfl ?_
  refine zn_put F (j := 30) (ws' := zwl (zcA X) ad1 [(3, [])] [zfr3] ++ zwl (zcA X) (zad3 (q0 :: l1)) [(3, [])] [zfr3]) dX10_copy_147 vpRX10_43 zCl_9 rfl (zlb rfl) rfl ?_
  refine zn_aload_n F (i := 1) (k := 1) dX10_copy_150 rfl rfl ?_
  refine zn_aload_n F (i := 0) (k := 2) dX10_copy_151 rfl rfl ?_
  refine zn_get F (j := 0) (v := .int 0) dX10_copy_152 vfRX10_52 zCl_9 rfl rfl ?_
  refine zn_put F (j := 30) (ws' := zwl (zcA X) ad1 [(3, [])] [zfr3] ++ zwl (zcA X) (zad3 (q0 :: l1)) [(3, [])] [zfr3]) dX10_copy_155 vpRX10_52 zCl_9 rfl (zlb rfl) rfl ?_
  refine zn_aload_n F (i := 1) (k := 1) dX10_copy_158 rfl rfl ?_
  refine zn_aload_n F (i := 0) (k := 2) dX10_copy_159 rfl rfl ?_
  refine zn_get F (j := 0) (v := .int 0) dX10_copy_160 vfRX10_55 zCl_9 rfl rfl ?_
  refine zn_put F (j := 30) (ws' := zwl (zcA X) ad1 [(3, [])] [zfr3] ++ zwl (zcA X) (zad3 (q0 :: l1)) [(3, [])] [zfr3]) dX10_copy_163 vpRX10_55 zCl_9 rfl (zlb rfl) rfl ?_
  refine zn_aload_n F (i := 1) (k := 1) dX10_copy_166 rfl rfl ?_
  refine zn_aload_n F (i := 0) (k := 2) dX10_copy_167 rfl rfl ?_
  refine zn_get F (j := 0) (v := .int 0) dX10_copy_168 vfRX10_58 zCl_9 rfl rfl ?_
  refine zn_put F (j := 30) (ws' := zwl (zcA X) ad1 [(3, [])] [zfr3] ++ zwl (zcA X) (zad3 (q0 :: l1)) [(3, [])] [zfr3]) dX10_copy_171 vpRX10_58 zCl_9 rfl (zlb rfl) rfl ?_
  refine zn_aload_n F (i := 1) (k := 1) dX10_copy_174 rfl rfl ?_
  refine zn_aload_n F (i := 0) (k := 2) dX10_copy_175 rfl rfl ?_
  refine zn_get F (j := 0) (v := .int 0) dX10_copy_176 vfRX10_61 zCl_9 rfl rfl ?_
  refine zn_put F (j := 30) (ws' := zwl (zcA X) ad1 [(3, [])] [zfr3] ++ zwl (zcA X) (zad3 (q0 :: l1)) [(3, [])] [zfr3]) dX10_copy_179 vpRX10_61 zCl_9 rfl (zlb rfl) rfl ?_
  refine zn_aload_n F (i := 1) (k := 1) dX10_copy_182 rfl rfl ?_
  refine zn_aload_n F (i := 0) (k := 2) dX10_copy_183 rfl rfl ?_
  refine zn_get F (j := 0) (v := .int 0) dX10_copy_184 vfRX10_64 zCl_9 rfl rfl ?_
  refine zn_put F (j := 30) (ws' := zwl (zcA X) ad1 [(3, [])] [zfr3] ++ zwl (zcA X) (zad3 (q0 :: l1)) [(3, [])] [zfr3]) dX10_copy_187 vpRX10_64 zCl_9 rfl (zlb rfl) rfl ?_
  refine zn_aload_n F (i := 1) (k := 1) dX10_copy_190 rfl rfl ?_
  refine zn_aload_n F (i := 0) (k := 2) dX10_copy_191 rfl rfl ?_
  refine zn_get F (j := 0) (v := .int 0) dX10_copy_192 vfRX10_67 zCl_9 rfl rfl ?_
  refine zn_put F (j := 30) (ws' := zwl (zcA X) ad1 [(3, [])] [zfr3] ++ zwl (zcA X) (zad3 (q0 :: l1)) [(3, [])] [zfr3]) dX10_copy_195 vpRX10_67 zCl_9 rfl (zlb rfl) rfl ?_
  refine zn_aload_n F (i := 1) (k := 1) dX10_copy_198 rfl rfl ?_
  refine zn_aload_n F (i := 0) (k := 2) dX10_copy_199 rfl rfl ?_
  refine zn_get F (j := 0) (v := .int 0) dX10_copy_200 vfRX10_70 zCl_9 rfl rfl ?_
  refine zn_put F (j := 30) (ws' := zwl (zcA X) ad1 [(3, [])] [zfr3] ++ zwl (zcA X) (zad3 (q0 :: l1)) [(3, [])] [zfr3]) dX10_copy_203 vpRX10_70 zCl_9 rfl (zlb rfl) rfl ?_
  refine zn_aload_n F (i := 1) (k := 1) dX10_copy_206 rfl rfl ?_
  refine zn_aload_n F (i := 0) (k := 2) dX10_copy_207 rfl rfl ?_
  refine zn_get F (j := 0) (v := .int 20000) dX10_copy_208 vfRX10_35 zCl_9 rfl rfl ?_
  refine zn_put F (j := 30) (ws' := zwl (zcA X) ad1 [(3, [])] [zfr3] ++ zwl (zcA X) (zad3 (q0 :: l1)) [(3, [])] [zfr3]) dX10_copy_211 vpRX10_35 zCl_9 rfl (zlb rfl) rfl ?_
  refine zn_aload_n F (i := 1) (k := 1) dX10_copy_214 rfl rfl ?_
  refine zn_aload_n F (i := 0) (k := 2) dX10_copy_215 rfl rfl ?_
  refine zn_get F (j := 0) (v := .int (-51)) dX10_copy_216 vfRX10_39 zCl_9 rfl rfl ?_
  refine zn_put F (j := 30) (ws' := zwl (zcA X) ad1 [(3, [])] [zfr3] ++ zwl (zcA X) (zad3 (q0 :: l1)) [(3, [])] [zfr3]) dX10_copy_219 vpRX10_39 zCl_9 rfl (zlb rfl) rfl ?_
  refine zn_aload_n F (i := 1) (k := 1) dX10_copy_222 rfl rfl ?_
  refine zn_aload_n F (i := 0) (k := 2) dX10_copy_223 rfl rfl ?_
  refine zn_get F (j := 0) (v := .int 0) dX10_copy_224 vfRX10_73 zCl_9 rfl rfl ?_
  refine zn_put F (j := 30) (ws' := zwl (zcA X) ad1 [(3, [])] [zfr3] ++ zwl (zcA X) (zad3 (q0 :: l1)) [(3, [])] [zfr3]) dX10_copy_227 vpRX10_73 zCl_9 rfl (zlb rfl) rfl ?_
  refine zn_aload_n F (i := 1) (k := 1) dX10_copy_230 rfl rfl ?_
  refine zn_aload_n F (i := 0) (k := 2) dX10_copy_231 rfl rfl ?_
  refine zn_get F (j := 0) (v := .int 0) dX10_copy_232 vfRX10_76 zCl_9 rfl rfl ?_
  refine zn_put F (j := 30) (ws' := zwl (zcA X) ad1 [(3, [])] [zfr3] ++ zwl (zcA X) (zad3 (q0 :: l1)) [(3, [])] [zfr3]) dX10_copy_235 vpRX10_76 zCl_9 rfl (zlb rfl) rfl ?_
  refine zn_aload_n F (i := 1) (k := 1) dX10_copy_238 rfl rfl ?_
  refine zn_aload_n F (i := 0) (k := 2) dX10_copy_239 rfl rfl ?_
  refine zn_get F (j := 0) (v := .int 0) dX10_copy_240 vfRX10_79 zCl_9 rfl rfl ?_
  refine zn_put F (j := 30) (ws' := zwl (zcA X) ad1 [(3, [])] [zfr3] ++ zwl (zcA X) (zad3 (q0 :: l1)) [(3, [])] [zfr3]) dX10_copy_243 vpRX10_79 zCl_9 rfl (zlb rfl) rfl ?_
  refine zn_aload_n F (i := 1) (k := 1) dX10_copy_246 rfl rfl ?_
  refine zn_aload_n F (i := 0) (k := 2) dX10_copy_247 rfl rfl ?_
  refine zn_get F (j := 0) (v := .int 0) dX10_copy_248 vfRX10_82 zCl_9 rfl rfl ?_
  refine zn_put F (j := 30) (ws' := zwl (zcA X) ad1 [(3, [])] [zfr3] ++ zwl (zcA X) (zad3 (q0 :: l1)) [(3, [])] [zfr3]) dX10_copy_251 vpRX10_82 zCl_9 rfl (zlb rfl) rfl ?_
  refine zn_aload_n F (i := 1) (k := 1) dX10_copy_254 rfl rfl ?_
  refine zn_aload_n F (i := 0) (k := 2) dX10_copy_255 rfl rfl ?_
  refine zn_get F (j := 0) (v := .int 0) dX10_copy_256 vfRX10_85 zCl_9 rfl rfl ?_
  refine zn_put F (j := 30) (ws' := zwl (zcA X) ad1 [(3, [])] [zfr3] ++ zwl (zcA X) (zad3 (q0 :: l1)) [(3, [])] [zfr3]) dX10_copy_259 vpRX10_85 zCl_9 rfl (zlb rfl) rfl ?_
  refine zn_aload_n F (i := 1) (k := 1) dX10_copy_262 rfl rfl ?_
  refine zn_aload_n F (i := 0) (k := 2) dX10_copy_263 rfl rfl ?_
  refine zn_get F (j := 0) (v := .int 0) dX10_copy_264 vfRX10_88 zCl_9 rfl rfl ?_
  refine zn_put F (j := 30) (ws' := zwl (zcA X) ad1 [(3, [])] [zfr3] ++ zwl (zcA X) (zad3 (q0 :: l1)) [(3, [])] [zfr3]) dX10_copy_267 vpRX10_88 zCl_9 rfl (zlb rfl) rfl ?_
  refine zn_aload_n F (i := 1) (k := 1) dX10_copy_270 rfl rfl ?_
  exact zn_areturn F T dX10_copy_271 ⟨q0 :: l1, rfl, rfl⟩ (Nat.le_refl _) (Nat.le_refl _)
