theorem dX10_stop_0 : decode cX10_stop 0 = .ok (.aload_n 0, 1) := by decide +kernel
theorem dX10_stop_1 : decode cX10_stop 1 = .ok (.iconst 3, 1) := by decide +kernel
theorem dX10_stop_2 : decode cX10_stop 2 = .ok (.iconst 0, 1) := by decide +kernel
theorem dX10_stop_3 : decode cX10_stop 3 = .ok (.iastore, 1) := by decide +kernel
theorem dX10_stop_4 : decode cX10_stop 4 = .ok (.aload_n 0, 1) := by decide +kernel
theorem dX10_stop_5 : decode cX10_stop 5 = .ok (.bipush 10, 2) := by decide +kernel
theorem dX10_stop_7 : decode cX10_stop 7 = .ok (.iload_n 1, 1) := by decide +kernel
theorem dX10_stop_8 : decode cX10_stop 8 = .ok (.iastore, 1) := by decide +kernel
theorem dX10_stop_9 : decode cX10_stop 9 = .ok (.return_, 1) := by decide +kernel
def fMS_stop (i : Nat) (a1 : Int32) (s0 : zM) : Option (zM) :=
  zix (3 : Int32) 23 fun j1 =>
  zlet (zu s0 8 i j1 (0 : Int32)) fun s0_2 =>
  zix (10 : Int32) 23 fun j3 =>
  zlet (zu s0_2 8 i j3 a1) fun s0_4 =>
  some s0_4
set_option maxHeartbeats 4000000 in
set_option maxRecDepth 20000 in
theorem bfMS_stop {X : zX} (F : zFr X cX10_stop 2 RX10 none) (i : Nat) (a1 : Int32) (hi : i < 8) (s0 : zM) {κ : zM → Option zO} (hκ : ∀ a, κ a = some ((fun a => ((.inl ((fun _ => (none : Option zV)) a), (fun q => [q]) a) : zO)) a)) : zZ X [(3, [])] 0 0 2 0 [some (zr 0 8 i), some (zi a1)] [] [s0] (Option.bind (fMS_stop i a1 s0) κ) := by
  unfold fMS_stop
  refine zz_aload_n F (i := 0) dX10_stop_0 rfl rfl ?_
  refine zz_iconst F (v := (3 : Int32)) dX10_stop_1 (by decide) ?_
  refine zz_iconst F (v := (0 : Int32)) dX10_stop_2 (by decide) ?_
  refine zz_ix fun j1 hj1 hinj1 hej1 => zz_ias F (Ms' := [(zu s0 8 i j1 (0 : Int32))]) dX10_stop_3 rfl (⟨zlb rfl, zlb rfl, hi⟩) rfl hinj1 hej1 rfl ?_
  refine zz_letm (Mf := fun s0_2 => [s0_2]) fun s0_2 => ?_
  refine zz_aload_n F (i := 0) dX10_stop_4 rfl rfl ?_
  refine zz_bipush F (v := (10 : Int32)) dX10_stop_5 (by decide) ?_
  refine zz_iload_n F (i := 1) dX10_stop_7 rfl rfl ?_
  refine zz_ix fun j3 hj3 hinj3 hej3 => zz_ias F (Ms' := [(zu s0_2 8 i j3 a1)]) dX10_stop_8 rfl (⟨zlb rfl, zlb rfl, hi⟩) rfl hinj3 hej3 rfl ?_
  refine zz_letm (Mf := fun s0_4 => [s0_4]) fun s0_4 => ?_
  exact zz_return F dX10_stop_9 rfl (hκ _)
theorem zfMS_stop (i : Nat) (a1 : Int32) (hi : i < 8) (s0 : zM) : ∀ a, fMS_stop i a1 s0 = some a → zMet yX10_stop cX10_stop 2 none 0 0 [(3, [])] [zr 0 8 i, zi a1] [s0] ((fun a => ((.inl ((fun _ => (none : Option zV)) a), (fun q => [q]) a) : zO)) a) := fun a ha => zMet_of (L0 := [some (zr 0 8 i), some (zi a1)]) (φ := Option.bind (fMS_stop i a1 s0) (fun a => some ((fun a => ((.inl ((fun _ => (none : Option zV)) a), (fun q => [q]) a) : zO)) a))) (by decide) (fun _ => Nat.le_of_ble_eq_true rfl) (zl0 0 rfl) (fun X F => bfMS_stop F i a1 hi s0 (fun _ => rfl)) (by rw [ha]; rfl)

theorem dX10_start_0 : decode cX10_start 0 = .ok (.aload_n 0, 1) := by decide +kernel
theorem dX10_start_1 : decode cX10_start 1 = .ok (.iconst 3, 1) := by decide +kernel
theorem dX10_start_2 : decode cX10_start 2 = .ok (.iconst 1, 1) := by decide +kernel
theorem dX10_start_3 : decode cX10_start 3 = .ok (.iastore, 1) := by decide +kernel
theorem dX10_start_4 : decode cX10_start 4 = .ok (.aload_n 0, 1) := by decide +kernel
theorem dX10_start_5 : decode cX10_start 5 = .ok (.bipush 10, 2) := by decide +kernel
theorem dX10_start_7 : decode cX10_start 7 = .ok (.iconst 0, 1) := by decide +kernel
theorem dX10_start_8 : decode cX10_start 8 = .ok (.iastore, 1) := by decide +kernel
theorem dX10_start_9 : decode cX10_start 9 = .ok (.return_, 1) := by decide +kernel
def fMS_start (i : Nat) (s0 : zM) : Option (zM) :=
  zix (3 : Int32) 23 fun j1 =>
  zlet (zu s0 8 i j1 (1 : Int32)) fun s0_2 =>
  zix (10 : Int32) 23 fun j3 =>
  zlet (zu s0_2 8 i j3 (0 : Int32)) fun s0_4 =>
  some s0_4
set_option maxHeartbeats 4000000 in
set_option maxRecDepth 20000 in
theorem bfMS_start {X : zX} (F : zFr X cX10_start 1 RX10 none) (i : Nat) (hi : i < 8) (s0 : zM) {κ : zM → Option zO} (hκ : ∀ a, κ a = some ((fun a => ((.inl ((fun _ => (none : Option zV)) a), (fun q => [q]) a) : zO)) a)) : zZ X [(3, [])] 0 0 1 0 [some (zr 0 8 i)] [] [s0] (Option.bind (fMS_start i s0) κ) := by
  unfold fMS_start
  refine zz_aload_n F (i := 0) dX10_start_0 rfl rfl ?_
  refine zz_iconst F (v := (3 : Int32)) dX10_start_1 (by decide) ?_
  refine zz_iconst F (v := (1 : Int32)) dX10_start_2 (by decide) ?_
  refine zz_ix fun j1 hj1 hinj1 hej1 => zz_ias F (Ms' := [(zu s0 8 i j1 (1 : Int32))]) dX10_start_3 rfl (⟨zlb rfl, zlb rfl, hi⟩) rfl hinj1 hej1 rfl ?_
  refine zz_letm (Mf := fun s0_2 => [s0_2]) fun s0_2 => ?_
  refine zz_aload_n F (i := 0) dX10_start_4 rfl rfl ?_
  refine zz_bipush F (v := (10 : Int32)) dX10_start_5 (by decide) ?_
  refine zz_iconst F (v := (0 : Int32)) dX10_start_7 (by decide) ?_
  refine zz_ix fun j3 hj3 hinj3 hej3 => zz_ias F (Ms' := [(zu s0_2 8 i j3 (0 : Int32))]) dX10_start_8 rfl (⟨zlb rfl, zlb rfl, hi⟩) rfl hinj3 hej3 rfl ?_
  refine zz_letm (Mf := fun s0_4 => [s0_4]) fun s0_4 => ?_
  exact zz_return F dX10_start_9 rfl (hκ _)
theorem zfMS_start (i : Nat) (hi : i < 8) (s0 : zM) : ∀ a, fMS_start i s0 = some a → zMet yX10_start cX10_start 1 none 0 0 [(3, [])] [zr 0 8 i] [s0] ((fun a => ((.inl ((fun _ => (none : Option zV)) a), (fun q => [q]) a) : zO)) a) := fun a ha => zMet_of (L0 := [some (zr 0 8 i)]) (φ := Option.bind (fMS_start i s0) (fun a => some ((fun a => ((.inl ((fun _ => (none : Option zV)) a), (fun q => [q]) a) : zO)) a))) (by decide) (fun _ => Nat.le_of_ble_eq_true rfl) (zl0 0 rfl) (fun X F => bfMS_start F i hi s0 (fun _ => rfl)) (by rw [ha]; rfl)

theorem dX10_turn_0 : decode cX10_turn 0 = .ok (.aload_n 0, 1) := by decide +kernel
theorem dX10_turn_1 : decode cX10_turn 1 = .ok (.getfield 70, 3) := by decide +kernel
theorem dX10_turn_4 : decode cX10_turn 4 = .ok (.aload_n 0, 1) := by decide +kernel
theorem dX10_turn_5 : decode cX10_turn 5 = .ok (.getfield 39, 3) := by decide +kernel
theorem dX10_turn_8 : decode cX10_turn 8 = .ok (.if_icmp .ge 7, 3) := by decide +kernel
theorem dX10_turn_11 : decode cX10_turn 11 = .ok (.iconst 1, 1) := by decide +kernel
theorem dX10_turn_12 : decode cX10_turn 12 = .ok (.goto 4, 3) := by decide +kernel
theorem dX10_turn_15 : decode cX10_turn 15 = .ok (.iconst 0, 1) := by decide +kernel
theorem dX10_turn_16 : decode cX10_turn 16 = .ok (.istore_n 2, 1) := by decide +kernel
theorem dX10_turn_17 : decode cX10_turn 17 = .ok (.aload_n 1, 1) := by decide +kernel
theorem dX10_turn_18 : decode cX10_turn 18 = .ok (.iconst 3, 1) := by decide +kernel
theorem dX10_turn_19 : decode cX10_turn 19 = .ok (.iaload, 1) := by decide +kernel
theorem dX10_turn_20 : decode cX10_turn 20 = .ok (.iconst 2, 1) := by decide +kernel
theorem dX10_turn_21 : decode cX10_turn 21 = .ok (.if_icmp .ne 15, 3) := by decide +kernel
theorem dX10_turn_24 : decode cX10_turn 24 = .ok (.iload_n 2, 1) := by decide +kernel
theorem dX10_turn_25 : decode cX10_turn 25 = .ok (.ifCond .eq 11, 3) := by decide +kernel
theorem dX10_turn_28 : decode cX10_turn 28 = .ok (.aload_n 1, 1) := by decide +kernel
theorem dX10_turn_29 : decode cX10_turn 29 = .ok (.iconst 2, 1) := by decide +kernel
theorem dX10_turn_30 : decode cX10_turn 30 = .ok (.invokestatic 143, 3) := by decide +kernel
theorem dX10_turn_33 : decode cX10_turn 33 = .ok (.goto 168, 3) := by decide +kernel
theorem dX10_turn_36 : decode cX10_turn 36 = .ok (.aload_n 1, 1) := by decide +kernel
theorem dX10_turn_37 : decode cX10_turn 37 = .ok (.iconst 3, 1) := by decide +kernel
theorem dX10_turn_38 : decode cX10_turn 38 = .ok (.iaload, 1) := by decide +kernel
theorem dX10_turn_39 : decode cX10_turn 39 = .ok (.ifCond .ne 22, 3) := by decide +kernel
theorem dX10_turn_42 : decode cX10_turn 42 = .ok (.aload_n 1, 1) := by decide +kernel
theorem dX10_turn_43 : decode cX10_turn 43 = .ok (.bipush 10, 2) := by decide +kernel
theorem dX10_turn_45 : decode cX10_turn 45 = .ok (.iaload, 1) := by decide +kernel
theorem dX10_turn_46 : decode cX10_turn 46 = .ok (.iconst 2, 1) := by decide +kernel
theorem dX10_turn_47 : decode cX10_turn 47 = .ok (.if_icmp .ne 14, 3) := by decide +kernel
theorem dX10_turn_50 : decode cX10_turn 50 = .ok (.iload_n 2, 1) := by decide +kernel
theorem dX10_turn_51 : decode cX10_turn 51 = .ok (.ifCond .ne 10, 3) := by decide +kernel
theorem dX10_turn_54 : decode cX10_turn 54 = .ok (.aload_n 1, 1) := by decide +kernel
theorem dX10_turn_55 : decode cX10_turn 55 = .ok (.invokestatic 147, 3) := by decide +kernel
theorem dX10_turn_58 : decode cX10_turn 58 = .ok (.goto 143, 3) := by decide +kernel
theorem dX10_turn_61 : decode cX10_turn 61 = .ok (.aload_n 1, 1) := by decide +kernel
theorem dX10_turn_62 : decode cX10_turn 62 = .ok (.iconst 3, 1) := by decide +kernel
theorem dX10_turn_63 : decode cX10_turn 63 = .ok (.iaload, 1) := by decide +kernel
theorem dX10_turn_64 : decode cX10_turn 64 = .ok (.iconst 1, 1) := by decide +kernel
theorem dX10_turn_65 : decode cX10_turn 65 = .ok (.if_icmp .ne 10, 3) := by decide +kernel
theorem dX10_turn_68 : decode cX10_turn 68 = .ok (.aload_n 1, 1) := by decide +kernel
theorem dX10_turn_69 : decode cX10_turn 69 = .ok (.iconst 3, 1) := by decide +kernel
theorem dX10_turn_70 : decode cX10_turn 70 = .ok (.iconst 2, 1) := by decide +kernel
theorem dX10_turn_71 : decode cX10_turn 71 = .ok (.iastore, 1) := by decide +kernel
theorem dX10_turn_72 : decode cX10_turn 72 = .ok (.goto 129, 3) := by decide +kernel
theorem dX10_turn_75 : decode cX10_turn 75 = .ok (.aload_n 1, 1) := by decide +kernel
theorem dX10_turn_76 : decode cX10_turn 76 = .ok (.iconst 3, 1) := by decide +kernel
theorem dX10_turn_77 : decode cX10_turn 77 = .ok (.iaload, 1) := by decide +kernel
theorem dX10_turn_78 : decode cX10_turn 78 = .ok (.ifCond .ne 30, 3) := by decide +kernel
theorem dX10_turn_81 : decode cX10_turn 81 = .ok (.aload_n 1, 1) := by decide +kernel
theorem dX10_turn_82 : decode cX10_turn 82 = .ok (.bipush 10, 2) := by decide +kernel
theorem dX10_turn_84 : decode cX10_turn 84 = .ok (.iaload, 1) := by decide +kernel
theorem dX10_turn_85 : decode cX10_turn 85 = .ok (.ifCond .ne 23, 3) := by decide +kernel
theorem dX10_turn_88 : decode cX10_turn 88 = .ok (.aload_n 0, 1) := by decide +kernel
theorem dX10_turn_89 : decode cX10_turn 89 = .ok (.getfield 64, 3) := by decide +kernel
theorem dX10_turn_92 : decode cX10_turn 92 = .ok (.iconst 4, 1) := by decide +kernel
theorem dX10_turn_93 : decode cX10_turn 93 = .ok (.bipush 22, 2) := by decide +kernel
theorem dX10_turn_95 : decode cX10_turn 95 = .ok (.invokestatic 95, 3) := by decide +kernel
theorem dX10_turn_98 : decode cX10_turn 98 = .ok (.ifCond .eq 103, 3) := by decide +kernel
theorem dX10_turn_101 : decode cX10_turn 101 = .ok (.aload_n 1, 1) := by decide +kernel
theorem dX10_turn_102 : decode cX10_turn 102 = .ok (.invokestatic 147, 3) := by decide +kernel
theorem dX10_turn_105 : decode cX10_turn 105 = .ok (.goto 96, 3) := by decide +kernel
theorem dX10_turn_108 : decode cX10_turn 108 = .ok (.aload_n 1, 1) := by decide +kernel
theorem dX10_turn_109 : decode cX10_turn 109 = .ok (.iconst 3, 1) := by decide +kernel
theorem dX10_turn_110 : decode cX10_turn 110 = .ok (.iaload, 1) := by decide +kernel
theorem dX10_turn_111 : decode cX10_turn 111 = .ok (.iconst 2, 1) := by decide +kernel
theorem dX10_turn_112 : decode cX10_turn 112 = .ok (.if_icmp .ne 24, 3) := by decide +kernel
theorem dX10_turn_115 : decode cX10_turn 115 = .ok (.aload_n 0, 1) := by decide +kernel
theorem dX10_turn_116 : decode cX10_turn 116 = .ok (.getfield 64, 3) := by decide +kernel
theorem dX10_turn_119 : decode cX10_turn 119 = .ok (.iconst 3, 1) := by decide +kernel
theorem dX10_turn_120 : decode cX10_turn 120 = .ok (.bipush 25, 2) := by decide +kernel
theorem dX10_turn_122 : decode cX10_turn 122 = .ok (.invokestatic 95, 3) := by decide +kernel
theorem dX10_turn_125 : decode cX10_turn 125 = .ok (.ifCond .ne 11, 3) := by decide +kernel
theorem dX10_turn_128 : decode cX10_turn 128 = .ok (.aload_n 1, 1) := by decide +kernel
theorem dX10_turn_129 : decode cX10_turn 129 = .ok (.iconst 0, 1) := by decide +kernel
theorem dX10_turn_130 : decode cX10_turn 130 = .ok (.invokestatic 143, 3) := by decide +kernel
theorem dX10_turn_133 : decode cX10_turn 133 = .ok (.goto 68, 3) := by decide +kernel
theorem dX10_turn_136 : decode cX10_turn 136 = .ok (.aload_n 1, 1) := by decide +kernel
theorem dX10_turn_137 : decode cX10_turn 137 = .ok (.iconst 3, 1) := by decide +kernel
theorem dX10_turn_138 : decode cX10_turn 138 = .ok (.iaload, 1) := by decide +kernel
theorem dX10_turn_139 : decode cX10_turn 139 = .ok (.iconst 2, 1) := by decide +kernel
theorem dX10_turn_140 : decode cX10_turn 140 = .ok (.if_icmp .ne 61, 3) := by decide +kernel
theorem dX10_turn_143 : decode cX10_turn 143 = .ok (.aload_n 1, 1) := by decide +kernel
theorem dX10_turn_144 : decode cX10_turn 144 = .ok (.bipush 8, 2) := by decide +kernel
theorem dX10_turn_146 : decode cX10_turn 146 = .ok (.aload_n 1, 1) := by decide +kernel
theorem dX10_turn_147 : decode cX10_turn 147 = .ok (.bipush 11, 2) := by decide +kernel
theorem dX10_turn_149 : decode cX10_turn 149 = .ok (.iaload, 1) := by decide +kernel
theorem dX10_turn_150 : decode cX10_turn 150 = .ok (.sipush 150, 3) := by decide +kernel
theorem dX10_turn_153 : decode cX10_turn 153 = .ok (.if_icmp .lt 7, 3) := by decide +kernel
theorem dX10_turn_156 : decode cX10_turn 156 = .ok (.iconst 0, 1) := by decide +kernel
theorem dX10_turn_157 : decode cX10_turn 157 = .ok (.goto 31, 3) := by decide +kernel
theorem dX10_turn_160 : decode cX10_turn 160 = .ok (.aload_n 1, 1) := by decide +kernel
theorem dX10_turn_161 : decode cX10_turn 161 = .ok (.bipush 12, 2) := by decide +kernel
theorem dX10_turn_163 : decode cX10_turn 163 = .ok (.iaload, 1) := by decide +kernel
theorem dX10_turn_164 : decode cX10_turn 164 = .ok (.bipush 120, 2) := by decide +kernel
theorem dX10_turn_166 : decode cX10_turn 166 = .ok (.if_icmp .lt 7, 3) := by decide +kernel
theorem dX10_turn_169 : decode cX10_turn 169 = .ok (.iconst 1, 1) := by decide +kernel
theorem dX10_turn_170 : decode cX10_turn 170 = .ok (.goto 18, 3) := by decide +kernel
theorem dX10_turn_173 : decode cX10_turn 173 = .ok (.aload_n 1, 1) := by decide +kernel
theorem dX10_turn_174 : decode cX10_turn 174 = .ok (.bipush 13, 2) := by decide +kernel
theorem dX10_turn_176 : decode cX10_turn 176 = .ok (.iaload, 1) := by decide +kernel
theorem dX10_turn_177 : decode cX10_turn 177 = .ok (.sipush 200, 3) := by decide +kernel
theorem dX10_turn_180 : decode cX10_turn 180 = .ok (.if_icmp .lt 7, 3) := by decide +kernel
theorem dX10_turn_183 : decode cX10_turn 183 = .ok (.iconst 2, 1) := by decide +kernel
theorem dX10_turn_184 : decode cX10_turn 184 = .ok (.goto 4, 3) := by decide +kernel
theorem dX10_turn_187 : decode cX10_turn 187 = .ok (.iconst (-1), 1) := by decide +kernel
theorem dX10_turn_188 : decode cX10_turn 188 = .ok (.iastore, 1) := by decide +kernel
theorem dX10_turn_189 : decode cX10_turn 189 = .ok (.aload_n 1, 1) := by decide +kernel
theorem dX10_turn_190 : decode cX10_turn 190 = .ok (.bipush 8, 2) := by decide +kernel
theorem dX10_turn_192 : decode cX10_turn 192 = .ok (.iaload, 1) := by decide +kernel
theorem dX10_turn_193 : decode cX10_turn 193 = .ok (.iconst (-1), 1) := by decide +kernel
theorem dX10_turn_194 : decode cX10_turn 194 = .ok (.if_icmp .eq 7, 3) := by decide +kernel
theorem dX10_turn_197 : decode cX10_turn 197 = .ok (.aload_n 1, 1) := by decide +kernel
theorem dX10_turn_198 : decode cX10_turn 198 = .ok (.iconst 3, 1) := by decide +kernel
theorem dX10_turn_199 : decode cX10_turn 199 = .ok (.iconst 3, 1) := by decide +kernel
theorem dX10_turn_200 : decode cX10_turn 200 = .ok (.iastore, 1) := by decide +kernel
theorem dX10_turn_201 : decode cX10_turn 201 = .ok (.return_, 1) := by decide +kernel
theorem wfRX10_70 : zFl RX10 70 9 14 := ⟨_, rfl, by decide, zm_f 995 (by decide +kernel) rfl⟩
theorem wfRX10_39 : zFl RX10 39 9 16 := ⟨_, rfl, by decide, zm_f 999 (by decide +kernel) rfl⟩
theorem wfRX10_64 : zFl RX10 64 9 12 := ⟨_, rfl, by decide, zm_f 991 (by decide +kernel) rfl⟩
theorem wcRX10_95 : Cond.methodLinkNest RX10 95 yX11_in "WakeBanksModel" ∈ zNws ∧ Cond.static yX11_in ∈ zTg ∧ Cond.initialized yX11_in.cls ∈ zTg ∧ Cond.code yX11_in cX11_in 3 (some .boolean) ∈ zTg := ⟨by decide +kernel, zm_f 1076 (by decide +kernel) rfl, zm_f 46 (by decide +kernel) rfl, zm_f 1077 (by decide +kernel) rfl⟩
theorem rel17 : zRel [] [(3, [])] [] := by unfold zRel; decide
theorem wcRX10_143 : Cond.methodLink RX10 143 yX10_stop ∈ zTg ∧ Cond.static yX10_stop ∈ zTg ∧ Cond.initialized yX10_stop.cls ∈ zTg ∧ Cond.code yX10_stop cX10_stop 2 none ∈ zTg := ⟨zm_f 1119 (by decide +kernel) rfl, zm_f 1120 (by decide +kernel) rfl, zm_f 47 (by decide +kernel) rfl, zm_f 1121 (by decide +kernel) rfl⟩
theorem wy_yX10_stop : yX10_stop.cls ≠ "java/lang/invoke/MethodHandle" ∧ yX10_stop.cls ≠ "java/lang/invoke/VarHandle" ∧ (parseMethodDescriptor yX10_stop.desc).map (fun d => d.parameters.length) = some 2 := by decide +kernel
theorem rel18 : zRel [0] [(3, [])] [(3, [])] := by unfold zRel; decide
theorem wcRX10_147 : Cond.methodLink RX10 147 yX10_start ∈ zTg ∧ Cond.static yX10_start ∈ zTg ∧ Cond.initialized yX10_start.cls ∈ zTg ∧ Cond.code yX10_start cX10_start 1 none ∈ zTg := ⟨zm_f 1122 (by decide +kernel) rfl, zm_f 1123 (by decide +kernel) rfl, zm_f 47 (by decide +kernel) rfl, zm_f 1124 (by decide +kernel) rfl⟩
theorem wy_yX10_start : yX10_start.cls ≠ "java/lang/invoke/MethodHandle" ∧ yX10_start.cls ≠ "java/lang/invoke/VarHandle" ∧ (parseMethodDescriptor yX10_start.desc).map (fun d => d.parameters.length) = some 1 := by decide +kernel
def fMS_turn (i : Nat) (s0 : zM) : Option (zM) :=
  Option.bind (if (s0 0 0 16) ≤ (s0 0 0 14) then
  some (0 : Int32)
else
  some (1 : Int32)) fun q1 =>
  zix (3 : Int32) 23 fun j5 =>
  if (s0 8 i j5) = (2 : Int32) then
  if q1 = 0 then
    zix (3 : Int32) 23 fun j204 =>
      if (s0 8 i j204) = 0 then
      zix (10 : Int32) 23 fun j270 =>
        if (s0 8 i j270) = (2 : Int32) then
        if q1 = 0 then
          Option.bind (fMS_start i s0) fun q401 =>
            some q401
        else
          zix (3 : Int32) 23 fun j336 =>
            if (s0 8 i j336) = (1 : Int32) then
            zix (3 : Int32) 23 fun j399 =>
              zlet (zu s0 8 i j399 (2 : Int32)) fun s0_400 =>
              some s0_400
          else
            zix (3 : Int32) 23 fun j337 =>
              if (s0 8 i j337) = 0 then
              zix (10 : Int32) 23 fun j367 =>
                if (s0 8 i j367) = 0 then
                Option.bind (fMO_in (s0 0 0 12) (4 : Int32) (22 : Int32)) fun q397 =>
                  if q397 = 0 then
                  some s0
                else
                  Option.bind (fMS_start i s0) fun q398 =>
                    some q398
              else
                zix (3 : Int32) 23 fun j368 =>
                  if (s0 8 i j368) = (2 : Int32) then
                  Option.bind (fMO_in (s0 0 0 12) (3 : Int32) (25 : Int32)) fun q382 =>
                    if q382 = 0 then
                    Option.bind (fMS_stop i (0 : Int32) s0) fun q396 =>
                      some q396
                  else
                    zix (3 : Int32) 23 fun j383 =>
                      if (s0 8 i j383) = (2 : Int32) then
                      zix (11 : Int32) 23 fun j384 =>
                        Option.bind (if (s0 8 i j384) < (150 : Int32) then
                        zix (12 : Int32) 23 fun j389 =>
                          if (s0 8 i j389) < (120 : Int32) then
                          zix (13 : Int32) 23 fun j390 =>
                            if (s0 8 i j390) < (200 : Int32) then
                            some (-1 : Int32)
                          else
                            some (2 : Int32)
                        else
                          some (1 : Int32)
                      else
                        some (0 : Int32)) fun q385 =>
                        zix (8 : Int32) 23 fun j391 =>
                        zlet (zu s0 8 i j391 q385) fun s0_392 =>
                        zix (8 : Int32) 23 fun j393 =>
                        if (s0_392 8 i j393) = (-1 : Int32) then
                        some s0_392
                      else
                        zix (3 : Int32) 23 fun j394 =>
                          zlet (zu s0_392 8 i j394 (3 : Int32)) fun s0_395 =>
                          some s0_395
                    else
                      some s0
                else
                  zix (3 : Int32) 23 fun j369 =>
                    if (s0 8 i j369) = (2 : Int32) then
                    zix (11 : Int32) 23 fun j370 =>
                      Option.bind (if (s0 8 i j370) < (150 : Int32) then
                      zix (12 : Int32) 23 fun j375 =>
                        if (s0 8 i j375) < (120 : Int32) then
                        zix (13 : Int32) 23 fun j376 =>
                          if (s0 8 i j376) < (200 : Int32) then
                          some (-1 : Int32)
                        else
                          some (2 : Int32)
                      else
                        some (1 : Int32)
                    else
                      some (0 : Int32)) fun q371 =>
                      zix (8 : Int32) 23 fun j377 =>
                      zlet (zu s0 8 i j377 q371) fun s0_378 =>
                      zix (8 : Int32) 23 fun j379 =>
                      if (s0_378 8 i j379) = (-1 : Int32) then
                      some s0_378
                    else
                      zix (3 : Int32) 23 fun j380 =>
                        zlet (zu s0_378 8 i j380 (3 : Int32)) fun s0_381 =>
                        some s0_381
                  else
                    some s0
            else
              zix (3 : Int32) 23 fun j338 =>
                if (s0 8 i j338) = (2 : Int32) then
                Option.bind (fMO_in (s0 0 0 12) (3 : Int32) (25 : Int32)) fun q352 =>
                  if q352 = 0 then
                  Option.bind (fMS_stop i (0 : Int32) s0) fun q366 =>
                    some q366
                else
                  zix (3 : Int32) 23 fun j353 =>
                    if (s0 8 i j353) = (2 : Int32) then
                    zix (11 : Int32) 23 fun j354 =>
                      Option.bind (if (s0 8 i j354) < (150 : Int32) then
                      zix (12 : Int32) 23 fun j359 =>
                        if (s0 8 i j359) < (120 : Int32) then
                        zix (13 : Int32) 23 fun j360 =>
                          if (s0 8 i j360) < (200 : Int32) then
                          some (-1 : Int32)
                        else
                          some (2 : Int32)
                      else
                        some (1 : Int32)
                    else
                      some (0 : Int32)) fun q355 =>
                      zix (8 : Int32) 23 fun j361 =>
                      zlet (zu s0 8 i j361 q355) fun s0_362 =>
                      zix (8 : Int32) 23 fun j363 =>
                      if (s0_362 8 i j363) = (-1 : Int32) then
                      some s0_362
                    else
                      zix (3 : Int32) 23 fun j364 =>
                        zlet (zu s0_362 8 i j364 (3 : Int32)) fun s0_365 =>
                        some s0_365
                  else
                    some s0
              else
                zix (3 : Int32) 23 fun j339 =>
                  if (s0 8 i j339) = (2 : Int32) then
                  zix (11 : Int32) 23 fun j340 =>
                    Option.bind (if (s0 8 i j340) < (150 : Int32) then
                    zix (12 : Int32) 23 fun j345 =>
                      if (s0 8 i j345) < (120 : Int32) then
                      zix (13 : Int32) 23 fun j346 =>
                        if (s0 8 i j346) < (200 : Int32) then
                        some (-1 : Int32)
                      else
                        some (2 : Int32)
                    else
                      some (1 : Int32)
                  else
                    some (0 : Int32)) fun q341 =>
                    zix (8 : Int32) 23 fun j347 =>
                    zlet (zu s0 8 i j347 q341) fun s0_348 =>
                    zix (8 : Int32) 23 fun j349 =>
                    if (s0_348 8 i j349) = (-1 : Int32) then
                    some s0_348
                  else
                    zix (3 : Int32) 23 fun j350 =>
                      zlet (zu s0_348 8 i j350 (3 : Int32)) fun s0_351 =>
                      some s0_351
                else
                  some s0
      else
        zix (3 : Int32) 23 fun j271 =>
          if (s0 8 i j271) = (1 : Int32) then
          zix (3 : Int32) 23 fun j334 =>
            zlet (zu s0 8 i j334 (2 : Int32)) fun s0_335 =>
            some s0_335
        else
          zix (3 : Int32) 23 fun j272 =>
            if (s0 8 i j272) = 0 then
            zix (10 : Int32) 23 fun j302 =>
              if (s0 8 i j302) = 0 then
              Option.bind (fMO_in (s0 0 0 12) (4 : Int32) (22 : Int32)) fun q332 =>
                if q332 = 0 then
                some s0
              else
                Option.bind (fMS_start i s0) fun q333 =>
                  some q333
            else
              zix (3 : Int32) 23 fun j303 =>
                if (s0 8 i j303) = (2 : Int32) then
                Option.bind (fMO_in (s0 0 0 12) (3 : Int32) (25 : Int32)) fun q317 =>
                  if q317 = 0 then
                  Option.bind (fMS_stop i (0 : Int32) s0) fun q331 =>
                    some q331
                else
                  zix (3 : Int32) 23 fun j318 =>
                    if (s0 8 i j318) = (2 : Int32) then
                    zix (11 : Int32) 23 fun j319 =>
                      Option.bind (if (s0 8 i j319) < (150 : Int32) then
                      zix (12 : Int32) 23 fun j324 =>
                        if (s0 8 i j324) < (120 : Int32) then
                        zix (13 : Int32) 23 fun j325 =>
                          if (s0 8 i j325) < (200 : Int32) then
                          some (-1 : Int32)
                        else
                          some (2 : Int32)
                      else
                        some (1 : Int32)
                    else
                      some (0 : Int32)) fun q320 =>
                      zix (8 : Int32) 23 fun j326 =>
                      zlet (zu s0 8 i j326 q320) fun s0_327 =>
                      zix (8 : Int32) 23 fun j328 =>
                      if (s0_327 8 i j328) = (-1 : Int32) then
                      some s0_327
                    else
                      zix (3 : Int32) 23 fun j329 =>
                        zlet (zu s0_327 8 i j329 (3 : Int32)) fun s0_330 =>
                        some s0_330
                  else
                    some s0
              else
                zix (3 : Int32) 23 fun j304 =>
                  if (s0 8 i j304) = (2 : Int32) then
                  zix (11 : Int32) 23 fun j305 =>
                    Option.bind (if (s0 8 i j305) < (150 : Int32) then
                    zix (12 : Int32) 23 fun j310 =>
                      if (s0 8 i j310) < (120 : Int32) then
                      zix (13 : Int32) 23 fun j311 =>
                        if (s0 8 i j311) < (200 : Int32) then
                        some (-1 : Int32)
                      else
                        some (2 : Int32)
                    else
                      some (1 : Int32)
                  else
                    some (0 : Int32)) fun q306 =>
                    zix (8 : Int32) 23 fun j312 =>
                    zlet (zu s0 8 i j312 q306) fun s0_313 =>
                    zix (8 : Int32) 23 fun j314 =>
                    if (s0_313 8 i j314) = (-1 : Int32) then
                    some s0_313
                  else
                    zix (3 : Int32) 23 fun j315 =>
                      zlet (zu s0_313 8 i j315 (3 : Int32)) fun s0_316 =>
                      some s0_316
                else
                  some s0
          else
            zix (3 : Int32) 23 fun j273 =>
              if (s0 8 i j273) = (2 : Int32) then
              Option.bind (fMO_in (s0 0 0 12) (3 : Int32) (25 : Int32)) fun q287 =>
                if q287 = 0 then
                Option.bind (fMS_stop i (0 : Int32) s0) fun q301 =>
                  some q301
              else
                zix (3 : Int32) 23 fun j288 =>
                  if (s0 8 i j288) = (2 : Int32) then
                  zix (11 : Int32) 23 fun j289 =>
                    Option.bind (if (s0 8 i j289) < (150 : Int32) then
                    zix (12 : Int32) 23 fun j294 =>
                      if (s0 8 i j294) < (120 : Int32) then
                      zix (13 : Int32) 23 fun j295 =>
                        if (s0 8 i j295) < (200 : Int32) then
                        some (-1 : Int32)
                      else
                        some (2 : Int32)
                    else
                      some (1 : Int32)
                  else
                    some (0 : Int32)) fun q290 =>
                    zix (8 : Int32) 23 fun j296 =>
                    zlet (zu s0 8 i j296 q290) fun s0_297 =>
                    zix (8 : Int32) 23 fun j298 =>
                    if (s0_297 8 i j298) = (-1 : Int32) then
                    some s0_297
                  else
                    zix (3 : Int32) 23 fun j299 =>
                      zlet (zu s0_297 8 i j299 (3 : Int32)) fun s0_300 =>
                      some s0_300
                else
                  some s0
            else
              zix (3 : Int32) 23 fun j274 =>
                if (s0 8 i j274) = (2 : Int32) then
                zix (11 : Int32) 23 fun j275 =>
                  Option.bind (if (s0 8 i j275) < (150 : Int32) then
                  zix (12 : Int32) 23 fun j280 =>
                    if (s0 8 i j280) < (120 : Int32) then
                    zix (13 : Int32) 23 fun j281 =>
                      if (s0 8 i j281) < (200 : Int32) then
                      some (-1 : Int32)
                    else
                      some (2 : Int32)
                  else
                    some (1 : Int32)
                else
                  some (0 : Int32)) fun q276 =>
                  zix (8 : Int32) 23 fun j282 =>
                  zlet (zu s0 8 i j282 q276) fun s0_283 =>
                  zix (8 : Int32) 23 fun j284 =>
                  if (s0_283 8 i j284) = (-1 : Int32) then
                  some s0_283
                else
                  zix (3 : Int32) 23 fun j285 =>
                    zlet (zu s0_283 8 i j285 (3 : Int32)) fun s0_286 =>
                    some s0_286
              else
                some s0
    else
      zix (3 : Int32) 23 fun j205 =>
        if (s0 8 i j205) = (1 : Int32) then
        zix (3 : Int32) 23 fun j268 =>
          zlet (zu s0 8 i j268 (2 : Int32)) fun s0_269 =>
          some s0_269
      else
        zix (3 : Int32) 23 fun j206 =>
          if (s0 8 i j206) = 0 then
          zix (10 : Int32) 23 fun j236 =>
            if (s0 8 i j236) = 0 then
            Option.bind (fMO_in (s0 0 0 12) (4 : Int32) (22 : Int32)) fun q266 =>
              if q266 = 0 then
              some s0
            else
              Option.bind (fMS_start i s0) fun q267 =>
                some q267
          else
            zix (3 : Int32) 23 fun j237 =>
              if (s0 8 i j237) = (2 : Int32) then
              Option.bind (fMO_in (s0 0 0 12) (3 : Int32) (25 : Int32)) fun q251 =>
                if q251 = 0 then
                Option.bind (fMS_stop i (0 : Int32) s0) fun q265 =>
                  some q265
              else
                zix (3 : Int32) 23 fun j252 =>
                  if (s0 8 i j252) = (2 : Int32) then
                  zix (11 : Int32) 23 fun j253 =>
                    Option.bind (if (s0 8 i j253) < (150 : Int32) then
                    zix (12 : Int32) 23 fun j258 =>
                      if (s0 8 i j258) < (120 : Int32) then
                      zix (13 : Int32) 23 fun j259 =>
                        if (s0 8 i j259) < (200 : Int32) then
                        some (-1 : Int32)
                      else
                        some (2 : Int32)
                    else
                      some (1 : Int32)
                  else
                    some (0 : Int32)) fun q254 =>
                    zix (8 : Int32) 23 fun j260 =>
                    zlet (zu s0 8 i j260 q254) fun s0_261 =>
                    zix (8 : Int32) 23 fun j262 =>
                    if (s0_261 8 i j262) = (-1 : Int32) then
                    some s0_261
                  else
                    zix (3 : Int32) 23 fun j263 =>
                      zlet (zu s0_261 8 i j263 (3 : Int32)) fun s0_264 =>
                      some s0_264
                else
                  some s0
            else
              zix (3 : Int32) 23 fun j238 =>
                if (s0 8 i j238) = (2 : Int32) then
                zix (11 : Int32) 23 fun j239 =>
                  Option.bind (if (s0 8 i j239) < (150 : Int32) then
                  zix (12 : Int32) 23 fun j244 =>
                    if (s0 8 i j244) < (120 : Int32) then
                    zix (13 : Int32) 23 fun j245 =>
                      if (s0 8 i j245) < (200 : Int32) then
                      some (-1 : Int32)
                    else
                      some (2 : Int32)
                  else
                    some (1 : Int32)
                else
                  some (0 : Int32)) fun q240 =>
                  zix (8 : Int32) 23 fun j246 =>
                  zlet (zu s0 8 i j246 q240) fun s0_247 =>
                  zix (8 : Int32) 23 fun j248 =>
                  if (s0_247 8 i j248) = (-1 : Int32) then
                  some s0_247
                else
                  zix (3 : Int32) 23 fun j249 =>
                    zlet (zu s0_247 8 i j249 (3 : Int32)) fun s0_250 =>
                    some s0_250
              else
                some s0
        else
          zix (3 : Int32) 23 fun j207 =>
            if (s0 8 i j207) = (2 : Int32) then
            Option.bind (fMO_in (s0 0 0 12) (3 : Int32) (25 : Int32)) fun q221 =>
              if q221 = 0 then
              Option.bind (fMS_stop i (0 : Int32) s0) fun q235 =>
                some q235
            else
              zix (3 : Int32) 23 fun j222 =>
                if (s0 8 i j222) = (2 : Int32) then
                zix (11 : Int32) 23 fun j223 =>
                  Option.bind (if (s0 8 i j223) < (150 : Int32) then
                  zix (12 : Int32) 23 fun j228 =>
                    if (s0 8 i j228) < (120 : Int32) then
                    zix (13 : Int32) 23 fun j229 =>
                      if (s0 8 i j229) < (200 : Int32) then
                      some (-1 : Int32)
                    else
                      some (2 : Int32)
                  else
                    some (1 : Int32)
                else
                  some (0 : Int32)) fun q224 =>
                  zix (8 : Int32) 23 fun j230 =>
                  zlet (zu s0 8 i j230 q224) fun s0_231 =>
                  zix (8 : Int32) 23 fun j232 =>
                  if (s0_231 8 i j232) = (-1 : Int32) then
                  some s0_231
                else
                  zix (3 : Int32) 23 fun j233 =>
                    zlet (zu s0_231 8 i j233 (3 : Int32)) fun s0_234 =>
                    some s0_234
              else
                some s0
          else
            zix (3 : Int32) 23 fun j208 =>
              if (s0 8 i j208) = (2 : Int32) then
              zix (11 : Int32) 23 fun j209 =>
                Option.bind (if (s0 8 i j209) < (150 : Int32) then
                zix (12 : Int32) 23 fun j214 =>
                  if (s0 8 i j214) < (120 : Int32) then
                  zix (13 : Int32) 23 fun j215 =>
                    if (s0 8 i j215) < (200 : Int32) then
                    some (-1 : Int32)
                  else
                    some (2 : Int32)
                else
                  some (1 : Int32)
              else
                some (0 : Int32)) fun q210 =>
                zix (8 : Int32) 23 fun j216 =>
                zlet (zu s0 8 i j216 q210) fun s0_217 =>
                zix (8 : Int32) 23 fun j218 =>
                if (s0_217 8 i j218) = (-1 : Int32) then
                some s0_217
              else
                zix (3 : Int32) 23 fun j219 =>
                  zlet (zu s0_217 8 i j219 (3 : Int32)) fun s0_220 =>
                  some s0_220
            else
              some s0
  else
    Option.bind (fMS_stop i (2 : Int32) s0) fun q402 =>
      some q402
else
  zix (3 : Int32) 23 fun j6 =>
    if (s0 8 i j6) = 0 then
    zix (10 : Int32) 23 fun j72 =>
      if (s0 8 i j72) = (2 : Int32) then
      if q1 = 0 then
        Option.bind (fMS_start i s0) fun q203 =>
          some q203
      else
        zix (3 : Int32) 23 fun j138 =>
          if (s0 8 i j138) = (1 : Int32) then
          zix (3 : Int32) 23 fun j201 =>
            zlet (zu s0 8 i j201 (2 : Int32)) fun s0_202 =>
            some s0_202
        else
          zix (3 : Int32) 23 fun j139 =>
            if (s0 8 i j139) = 0 then
            zix (10 : Int32) 23 fun j169 =>
              if (s0 8 i j169) = 0 then
              Option.bind (fMO_in (s0 0 0 12) (4 : Int32) (22 : Int32)) fun q199 =>
                if q199 = 0 then
                some s0
              else
                Option.bind (fMS_start i s0) fun q200 =>
                  some q200
            else
              zix (3 : Int32) 23 fun j170 =>
                if (s0 8 i j170) = (2 : Int32) then
                Option.bind (fMO_in (s0 0 0 12) (3 : Int32) (25 : Int32)) fun q184 =>
                  if q184 = 0 then
                  Option.bind (fMS_stop i (0 : Int32) s0) fun q198 =>
                    some q198
                else
                  zix (3 : Int32) 23 fun j185 =>
                    if (s0 8 i j185) = (2 : Int32) then
                    zix (11 : Int32) 23 fun j186 =>
                      Option.bind (if (s0 8 i j186) < (150 : Int32) then
                      zix (12 : Int32) 23 fun j191 =>
                        if (s0 8 i j191) < (120 : Int32) then
                        zix (13 : Int32) 23 fun j192 =>
                          if (s0 8 i j192) < (200 : Int32) then
                          some (-1 : Int32)
                        else
                          some (2 : Int32)
                      else
                        some (1 : Int32)
                    else
                      some (0 : Int32)) fun q187 =>
                      zix (8 : Int32) 23 fun j193 =>
                      zlet (zu s0 8 i j193 q187) fun s0_194 =>
                      zix (8 : Int32) 23 fun j195 =>
                      if (s0_194 8 i j195) = (-1 : Int32) then
                      some s0_194
                    else
                      zix (3 : Int32) 23 fun j196 =>
                        zlet (zu s0_194 8 i j196 (3 : Int32)) fun s0_197 =>
                        some s0_197
                  else
                    some s0
              else
                zix (3 : Int32) 23 fun j171 =>
                  if (s0 8 i j171) = (2 : Int32) then
                  zix (11 : Int32) 23 fun j172 =>
                    Option.bind (if (s0 8 i j172) < (150 : Int32) then
                    zix (12 : Int32) 23 fun j177 =>
                      if (s0 8 i j177) < (120 : Int32) then
                      zix (13 : Int32) 23 fun j178 =>
                        if (s0 8 i j178) < (200 : Int32) then
                        some (-1 : Int32)
                      else
                        some (2 : Int32)
                    else
                      some (1 : Int32)
                  else
                    some (0 : Int32)) fun q173 =>
                    zix (8 : Int32) 23 fun j179 =>
                    zlet (zu s0 8 i j179 q173) fun s0_180 =>
                    zix (8 : Int32) 23 fun j181 =>
                    if (s0_180 8 i j181) = (-1 : Int32) then
                    some s0_180
                  else
                    zix (3 : Int32) 23 fun j182 =>
                      zlet (zu s0_180 8 i j182 (3 : Int32)) fun s0_183 =>
                      some s0_183
                else
                  some s0
          else
            zix (3 : Int32) 23 fun j140 =>
              if (s0 8 i j140) = (2 : Int32) then
              Option.bind (fMO_in (s0 0 0 12) (3 : Int32) (25 : Int32)) fun q154 =>
                if q154 = 0 then
                Option.bind (fMS_stop i (0 : Int32) s0) fun q168 =>
                  some q168
              else
                zix (3 : Int32) 23 fun j155 =>
                  if (s0 8 i j155) = (2 : Int32) then
                  zix (11 : Int32) 23 fun j156 =>
                    Option.bind (if (s0 8 i j156) < (150 : Int32) then
                    zix (12 : Int32) 23 fun j161 =>
                      if (s0 8 i j161) < (120 : Int32) then
                      zix (13 : Int32) 23 fun j162 =>
                        if (s0 8 i j162) < (200 : Int32) then
                        some (-1 : Int32)
                      else
                        some (2 : Int32)
                    else
                      some (1 : Int32)
                  else
                    some (0 : Int32)) fun q157 =>
                    zix (8 : Int32) 23 fun j163 =>
                    zlet (zu s0 8 i j163 q157) fun s0_164 =>
                    zix (8 : Int32) 23 fun j165 =>
                    if (s0_164 8 i j165) = (-1 : Int32) then
                    some s0_164
                  else
                    zix (3 : Int32) 23 fun j166 =>
                      zlet (zu s0_164 8 i j166 (3 : Int32)) fun s0_167 =>
                      some s0_167
                else
                  some s0
            else
              zix (3 : Int32) 23 fun j141 =>
                if (s0 8 i j141) = (2 : Int32) then
                zix (11 : Int32) 23 fun j142 =>
                  Option.bind (if (s0 8 i j142) < (150 : Int32) then
                  zix (12 : Int32) 23 fun j147 =>
                    if (s0 8 i j147) < (120 : Int32) then
                    zix (13 : Int32) 23 fun j148 =>
                      if (s0 8 i j148) < (200 : Int32) then
                      some (-1 : Int32)
                    else
                      some (2 : Int32)
                  else
                    some (1 : Int32)
                else
                  some (0 : Int32)) fun q143 =>
                  zix (8 : Int32) 23 fun j149 =>
                  zlet (zu s0 8 i j149 q143) fun s0_150 =>
                  zix (8 : Int32) 23 fun j151 =>
                  if (s0_150 8 i j151) = (-1 : Int32) then
                  some s0_150
                else
                  zix (3 : Int32) 23 fun j152 =>
                    zlet (zu s0_150 8 i j152 (3 : Int32)) fun s0_153 =>
                    some s0_153
              else
                some s0
    else
      zix (3 : Int32) 23 fun j73 =>
        if (s0 8 i j73) = (1 : Int32) then
        zix (3 : Int32) 23 fun j136 =>
          zlet (zu s0 8 i j136 (2 : Int32)) fun s0_137 =>
          some s0_137
      else
        zix (3 : Int32) 23 fun j74 =>
          if (s0 8 i j74) = 0 then
          zix (10 : Int32) 23 fun j104 =>
            if (s0 8 i j104) = 0 then
            Option.bind (fMO_in (s0 0 0 12) (4 : Int32) (22 : Int32)) fun q134 =>
              if q134 = 0 then
              some s0
            else
              Option.bind (fMS_start i s0) fun q135 =>
                some q135
          else
            zix (3 : Int32) 23 fun j105 =>
              if (s0 8 i j105) = (2 : Int32) then
              Option.bind (fMO_in (s0 0 0 12) (3 : Int32) (25 : Int32)) fun q119 =>
                if q119 = 0 then
                Option.bind (fMS_stop i (0 : Int32) s0) fun q133 =>
                  some q133
              else
                zix (3 : Int32) 23 fun j120 =>
                  if (s0 8 i j120) = (2 : Int32) then
                  zix (11 : Int32) 23 fun j121 =>
                    Option.bind (if (s0 8 i j121) < (150 : Int32) then
                    zix (12 : Int32) 23 fun j126 =>
                      if (s0 8 i j126) < (120 : Int32) then
                      zix (13 : Int32) 23 fun j127 =>
                        if (s0 8 i j127) < (200 : Int32) then
                        some (-1 : Int32)
                      else
                        some (2 : Int32)
                    else
                      some (1 : Int32)
                  else
                    some (0 : Int32)) fun q122 =>
                    zix (8 : Int32) 23 fun j128 =>
                    zlet (zu s0 8 i j128 q122) fun s0_129 =>
                    zix (8 : Int32) 23 fun j130 =>
                    if (s0_129 8 i j130) = (-1 : Int32) then
                    some s0_129
                  else
                    zix (3 : Int32) 23 fun j131 =>
                      zlet (zu s0_129 8 i j131 (3 : Int32)) fun s0_132 =>
                      some s0_132
                else
                  some s0
            else
              zix (3 : Int32) 23 fun j106 =>
                if (s0 8 i j106) = (2 : Int32) then
                zix (11 : Int32) 23 fun j107 =>
                  Option.bind (if (s0 8 i j107) < (150 : Int32) then
                  zix (12 : Int32) 23 fun j112 =>
                    if (s0 8 i j112) < (120 : Int32) then
                    zix (13 : Int32) 23 fun j113 =>
                      if (s0 8 i j113) < (200 : Int32) then
                      some (-1 : Int32)
                    else
                      some (2 : Int32)
                  else
                    some (1 : Int32)
                else
                  some (0 : Int32)) fun q108 =>
                  zix (8 : Int32) 23 fun j114 =>
                  zlet (zu s0 8 i j114 q108) fun s0_115 =>
                  zix (8 : Int32) 23 fun j116 =>
                  if (s0_115 8 i j116) = (-1 : Int32) then
                  some s0_115
                else
                  zix (3 : Int32) 23 fun j117 =>
                    zlet (zu s0_115 8 i j117 (3 : Int32)) fun s0_118 =>
                    some s0_118
              else
                some s0
        else
          zix (3 : Int32) 23 fun j75 =>
            if (s0 8 i j75) = (2 : Int32) then
            Option.bind (fMO_in (s0 0 0 12) (3 : Int32) (25 : Int32)) fun q89 =>
              if q89 = 0 then
              Option.bind (fMS_stop i (0 : Int32) s0) fun q103 =>
                some q103
            else
              zix (3 : Int32) 23 fun j90 =>
                if (s0 8 i j90) = (2 : Int32) then
                zix (11 : Int32) 23 fun j91 =>
                  Option.bind (if (s0 8 i j91) < (150 : Int32) then
                  zix (12 : Int32) 23 fun j96 =>
                    if (s0 8 i j96) < (120 : Int32) then
                    zix (13 : Int32) 23 fun j97 =>
                      if (s0 8 i j97) < (200 : Int32) then
                      some (-1 : Int32)
                    else
                      some (2 : Int32)
                  else
                    some (1 : Int32)
                else
                  some (0 : Int32)) fun q92 =>
                  zix (8 : Int32) 23 fun j98 =>
                  zlet (zu s0 8 i j98 q92) fun s0_99 =>
                  zix (8 : Int32) 23 fun j100 =>
                  if (s0_99 8 i j100) = (-1 : Int32) then
                  some s0_99
                else
                  zix (3 : Int32) 23 fun j101 =>
                    zlet (zu s0_99 8 i j101 (3 : Int32)) fun s0_102 =>
                    some s0_102
              else
                some s0
          else
            zix (3 : Int32) 23 fun j76 =>
              if (s0 8 i j76) = (2 : Int32) then
              zix (11 : Int32) 23 fun j77 =>
                Option.bind (if (s0 8 i j77) < (150 : Int32) then
                zix (12 : Int32) 23 fun j82 =>
                  if (s0 8 i j82) < (120 : Int32) then
                  zix (13 : Int32) 23 fun j83 =>
                    if (s0 8 i j83) < (200 : Int32) then
                    some (-1 : Int32)
                  else
                    some (2 : Int32)
                else
                  some (1 : Int32)
              else
                some (0 : Int32)) fun q78 =>
                zix (8 : Int32) 23 fun j84 =>
                zlet (zu s0 8 i j84 q78) fun s0_85 =>
                zix (8 : Int32) 23 fun j86 =>
                if (s0_85 8 i j86) = (-1 : Int32) then
                some s0_85
              else
                zix (3 : Int32) 23 fun j87 =>
                  zlet (zu s0_85 8 i j87 (3 : Int32)) fun s0_88 =>
                  some s0_88
            else
              some s0
  else
    zix (3 : Int32) 23 fun j7 =>
      if (s0 8 i j7) = (1 : Int32) then
      zix (3 : Int32) 23 fun j70 =>
        zlet (zu s0 8 i j70 (2 : Int32)) fun s0_71 =>
        some s0_71
    else
      zix (3 : Int32) 23 fun j8 =>
        if (s0 8 i j8) = 0 then
        zix (10 : Int32) 23 fun j38 =>
          if (s0 8 i j38) = 0 then
          Option.bind (fMO_in (s0 0 0 12) (4 : Int32) (22 : Int32)) fun q68 =>
            if q68 = 0 then
            some s0
          else
            Option.bind (fMS_start i s0) fun q69 =>
              some q69
        else
          zix (3 : Int32) 23 fun j39 =>
            if (s0 8 i j39) = (2 : Int32) then
            Option.bind (fMO_in (s0 0 0 12) (3 : Int32) (25 : Int32)) fun q53 =>
              if q53 = 0 then
              Option.bind (fMS_stop i (0 : Int32) s0) fun q67 =>
                some q67
            else
              zix (3 : Int32) 23 fun j54 =>
                if (s0 8 i j54) = (2 : Int32) then
                zix (11 : Int32) 23 fun j55 =>
                  Option.bind (if (s0 8 i j55) < (150 : Int32) then
                  zix (12 : Int32) 23 fun j60 =>
                    if (s0 8 i j60) < (120 : Int32) then
                    zix (13 : Int32) 23 fun j61 =>
                      if (s0 8 i j61) < (200 : Int32) then
                      some (-1 : Int32)
                    else
                      some (2 : Int32)
                  else
                    some (1 : Int32)
                else
                  some (0 : Int32)) fun q56 =>
                  zix (8 : Int32) 23 fun j62 =>
                  zlet (zu s0 8 i j62 q56) fun s0_63 =>
                  zix (8 : Int32) 23 fun j64 =>
                  if (s0_63 8 i j64) = (-1 : Int32) then
                  some s0_63
                else
                  zix (3 : Int32) 23 fun j65 =>
                    zlet (zu s0_63 8 i j65 (3 : Int32)) fun s0_66 =>
                    some s0_66
              else
                some s0
          else
            zix (3 : Int32) 23 fun j40 =>
              if (s0 8 i j40) = (2 : Int32) then
              zix (11 : Int32) 23 fun j41 =>
                Option.bind (if (s0 8 i j41) < (150 : Int32) then
                zix (12 : Int32) 23 fun j46 =>
                  if (s0 8 i j46) < (120 : Int32) then
                  zix (13 : Int32) 23 fun j47 =>
                    if (s0 8 i j47) < (200 : Int32) then
                    some (-1 : Int32)
                  else
                    some (2 : Int32)
                else
                  some (1 : Int32)
              else
                some (0 : Int32)) fun q42 =>
                zix (8 : Int32) 23 fun j48 =>
                zlet (zu s0 8 i j48 q42) fun s0_49 =>
                zix (8 : Int32) 23 fun j50 =>
                if (s0_49 8 i j50) = (-1 : Int32) then
                some s0_49
              else
                zix (3 : Int32) 23 fun j51 =>
                  zlet (zu s0_49 8 i j51 (3 : Int32)) fun s0_52 =>
                  some s0_52
            else
              some s0
      else
        zix (3 : Int32) 23 fun j9 =>
          if (s0 8 i j9) = (2 : Int32) then
          Option.bind (fMO_in (s0 0 0 12) (3 : Int32) (25 : Int32)) fun q23 =>
            if q23 = 0 then
            Option.bind (fMS_stop i (0 : Int32) s0) fun q37 =>
              some q37
          else
            zix (3 : Int32) 23 fun j24 =>
              if (s0 8 i j24) = (2 : Int32) then
              zix (11 : Int32) 23 fun j25 =>
                Option.bind (if (s0 8 i j25) < (150 : Int32) then
                zix (12 : Int32) 23 fun j30 =>
                  if (s0 8 i j30) < (120 : Int32) then
                  zix (13 : Int32) 23 fun j31 =>
                    if (s0 8 i j31) < (200 : Int32) then
                    some (-1 : Int32)
                  else
                    some (2 : Int32)
                else
                  some (1 : Int32)
              else
                some (0 : Int32)) fun q26 =>
                zix (8 : Int32) 23 fun j32 =>
                zlet (zu s0 8 i j32 q26) fun s0_33 =>
                zix (8 : Int32) 23 fun j34 =>
                if (s0_33 8 i j34) = (-1 : Int32) then
                some s0_33
              else
                zix (3 : Int32) 23 fun j35 =>
                  zlet (zu s0_33 8 i j35 (3 : Int32)) fun s0_36 =>
                  some s0_36
            else
              some s0
        else
          zix (3 : Int32) 23 fun j10 =>
            if (s0 8 i j10) = (2 : Int32) then
            zix (11 : Int32) 23 fun j11 =>
              Option.bind (if (s0 8 i j11) < (150 : Int32) then
              zix (12 : Int32) 23 fun j16 =>
                if (s0 8 i j16) < (120 : Int32) then
                zix (13 : Int32) 23 fun j17 =>
                  if (s0 8 i j17) < (200 : Int32) then
                  some (-1 : Int32)
                else
                  some (2 : Int32)
              else
                some (1 : Int32)
            else
              some (0 : Int32)) fun q12 =>
              zix (8 : Int32) 23 fun j18 =>
              zlet (zu s0 8 i j18 q12) fun s0_19 =>
              zix (8 : Int32) 23 fun j20 =>
              if (s0_19 8 i j20) = (-1 : Int32) then
              some s0_19
            else
              zix (3 : Int32) 23 fun j21 =>
                zlet (zu s0_19 8 i j21 (3 : Int32)) fun s0_22 =>
                some s0_22
          else
            some s0
set_option maxHeartbeats 4000000 in
set_option maxRecDepth 20000 in
theorem bfMS_turn {X : zX} (F : zFr X cX10_turn 3 RX10 none) (i : Nat) (hi : i < 8) (s0 : zM) {κ : zM → Option zO} (hκ : ∀ a, κ a = some ((fun a => ((.inl ((fun _ => (none : Option zV)) a), (fun q => [q]) a) : zO)) a)) : zZ X [(3, [])] 1 22 3 0 [some (zr 0 0 0), some (zr 0 8 i), none] [] [s0] (Option.bind (fMS_turn i s0) κ) := by
  unfold fMS_turn
  refine zz_aload_n F (i := 0) dX10_turn_0 rfl rfl ?_
  refine zz_getf F dX10_turn_1 wfRX10_70 zCl_9 rfl (⟨zlb rfl, zlb rfl, zlb rfl⟩) rfl (by decide) rfl rfl ?_
  refine zz_aload_n F (i := 0) dX10_turn_4 rfl rfl ?_
  refine zz_getf F dX10_turn_5 wfRX10_39 zCl_9 rfl (⟨zlb rfl, zlb rfl, zlb rfl⟩) rfl (by decide) rfl rfl ?_
  refine zz_join (pj := 16) (Lj := fun q1 => [some (zr 0 0 0), some (zr 0 8 i), none]) (Sj := fun q1 => [zi q1]) (Mj := fun q1 => [s0]) (fun q1 => ?_) (fun κ3 hj2 => ?_)
  · refine zz_istore_n F (i := 2) (L' := [some (zr 0 0 0), some (zr 0 8 i), some (zi q1)]) dX10_turn_16 rfl (by decide) rfl rfl ?_
    refine zz_aload_n F (i := 1) dX10_turn_17 rfl rfl ?_
    refine zz_iconst F (v := (3 : Int32)) dX10_turn_18 (by decide) ?_
    refine zz_ix fun j5 hj5 hinj5 hej5 => zz_ial F dX10_turn_19 rfl (⟨zlb rfl, zlb rfl, hi⟩) rfl hinj5 hej5 ?_
    refine zz_iconst F (v := (2 : Int32)) dX10_turn_20 (by decide) ?_
    refine zz_icmp_ne F (tgt := 36) dX10_turn_21 (by decide) (fun h => zz_f h ?_) (fun h => zz_t h ?_)
    · refine zz_aload_n F (i := 1) dX10_turn_36 rfl rfl ?_
      refine zz_iconst F (v := (3 : Int32)) dX10_turn_37 (by decide) ?_
      refine zz_ix fun j6 hj6 hinj6 hej6 => zz_ial F dX10_turn_38 rfl (⟨zlb rfl, zlb rfl, hi⟩) rfl hinj6 hej6 ?_
      refine zz_if_ne F (tgt := 61) dX10_turn_39 (by decide) (fun h => zz_f h ?_) (fun h => zz_t h ?_)
      · refine zz_aload_n F (i := 1) dX10_turn_61 rfl rfl ?_
        refine zz_iconst F (v := (3 : Int32)) dX10_turn_62 (by decide) ?_
        refine zz_ix fun j7 hj7 hinj7 hej7 => zz_ial F dX10_turn_63 rfl (⟨zlb rfl, zlb rfl, hi⟩) rfl hinj7 hej7 ?_
        refine zz_iconst F (v := (1 : Int32)) dX10_turn_64 (by decide) ?_
        refine zz_icmp_ne F (tgt := 75) dX10_turn_65 (by decide) (fun h => zz_f h ?_) (fun h => zz_t h ?_)
        · refine zz_aload_n F (i := 1) dX10_turn_75 rfl rfl ?_
          refine zz_iconst F (v := (3 : Int32)) dX10_turn_76 (by decide) ?_
          refine zz_ix fun j8 hj8 hinj8 hej8 => zz_ial F dX10_turn_77 rfl (⟨zlb rfl, zlb rfl, hi⟩) rfl hinj8 hej8 ?_
          refine zz_if_ne F (tgt := 108) dX10_turn_78 (by decide) (fun h => zz_f h ?_) (fun h => zz_t h ?_)
          · refine zz_aload_n F (i := 1) dX10_turn_108 rfl rfl ?_
            refine zz_iconst F (v := (3 : Int32)) dX10_turn_109 (by decide) ?_
            refine zz_ix fun j9 hj9 hinj9 hej9 => zz_ial F dX10_turn_110 rfl (⟨zlb rfl, zlb rfl, hi⟩) rfl hinj9 hej9 ?_
            refine zz_iconst F (v := (2 : Int32)) dX10_turn_111 (by decide) ?_
            refine zz_icmp_ne F (tgt := 136) dX10_turn_112 (by decide) (fun h => zz_f h ?_) (fun h => zz_t h ?_)
            · refine zz_aload_n F (i := 1) dX10_turn_136 rfl rfl ?_
              refine zz_iconst F (v := (3 : Int32)) dX10_turn_137 (by decide) ?_
              refine zz_ix fun j10 hj10 hinj10 hej10 => zz_ial F dX10_turn_138 rfl (⟨zlb rfl, zlb rfl, hi⟩) rfl hinj10 hej10 ?_
              refine zz_iconst F (v := (2 : Int32)) dX10_turn_139 (by decide) ?_
              refine zz_icmp_ne F (tgt := 201) dX10_turn_140 (by decide) (fun h => zz_f h ?_) (fun h => zz_t h ?_)
              · exact zz_return F dX10_turn_201 rfl (hκ _)
              · refine zz_aload_n F (i := 1) dX10_turn_143 rfl rfl ?_
                refine zz_bipush F (v := (8 : Int32)) dX10_turn_144 (by decide) ?_
                refine zz_aload_n F (i := 1) dX10_turn_146 rfl rfl ?_
                refine zz_bipush F (v := (11 : Int32)) dX10_turn_147 (by decide) ?_
                refine zz_ix fun j11 hj11 hinj11 hej11 => zz_ial F dX10_turn_149 rfl (⟨zlb rfl, zlb rfl, hi⟩) rfl hinj11 hej11 ?_
                refine zz_sipush F (v := (150 : Int32)) dX10_turn_150 (by decide) ?_
                refine zz_join (pj := 188) (Lj := fun q12 => [none, some (zr 0 8 i), none]) (Sj := fun q12 => [zi q12, zi (8 : Int32), zr 0 8 i]) (Mj := fun q12 => [s0]) (fun q12 => ?_) (fun κ14 hj13 => ?_)
                · refine zz_ix fun j18 hj18 hinj18 hej18 => zz_ias F (Ms' := [(zu s0 8 i j18 q12)]) dX10_turn_188 rfl (⟨zlb rfl, zlb rfl, hi⟩) rfl hinj18 hej18 rfl ?_
                  refine zz_letm (Mf := fun s0_19 => [s0_19]) fun s0_19 => ?_
                  refine zz_aload_n F (i := 1) dX10_turn_189 rfl rfl ?_
                  refine zz_bipush F (v := (8 : Int32)) dX10_turn_190 (by decide) ?_
                  refine zz_ix fun j20 hj20 hinj20 hej20 => zz_ial F dX10_turn_192 rfl (⟨zlb rfl, zlb rfl, hi⟩) rfl hinj20 hej20 ?_
                  refine zz_iconst F (v := (-1 : Int32)) dX10_turn_193 (by decide) ?_
                  refine zz_icmp_eq F (tgt := 201) dX10_turn_194 (by decide) (fun h => zz_t h ?_) (fun h => zz_f h ?_)
                  · exact zz_return F dX10_turn_201 rfl (hκ _)
                  · refine zz_aload_n F (i := 1) dX10_turn_197 rfl rfl ?_
                    refine zz_iconst F (v := (3 : Int32)) dX10_turn_198 (by decide) ?_
                    refine zz_iconst F (v := (3 : Int32)) dX10_turn_199 (by decide) ?_
                    refine zz_ix fun j21 hj21 hinj21 hej21 => zz_ias F (Ms' := [(zu s0_19 8 i j21 (3 : Int32))]) dX10_turn_200 rfl (⟨zlb rfl, zlb rfl, hi⟩) rfl hinj21 hej21 rfl ?_
                    refine zz_letm (Mf := fun s0_22 => [s0_22]) fun s0_22 => ?_
                    exact zz_return F dX10_turn_201 rfl (hκ _)
                · refine zz_icmp_lt F (tgt := 160) dX10_turn_153 (by decide) (fun h => zz_t h ?_) (fun h => zz_f h ?_)
                  · refine zz_aload_n F (i := 1) dX10_turn_160 rfl rfl ?_
                    refine zz_bipush F (v := (12 : Int32)) dX10_turn_161 (by decide) ?_
                    refine zz_ix fun j16 hj16 hinj16 hej16 => zz_ial F dX10_turn_163 rfl (⟨zlb rfl, zlb rfl, hi⟩) rfl hinj16 hej16 ?_
                    refine zz_bipush F (v := (120 : Int32)) dX10_turn_164 (by decide) ?_
                    refine zz_icmp_lt F (tgt := 173) dX10_turn_166 (by decide) (fun h => zz_t h ?_) (fun h => zz_f h ?_)
                    · refine zz_aload_n F (i := 1) dX10_turn_173 rfl rfl ?_
                      refine zz_bipush F (v := (13 : Int32)) dX10_turn_174 (by decide) ?_
                      refine zz_ix fun j17 hj17 hinj17 hej17 => zz_ial F dX10_turn_176 rfl (⟨zlb rfl, zlb rfl, hi⟩) rfl hinj17 hej17 ?_
                      refine zz_sipush F (v := (200 : Int32)) dX10_turn_177 (by decide) ?_
                      refine zz_icmp_lt F (tgt := 187) dX10_turn_180 (by decide) (fun h => zz_t h ?_) (fun h => zz_f h ?_)
                      · refine zz_iconst F (v := (-1 : Int32)) dX10_turn_187 (by decide) ?_
                        exact zz_sub (zs_n (zs_k (zs_n zs_z))) (hj13 (-1 : Int32))
                      · refine zz_iconst F (v := (2 : Int32)) dX10_turn_183 (by decide) ?_
                        refine zz_goto F (tgt := 188) dX10_turn_184 (by decide) ?_
                        exact zz_sub (zs_n (zs_k (zs_n zs_z))) (hj13 (2 : Int32))
                    · refine zz_iconst F (v := (1 : Int32)) dX10_turn_169 (by decide) ?_
                      refine zz_goto F (tgt := 188) dX10_turn_170 (by decide) ?_
                      exact zz_sub (zs_n (zs_k (zs_n zs_z))) (hj13 (1 : Int32))
                  · refine zz_iconst F (v := (0 : Int32)) dX10_turn_156 (by decide) ?_
                    refine zz_goto F (tgt := 188) dX10_turn_157 (by decide) ?_
                    exact zz_sub (zs_n (zs_k (zs_n zs_z))) (hj13 (0 : Int32))
            · refine zz_aload_n F (i := 0) dX10_turn_115 rfl rfl ?_
              refine zz_getf F dX10_turn_116 wfRX10_64 zCl_9 rfl (⟨zlb rfl, zlb rfl, zlb rfl⟩) rfl (by decide) rfl rfl ?_
              refine zz_iconst F (v := (3 : Int32)) dX10_turn_119 (by decide) ?_
              refine zz_bipush F (v := (25 : Int32)) dX10_turn_120 (by decide) ?_
              refine zz_bind ?_
              refine zz_callSNr F (ρ := []) (so := fun q23 => [zi q23]) (Mo := fun q23 => [s0]) (zfMO_in (s0 0 0 12) (3 : Int32) (25 : Int32)) dX10_turn_122 wcRX10_95 wy_yX11_in rfl ⟨rel17, rfl, rfl, Nat.le_of_ble_eq_true rfl, Nat.le_of_ble_eq_true rfl, Nat.le_of_ble_eq_true rfl⟩ rfl (fun _ => rfl) (fun _ => rfl) fun q23 => ?_
              refine zz_if_ne F (tgt := 136) dX10_turn_125 (by decide) (fun h => zz_f h ?_) (fun h => zz_t h ?_)
              · refine zz_aload_n F (i := 1) dX10_turn_136 rfl rfl ?_
                refine zz_iconst F (v := (3 : Int32)) dX10_turn_137 (by decide) ?_
                refine zz_ix fun j24 hj24 hinj24 hej24 => zz_ial F dX10_turn_138 rfl (⟨zlb rfl, zlb rfl, hi⟩) rfl hinj24 hej24 ?_
                refine zz_iconst F (v := (2 : Int32)) dX10_turn_139 (by decide) ?_
                refine zz_icmp_ne F (tgt := 201) dX10_turn_140 (by decide) (fun h => zz_f h ?_) (fun h => zz_t h ?_)
                · exact zz_return F dX10_turn_201 rfl (hκ _)
                · refine zz_aload_n F (i := 1) dX10_turn_143 rfl rfl ?_
                  refine zz_bipush F (v := (8 : Int32)) dX10_turn_144 (by decide) ?_
                  refine zz_aload_n F (i := 1) dX10_turn_146 rfl rfl ?_
                  refine zz_bipush F (v := (11 : Int32)) dX10_turn_147 (by decide) ?_
                  refine zz_ix fun j25 hj25 hinj25 hej25 => zz_ial F dX10_turn_149 rfl (⟨zlb rfl, zlb rfl, hi⟩) rfl hinj25 hej25 ?_
                  refine zz_sipush F (v := (150 : Int32)) dX10_turn_150 (by decide) ?_
                  refine zz_join (pj := 188) (Lj := fun q26 => [none, some (zr 0 8 i), none]) (Sj := fun q26 => [zi q26, zi (8 : Int32), zr 0 8 i]) (Mj := fun q26 => [s0]) (fun q26 => ?_) (fun κ28 hj27 => ?_)
                  · refine zz_ix fun j32 hj32 hinj32 hej32 => zz_ias F (Ms' := [(zu s0 8 i j32 q26)]) dX10_turn_188 rfl (⟨zlb rfl, zlb rfl, hi⟩) rfl hinj32 hej32 rfl ?_
                    refine zz_letm (Mf := fun s0_33 => [s0_33]) fun s0_33 => ?_
                    refine zz_aload_n F (i := 1) dX10_turn_189 rfl rfl ?_
                    refine zz_bipush F (v := (8 : Int32)) dX10_turn_190 (by decide) ?_
                    refine zz_ix fun j34 hj34 hinj34 hej34 => zz_ial F dX10_turn_192 rfl (⟨zlb rfl, zlb rfl, hi⟩) rfl hinj34 hej34 ?_
                    refine zz_iconst F (v := (-1 : Int32)) dX10_turn_193 (by decide) ?_
                    refine zz_icmp_eq F (tgt := 201) dX10_turn_194 (by decide) (fun h => zz_t h ?_) (fun h => zz_f h ?_)
                    · exact zz_return F dX10_turn_201 rfl (hκ _)
                    · refine zz_aload_n F (i := 1) dX10_turn_197 rfl rfl ?_
                      refine zz_iconst F (v := (3 : Int32)) dX10_turn_198 (by decide) ?_
                      refine zz_iconst F (v := (3 : Int32)) dX10_turn_199 (by decide) ?_
                      refine zz_ix fun j35 hj35 hinj35 hej35 => zz_ias F (Ms' := [(zu s0_33 8 i j35 (3 : Int32))]) dX10_turn_200 rfl (⟨zlb rfl, zlb rfl, hi⟩) rfl hinj35 hej35 rfl ?_
                      refine zz_letm (Mf := fun s0_36 => [s0_36]) fun s0_36 => ?_
                      exact zz_return F dX10_turn_201 rfl (hκ _)
                  · refine zz_icmp_lt F (tgt := 160) dX10_turn_153 (by decide) (fun h => zz_t h ?_) (fun h => zz_f h ?_)
                    · refine zz_aload_n F (i := 1) dX10_turn_160 rfl rfl ?_
                      refine zz_bipush F (v := (12 : Int32)) dX10_turn_161 (by decide) ?_
                      refine zz_ix fun j30 hj30 hinj30 hej30 => zz_ial F dX10_turn_163 rfl (⟨zlb rfl, zlb rfl, hi⟩) rfl hinj30 hej30 ?_
                      refine zz_bipush F (v := (120 : Int32)) dX10_turn_164 (by decide) ?_
                      refine zz_icmp_lt F (tgt := 173) dX10_turn_166 (by decide) (fun h => zz_t h ?_) (fun h => zz_f h ?_)
                      · refine zz_aload_n F (i := 1) dX10_turn_173 rfl rfl ?_
                        refine zz_bipush F (v := (13 : Int32)) dX10_turn_174 (by decide) ?_
                        refine zz_ix fun j31 hj31 hinj31 hej31 => zz_ial F dX10_turn_176 rfl (⟨zlb rfl, zlb rfl, hi⟩) rfl hinj31 hej31 ?_
                        refine zz_sipush F (v := (200 : Int32)) dX10_turn_177 (by decide) ?_
                        refine zz_icmp_lt F (tgt := 187) dX10_turn_180 (by decide) (fun h => zz_t h ?_) (fun h => zz_f h ?_)
                        · refine zz_iconst F (v := (-1 : Int32)) dX10_turn_187 (by decide) ?_
                          exact zz_sub (zs_n (zs_k (zs_n zs_z))) (hj27 (-1 : Int32))
                        · refine zz_iconst F (v := (2 : Int32)) dX10_turn_183 (by decide) ?_
                          refine zz_goto F (tgt := 188) dX10_turn_184 (by decide) ?_
                          exact zz_sub (zs_n (zs_k (zs_n zs_z))) (hj27 (2 : Int32))
                      · refine zz_iconst F (v := (1 : Int32)) dX10_turn_169 (by decide) ?_
                        refine zz_goto F (tgt := 188) dX10_turn_170 (by decide) ?_
                        exact zz_sub (zs_n (zs_k (zs_n zs_z))) (hj27 (1 : Int32))
                    · refine zz_iconst F (v := (0 : Int32)) dX10_turn_156 (by decide) ?_
                      refine zz_goto F (tgt := 188) dX10_turn_157 (by decide) ?_
                      exact zz_sub (zs_n (zs_k (zs_n zs_z))) (hj27 (0 : Int32))
              · refine zz_aload_n F (i := 1) dX10_turn_128 rfl rfl ?_
                refine zz_iconst F (v := (0 : Int32)) dX10_turn_129 (by decide) ?_
                refine zz_bind ?_
                refine zz_callSr F (ρ := [0]) (so := fun q37 => []) (Mo := fun q37 => [q37]) (zfMS_stop i (0 : Int32) hi s0) dX10_turn_130 wcRX10_143 wy_yX10_stop rfl ⟨rel18, rfl, rfl, Nat.le_of_ble_eq_true rfl, Nat.le_of_ble_eq_true rfl, Nat.le_of_ble_eq_true rfl⟩ rfl (fun _ => rfl) (fun _ => rfl) fun q37 => ?_
                refine zz_goto F (tgt := 201) dX10_turn_133 (by decide) ?_
                exact zz_return F dX10_turn_201 rfl (hκ _)
          · refine zz_aload_n F (i := 1) dX10_turn_81 rfl rfl ?_
            refine zz_bipush F (v := (10 : Int32)) dX10_turn_82 (by decide) ?_
            refine zz_ix fun j38 hj38 hinj38 hej38 => zz_ial F dX10_turn_84 rfl (⟨zlb rfl, zlb rfl, hi⟩) rfl hinj38 hej38 ?_
            refine zz_if_ne F (tgt := 108) dX10_turn_85 (by decide) (fun h => zz_f h ?_) (fun h => zz_t h ?_)
            · refine zz_aload_n F (i := 1) dX10_turn_108 rfl rfl ?_
              refine zz_iconst F (v := (3 : Int32)) dX10_turn_109 (by decide) ?_
              refine zz_ix fun j39 hj39 hinj39 hej39 => zz_ial F dX10_turn_110 rfl (⟨zlb rfl, zlb rfl, hi⟩) rfl hinj39 hej39 ?_
              refine zz_iconst F (v := (2 : Int32)) dX10_turn_111 (by decide) ?_
              refine zz_icmp_ne F (tgt := 136) dX10_turn_112 (by decide) (fun h => zz_f h ?_) (fun h => zz_t h ?_)
              · refine zz_aload_n F (i := 1) dX10_turn_136 rfl rfl ?_
                refine zz_iconst F (v := (3 : Int32)) dX10_turn_137 (by decide) ?_
                refine zz_ix fun j40 hj40 hinj40 hej40 => zz_ial F dX10_turn_138 rfl (⟨zlb rfl, zlb rfl, hi⟩) rfl hinj40 hej40 ?_
                refine zz_iconst F (v := (2 : Int32)) dX10_turn_139 (by decide) ?_
                refine zz_icmp_ne F (tgt := 201) dX10_turn_140 (by decide) (fun h => zz_f h ?_) (fun h => zz_t h ?_)
                · exact zz_return F dX10_turn_201 rfl (hκ _)
                · refine zz_aload_n F (i := 1) dX10_turn_143 rfl rfl ?_
                  refine zz_bipush F (v := (8 : Int32)) dX10_turn_144 (by decide) ?_
                  refine zz_aload_n F (i := 1) dX10_turn_146 rfl rfl ?_
                  refine zz_bipush F (v := (11 : Int32)) dX10_turn_147 (by decide) ?_
                  refine zz_ix fun j41 hj41 hinj41 hej41 => zz_ial F dX10_turn_149 rfl (⟨zlb rfl, zlb rfl, hi⟩) rfl hinj41 hej41 ?_
                  refine zz_sipush F (v := (150 : Int32)) dX10_turn_150 (by decide) ?_
                  refine zz_join (pj := 188) (Lj := fun q42 => [none, some (zr 0 8 i), none]) (Sj := fun q42 => [zi q42, zi (8 : Int32), zr 0 8 i]) (Mj := fun q42 => [s0]) (fun q42 => ?_) (fun κ44 hj43 => ?_)
                  · refine zz_ix fun j48 hj48 hinj48 hej48 => zz_ias F (Ms' := [(zu s0 8 i j48 q42)]) dX10_turn_188 rfl (⟨zlb rfl, zlb rfl, hi⟩) rfl hinj48 hej48 rfl ?_
                    refine zz_letm (Mf := fun s0_49 => [s0_49]) fun s0_49 => ?_
                    refine zz_aload_n F (i := 1) dX10_turn_189 rfl rfl ?_
                    refine zz_bipush F (v := (8 : Int32)) dX10_turn_190 (by decide) ?_
                    refine zz_ix fun j50 hj50 hinj50 hej50 => zz_ial F dX10_turn_192 rfl (⟨zlb rfl, zlb rfl, hi⟩) rfl hinj50 hej50 ?_
                    refine zz_iconst F (v := (-1 : Int32)) dX10_turn_193 (by decide) ?_
                    refine zz_icmp_eq F (tgt := 201) dX10_turn_194 (by decide) (fun h => zz_t h ?_) (fun h => zz_f h ?_)
                    · exact zz_return F dX10_turn_201 rfl (hκ _)
                    · refine zz_aload_n F (i := 1) dX10_turn_197 rfl rfl ?_
                      refine zz_iconst F (v := (3 : Int32)) dX10_turn_198 (by decide) ?_
                      refine zz_iconst F (v := (3 : Int32)) dX10_turn_199 (by decide) ?_
                      refine zz_ix fun j51 hj51 hinj51 hej51 => zz_ias F (Ms' := [(zu s0_49 8 i j51 (3 : Int32))]) dX10_turn_200 rfl (⟨zlb rfl, zlb rfl, hi⟩) rfl hinj51 hej51 rfl ?_
                      refine zz_letm (Mf := fun s0_52 => [s0_52]) fun s0_52 => ?_
                      exact zz_return F dX10_turn_201 rfl (hκ _)
                  · refine zz_icmp_lt F (tgt := 160) dX10_turn_153 (by decide) (fun h => zz_t h ?_) (fun h => zz_f h ?_)
                    · refine zz_aload_n F (i := 1) dX10_turn_160 rfl rfl ?_
                      refine zz_bipush F (v := (12 : Int32)) dX10_turn_161 (by decide) ?_
                      refine zz_ix fun j46 hj46 hinj46 hej46 => zz_ial F dX10_turn_163 rfl (⟨zlb rfl, zlb rfl, hi⟩) rfl hinj46 hej46 ?_
                      refine zz_bipush F (v := (120 : Int32)) dX10_turn_164 (by decide) ?_
                      refine zz_icmp_lt F (tgt := 173) dX10_turn_166 (by decide) (fun h => zz_t h ?_) (fun h => zz_f h ?_)
                      · refine zz_aload_n F (i := 1) dX10_turn_173 rfl rfl ?_
                        refine zz_bipush F (v := (13 : Int32)) dX10_turn_174 (by decide) ?_
                        refine zz_ix fun j47 hj47 hinj47 hej47 => zz_ial F dX10_turn_176 rfl (⟨zlb rfl, zlb rfl, hi⟩) rfl hinj47 hej47 ?_
                        refine zz_sipush F (v := (200 : Int32)) dX10_turn_177 (by decide) ?_
                        refine zz_icmp_lt F (tgt := 187) dX10_turn_180 (by decide) (fun h => zz_t h ?_) (fun h => zz_f h ?_)
                        · refine zz_iconst F (v := (-1 : Int32)) dX10_turn_187 (by decide) ?_
                          exact zz_sub (zs_n (zs_k (zs_n zs_z))) (hj43 (-1 : Int32))
                        · refine zz_iconst F (v := (2 : Int32)) dX10_turn_183 (by decide) ?_
                          refine zz_goto F (tgt := 188) dX10_turn_184 (by decide) ?_
                          exact zz_sub (zs_n (zs_k (zs_n zs_z))) (hj43 (2 : Int32))
                      · refine zz_iconst F (v := (1 : Int32)) dX10_turn_169 (by decide) ?_
                        refine zz_goto F (tgt := 188) dX10_turn_170 (by decide) ?_
                        exact zz_sub (zs_n (zs_k (zs_n zs_z))) (hj43 (1 : Int32))
                    · refine zz_iconst F (v := (0 : Int32)) dX10_turn_156 (by decide) ?_
                      refine zz_goto F (tgt := 188) dX10_turn_157 (by decide) ?_
                      exact zz_sub (zs_n (zs_k (zs_n zs_z))) (hj43 (0 : Int32))
              · refine zz_aload_n F (i := 0) dX10_turn_115 rfl rfl ?_
                refine zz_getf F dX10_turn_116 wfRX10_64 zCl_9 rfl (⟨zlb rfl, zlb rfl, zlb rfl⟩) rfl (by decide) rfl rfl ?_
                refine zz_iconst F (v := (3 : Int32)) dX10_turn_119 (by decide) ?_
                refine zz_bipush F (v := (25 : Int32)) dX10_turn_120 (by decide) ?_
                refine zz_bind ?_
                refine zz_callSNr F (ρ := []) (so := fun q53 => [zi q53]) (Mo := fun q53 => [s0]) (zfMO_in (s0 0 0 12) (3 : Int32) (25 : Int32)) dX10_turn_122 wcRX10_95 wy_yX11_in rfl ⟨rel17, rfl, rfl, Nat.le_of_ble_eq_true rfl, Nat.le_of_ble_eq_true rfl, Nat.le_of_ble_eq_true rfl⟩ rfl (fun _ => rfl) (fun _ => rfl) fun q53 => ?_
                refine zz_if_ne F (tgt := 136) dX10_turn_125 (by decide) (fun h => zz_f h ?_) (fun h => zz_t h ?_)
                · refine zz_aload_n F (i := 1) dX10_turn_136 rfl rfl ?_
                  refine zz_iconst F (v := (3 : Int32)) dX10_turn_137 (by decide) ?_
                  refine zz_ix fun j54 hj54 hinj54 hej54 => zz_ial F dX10_turn_138 rfl (⟨zlb rfl, zlb rfl, hi⟩) rfl hinj54 hej54 ?_
                  refine zz_iconst F (v := (2 : Int32)) dX10_turn_139 (by decide) ?_
                  refine zz_icmp_ne F (tgt := 201) dX10_turn_140 (by decide) (fun h => zz_f h ?_) (fun h => zz_t h ?_)
                  · exact zz_return F dX10_turn_201 rfl (hκ _)
                  · refine zz_aload_n F (i := 1) dX10_turn_143 rfl rfl ?_
                    refine zz_bipush F (v := (8 : Int32)) dX10_turn_144 (by decide) ?_
                    refine zz_aload_n F (i := 1) dX10_turn_146 rfl rfl ?_
                    refine zz_bipush F (v := (11 : Int32)) dX10_turn_147 (by decide) ?_
                    refine zz_ix fun j55 hj55 hinj55 hej55 => zz_ial F dX10_turn_149 rfl (⟨zlb rfl, zlb rfl, hi⟩) rfl hinj55 hej55 ?_
                    refine zz_sipush F (v := (150 : Int32)) dX10_turn_150 (by decide) ?_
                    refine zz_join (pj := 188) (Lj := fun q56 => [none, some (zr 0 8 i), none]) (Sj := fun q56 => [zi q56, zi (8 : Int32), zr 0 8 i]) (Mj := fun q56 => [s0]) (fun q56 => ?_) (fun κ58 hj57 => ?_)
                    · refine zz_ix fun j62 hj62 hinj62 hej62 => zz_ias F (Ms' := [(zu s0 8 i j62 q56)]) dX10_turn_188 rfl (⟨zlb rfl, zlb rfl, hi⟩) rfl hinj62 hej62 rfl ?_
                      refine zz_letm (Mf := fun s0_63 => [s0_63]) fun s0_63 => ?_
                      refine zz_aload_n F (i := 1) dX10_turn_189 rfl rfl ?_
                      refine zz_bipush F (v := (8 : Int32)) dX10_turn_190 (by decide) ?_
                      refine zz_ix fun j64 hj64 hinj64 hej64 => zz_ial F dX10_turn_192 rfl (⟨zlb rfl, zlb rfl, hi⟩) rfl hinj64 hej64 ?_
                      refine zz_iconst F (v := (-1 : Int32)) dX10_turn_193 (by decide) ?_
                      refine zz_icmp_eq F (tgt := 201) dX10_turn_194 (by decide) (fun h => zz_t h ?_) (fun h => zz_f h ?_)
                      · exact zz_return F dX10_turn_201 rfl (hκ _)
                      · refine zz_aload_n F (i := 1) dX10_turn_197 rfl rfl ?_
                        refine zz_iconst F (v := (3 : Int32)) dX10_turn_198 (by decide) ?_
                        refine zz_iconst F (v := (3 : Int32)) dX10_turn_199 (by decide) ?_
                        refine zz_ix fun j65 hj65 hinj65 hej65 => zz_ias F (Ms' := [(zu s0_63 8 i j65 (3 : Int32))]) dX10_turn_200 rfl (⟨zlb rfl, zlb rfl, hi⟩) rfl hinj65 hej65 rfl ?_
                        refine zz_letm (Mf := fun s0_66 => [s0_66]) fun s0_66 => ?_
                        exact zz_return F dX10_turn_201 rfl (hκ _)
                    · refine zz_icmp_lt F (tgt := 160) dX10_turn_153 (by decide) (fun h => zz_t h ?_) (fun h => zz_f h ?_)
                      · refine zz_aload_n F (i := 1) dX10_turn_160 rfl rfl ?_
                        refine zz_bipush F (v := (12 : Int32)) dX10_turn_161 (by decide) ?_
                        refine zz_ix fun j60 hj60 hinj60 hej60 => zz_ial F dX10_turn_163 rfl (⟨zlb rfl, zlb rfl, hi⟩) rfl hinj60 hej60 ?_
                        refine zz_bipush F (v := (120 : Int32)) dX10_turn_164 (by decide) ?_
                        refine zz_icmp_lt F (tgt := 173) dX10_turn_166 (by decide) (fun h => zz_t h ?_) (fun h => zz_f h ?_)
                        · refine zz_aload_n F (i := 1) dX10_turn_173 rfl rfl ?_
                          refine zz_bipush F (v := (13 : Int32)) dX10_turn_174 (by decide) ?_
                          refine zz_ix fun j61 hj61 hinj61 hej61 => zz_ial F dX10_turn_176 rfl (⟨zlb rfl, zlb rfl, hi⟩) rfl hinj61 hej61 ?_
                          refine zz_sipush F (v := (200 : Int32)) dX10_turn_177 (by decide) ?_
                          refine zz_icmp_lt F (tgt := 187) dX10_turn_180 (by decide) (fun h => zz_t h ?_) (fun h => zz_f h ?_)
                          · refine zz_iconst F (v := (-1 : Int32)) dX10_turn_187 (by decide) ?_
                            exact zz_sub (zs_n (zs_k (zs_n zs_z))) (hj57 (-1 : Int32))
                          · refine zz_iconst F (v := (2 : Int32)) dX10_turn_183 (by decide) ?_
                            refine zz_goto F (tgt := 188) dX10_turn_184 (by decide) ?_
                            exact zz_sub (zs_n (zs_k (zs_n zs_z))) (hj57 (2 : Int32))
                        · refine zz_iconst F (v := (1 : Int32)) dX10_turn_169 (by decide) ?_
                          refine zz_goto F (tgt := 188) dX10_turn_170 (by decide) ?_
                          exact zz_sub (zs_n (zs_k (zs_n zs_z))) (hj57 (1 : Int32))
                      · refine zz_iconst F (v := (0 : Int32)) dX10_turn_156 (by decide) ?_
                        refine zz_goto F (tgt := 188) dX10_turn_157 (by decide) ?_
                        exact zz_sub (zs_n (zs_k (zs_n zs_z))) (hj57 (0 : Int32))
                · refine zz_aload_n F (i := 1) dX10_turn_128 rfl rfl ?_
                  refine zz_iconst F (v := (0 : Int32)) dX10_turn_129 (by decide) ?_
                  refine zz_bind ?_
                  refine zz_callSr F (ρ := [0]) (so := fun q67 => []) (Mo := fun q67 => [q67]) (zfMS_stop i (0 : Int32) hi s0) dX10_turn_130 wcRX10_143 wy_yX10_stop rfl ⟨rel18, rfl, rfl, Nat.le_of_ble_eq_true rfl, Nat.le_of_ble_eq_true rfl, Nat.le_of_ble_eq_true rfl⟩ rfl (fun _ => rfl) (fun _ => rfl) fun q67 => ?_
                  refine zz_goto F (tgt := 201) dX10_turn_133 (by decide) ?_
                  exact zz_return F dX10_turn_201 rfl (hκ _)
            · refine zz_aload_n F (i := 0) dX10_turn_88 rfl rfl ?_
              refine zz_getf F dX10_turn_89 wfRX10_64 zCl_9 rfl (⟨zlb rfl, zlb rfl, zlb rfl⟩) rfl (by decide) rfl rfl ?_
              refine zz_iconst F (v := (4 : Int32)) dX10_turn_92 (by decide) ?_
              refine zz_bipush F (v := (22 : Int32)) dX10_turn_93 (by decide) ?_
              refine zz_bind ?_
              refine zz_callSNr F (ρ := []) (so := fun q68 => [zi q68]) (Mo := fun q68 => [s0]) (zfMO_in (s0 0 0 12) (4 : Int32) (22 : Int32)) dX10_turn_95 wcRX10_95 wy_yX11_in rfl ⟨rel17, rfl, rfl, Nat.le_of_ble_eq_true rfl, Nat.le_of_ble_eq_true rfl, Nat.le_of_ble_eq_true rfl⟩ rfl (fun _ => rfl) (fun _ => rfl) fun q68 => ?_
              refine zz_if_eq F (tgt := 201) dX10_turn_98 (by decide) (fun h => zz_t h ?_) (fun h => zz_f h ?_)
              · exact zz_return F dX10_turn_201 rfl (hκ _)
              · refine zz_aload_n F (i := 1) dX10_turn_101 rfl rfl ?_
                refine zz_bind ?_
                refine zz_callSr F (ρ := [0]) (so := fun q69 => []) (Mo := fun q69 => [q69]) (zfMS_start i hi s0) dX10_turn_102 wcRX10_147 wy_yX10_start rfl ⟨rel18, rfl, rfl, Nat.le_of_ble_eq_true rfl, Nat.le_of_ble_eq_true rfl, Nat.le_of_ble_eq_true rfl⟩ rfl (fun _ => rfl) (fun _ => rfl) fun q69 => ?_
                refine zz_goto F (tgt := 201) dX10_turn_105 (by decide) ?_
                exact zz_return F dX10_turn_201 rfl (hκ _)
        · refine zz_aload_n F (i := 1) dX10_turn_68 rfl rfl ?_
          refine zz_iconst F (v := (3 : Int32)) dX10_turn_69 (by decide) ?_
          refine zz_iconst F (v := (2 : Int32)) dX10_turn_70 (by decide) ?_
          refine zz_ix fun j70 hj70 hinj70 hej70 => zz_ias F (Ms' := [(zu s0 8 i j70 (2 : Int32))]) dX10_turn_71 rfl (⟨zlb rfl, zlb rfl, hi⟩) rfl hinj70 hej70 rfl ?_
          refine zz_letm (Mf := fun s0_71 => [s0_71]) fun s0_71 => ?_
          refine zz_goto F (tgt := 201) dX10_turn_72 (by decide) ?_
          exact zz_return F dX10_turn_201 rfl (hκ _)
      · refine zz_aload_n F (i := 1) dX10_turn_42 rfl rfl ?_
        refine zz_bipush F (v := (10 : Int32)) dX10_turn_43 (by decide) ?_
        refine zz_ix fun j72 hj72 hinj72 hej72 => zz_ial F dX10_turn_45 rfl (⟨zlb rfl, zlb rfl, hi⟩) rfl hinj72 hej72 ?_
        refine zz_iconst F (v := (2 : Int32)) dX10_turn_46 (by decide) ?_
        refine zz_icmp_ne F (tgt := 61) dX10_turn_47 (by decide) (fun h => zz_f h ?_) (fun h => zz_t h ?_)
        · refine zz_aload_n F (i := 1) dX10_turn_61 rfl rfl ?_
          refine zz_iconst F (v := (3 : Int32)) dX10_turn_62 (by decide) ?_
          refine zz_ix fun j73 hj73 hinj73 hej73 => zz_ial F dX10_turn_63 rfl (⟨zlb rfl, zlb rfl, hi⟩) rfl hinj73 hej73 ?_
          refine zz_iconst F (v := (1 : Int32)) dX10_turn_64 (by decide) ?_
          refine zz_icmp_ne F (tgt := 75) dX10_turn_65 (by decide) (fun h => zz_f h ?_) (fun h => zz_t h ?_)
          · refine zz_aload_n F (i := 1) dX10_turn_75 rfl rfl ?_
            refine zz_iconst F (v := (3 : Int32)) dX10_turn_76 (by decide) ?_
            refine zz_ix fun j74 hj74 hinj74 hej74 => zz_ial F dX10_turn_77 rfl (⟨zlb rfl, zlb rfl, hi⟩) rfl hinj74 hej74 ?_
            refine zz_if_ne F (tgt := 108) dX10_turn_78 (by decide) (fun h => zz_f h ?_) (fun h => zz_t h ?_)
            · refine zz_aload_n F (i := 1) dX10_turn_108 rfl rfl ?_
              refine zz_iconst F (v := (3 : Int32)) dX10_turn_109 (by decide) ?_
              refine zz_ix fun j75 hj75 hinj75 hej75 => zz_ial F dX10_turn_110 rfl (⟨zlb rfl, zlb rfl, hi⟩) rfl hinj75 hej75 ?_
              refine zz_iconst F (v := (2 : Int32)) dX10_turn_111 (by decide) ?_
              refine zz_icmp_ne F (tgt := 136) dX10_turn_112 (by decide) (fun h => zz_f h ?_) (fun h => zz_t h ?_)
              · refine zz_aload_n F (i := 1) dX10_turn_136 rfl rfl ?_
                refine zz_iconst F (v := (3 : Int32)) dX10_turn_137 (by decide) ?_
                refine zz_ix fun j76 hj76 hinj76 hej76 => zz_ial F dX10_turn_138 rfl (⟨zlb rfl, zlb rfl, hi⟩) rfl hinj76 hej76 ?_
                refine zz_iconst F (v := (2 : Int32)) dX10_turn_139 (by decide) ?_
                refine zz_icmp_ne F (tgt := 201) dX10_turn_140 (by decide) (fun h => zz_f h ?_) (fun h => zz_t h ?_)
                · exact zz_return F dX10_turn_201 rfl (hκ _)
                · refine zz_aload_n F (i := 1) dX10_turn_143 rfl rfl ?_
                  refine zz_bipush F (v := (8 : Int32)) dX10_turn_144 (by decide) ?_
                  refine zz_aload_n F (i := 1) dX10_turn_146 rfl rfl ?_
                  refine zz_bipush F (v := (11 : Int32)) dX10_turn_147 (by decide) ?_
                  refine zz_ix fun j77 hj77 hinj77 hej77 => zz_ial F dX10_turn_149 rfl (⟨zlb rfl, zlb rfl, hi⟩) rfl hinj77 hej77 ?_
                  refine zz_sipush F (v := (150 : Int32)) dX10_turn_150 (by decide) ?_
                  refine zz_join (pj := 188) (Lj := fun q78 => [none, some (zr 0 8 i), none]) (Sj := fun q78 => [zi q78, zi (8 : Int32), zr 0 8 i]) (Mj := fun q78 => [s0]) (fun q78 => ?_) (fun κ80 hj79 => ?_)
                  · refine zz_ix fun j84 hj84 hinj84 hej84 => zz_ias F (Ms' := [(zu s0 8 i j84 q78)]) dX10_turn_188 rfl (⟨zlb rfl, zlb rfl, hi⟩) rfl hinj84 hej84 rfl ?_
                    refine zz_letm (Mf := fun s0_85 => [s0_85]) fun s0_85 => ?_
                    refine zz_aload_n F (i := 1) dX10_turn_189 rfl rfl ?_
                    refine zz_bipush F (v := (8 : Int32)) dX10_turn_190 (by decide) ?_
                    refine zz_ix fun j86 hj86 hinj86 hej86 => zz_ial F dX10_turn_192 rfl (⟨zlb rfl, zlb rfl, hi⟩) rfl hinj86 hej86 ?_
                    refine zz_iconst F (v := (-1 : Int32)) dX10_turn_193 (by decide) ?_
                    refine zz_icmp_eq F (tgt := 201) dX10_turn_194 (by decide) (fun h => zz_t h ?_) (fun h => zz_f h ?_)
                    · exact zz_return F dX10_turn_201 rfl (hκ _)
                    · refine zz_aload_n F (i := 1) dX10_turn_197 rfl rfl ?_
                      refine zz_iconst F (v := (3 : Int32)) dX10_turn_198 (by decide) ?_
                      refine zz_iconst F (v := (3 : Int32)) dX10_turn_199 (by decide) ?_
                      refine zz_ix fun j87 hj87 hinj87 hej87 => zz_ias F (Ms' := [(zu s0_85 8 i j87 (3 : Int32))]) dX10_turn_200 rfl (⟨zlb rfl, zlb rfl, hi⟩) rfl hinj87 hej87 rfl ?_
                      refine zz_letm (Mf := fun s0_88 => [s0_88]) fun s0_88 => ?_
                      exact zz_return F dX10_turn_201 rfl (hκ _)
                  · refine zz_icmp_lt F (tgt := 160) dX10_turn_153 (by decide) (fun h => zz_t h ?_) (fun h => zz_f h ?_)
                    · refine zz_aload_n F (i := 1) dX10_turn_160 rfl rfl ?_
                      refine zz_bipush F (v := (12 : Int32)) dX10_turn_161 (by decide) ?_
                      refine zz_ix fun j82 hj82 hinj82 hej82 => zz_ial F dX10_turn_163 rfl (⟨zlb rfl, zlb rfl, hi⟩) rfl hinj82 hej82 ?_
                      refine zz_bipush F (v := (120 : Int32)) dX10_turn_164 (by decide) ?_
                      refine zz_icmp_lt F (tgt := 173) dX10_turn_166 (by decide) (fun h => zz_t h ?_) (fun h => zz_f h ?_)
                      · refine zz_aload_n F (i := 1) dX10_turn_173 rfl rfl ?_
                        refine zz_bipush F (v := (13 : Int32)) dX10_turn_174 (by decide) ?_
                        refine zz_ix fun j83 hj83 hinj83 hej83 => zz_ial F dX10_turn_176 rfl (⟨zlb rfl, zlb rfl, hi⟩) rfl hinj83 hej83 ?_
                        refine zz_sipush F (v := (200 : Int32)) dX10_turn_177 (by decide) ?_
                        refine zz_icmp_lt F (tgt := 187) dX10_turn_180 (by decide) (fun h => zz_t h ?_) (fun h => zz_f h ?_)
                        · refine zz_iconst F (v := (-1 : Int32)) dX10_turn_187 (by decide) ?_
                          exact zz_sub (zs_n (zs_k (zs_n zs_z))) (hj79 (-1 : Int32))
                        · refine zz_iconst F (v := (2 : Int32)) dX10_turn_183 (by decide) ?_
                          refine zz_goto F (tgt := 188) dX10_turn_184 (by decide) ?_
                          exact zz_sub (zs_n (zs_k (zs_n zs_z))) (hj79 (2 : Int32))
                      · refine zz_iconst F (v := (1 : Int32)) dX10_turn_169 (by decide) ?_
                        refine zz_goto F (tgt := 188) dX10_turn_170 (by decide) ?_
                        exact zz_sub (zs_n (zs_k (zs_n zs_z))) (hj79 (1 : Int32))
                    · refine zz_iconst F (v := (0 : Int32)) dX10_turn_156 (by decide) ?_
                      refine zz_goto F (tgt := 188) dX10_turn_157 (by decide) ?_
                      exact zz_sub (zs_n (zs_k (zs_n zs_z))) (hj79 (0 : Int32))
              · refine zz_aload_n F (i := 0) dX10_turn_115 rfl rfl ?_
                refine zz_getf F dX10_turn_116 wfRX10_64 zCl_9 rfl (⟨zlb rfl, zlb rfl, zlb rfl⟩) rfl (by decide) rfl rfl ?_
                refine zz_iconst F (v := (3 : Int32)) dX10_turn_119 (by decide) ?_
                refine zz_bipush F (v := (25 : Int32)) dX10_turn_120 (by decide) ?_
                refine zz_bind ?_
                refine zz_callSNr F (ρ := []) (so := fun q89 => [zi q89]) (Mo := fun q89 => [s0]) (zfMO_in (s0 0 0 12) (3 : Int32) (25 : Int32)) dX10_turn_122 wcRX10_95 wy_yX11_in rfl ⟨rel17, rfl, rfl, Nat.le_of_ble_eq_true rfl, Nat.le_of_ble_eq_true rfl, Nat.le_of_ble_eq_true rfl⟩ rfl (fun _ => rfl) (fun _ => rfl) fun q89 => ?_
                refine zz_if_ne F (tgt := 136) dX10_turn_125 (by decide) (fun h => zz_f h ?_) (fun h => zz_t h ?_)
                · refine zz_aload_n F (i := 1) dX10_turn_136 rfl rfl ?_
                  refine zz_iconst F (v := (3 : Int32)) dX10_turn_137 (by decide) ?_
                  refine zz_ix fun j90 hj90 hinj90 hej90 => zz_ial F dX10_turn_138 rfl (⟨zlb rfl, zlb rfl, hi⟩) rfl hinj90 hej90 ?_
                  refine zz_iconst F (v := (2 : Int32)) dX10_turn_139 (by decide) ?_
                  refine zz_icmp_ne F (tgt := 201) dX10_turn_140 (by decide) (fun h => zz_f h ?_) (fun h => zz_t h ?_)
                  · exact zz_return F dX10_turn_201 rfl (hκ _)
                  · refine zz_aload_n F (i := 1) dX10_turn_143 rfl rfl ?_
                    refine zz_bipush F (v := (8 : Int32)) dX10_turn_144 (by decide) ?_
                    refine zz_aload_n F (i := 1) dX10_turn_146 rfl rfl ?_
                    refine zz_bipush F (v := (11 : Int32)) dX10_turn_147 (by decide) ?_
                    refine zz_ix fun j91 hj91 hinj91 hej91 => zz_ial F dX10_turn_149 rfl (⟨zlb rfl, zlb rfl, hi⟩) rfl hinj91 hej91 ?_
                    refine zz_sipush F (v := (150 : Int32)) dX10_turn_150 (by decide) ?_
                    refine zz_join (pj := 188) (Lj := fun q92 => [none, some (zr 0 8 i), none]) (Sj := fun q92 => [zi q92, zi (8 : Int32), zr 0 8 i]) (Mj := fun q92 => [s0]) (fun q92 => ?_) (fun κ94 hj93 => ?_)
                    · refine zz_ix fun j98 hj98 hinj98 hej98 => zz_ias F (Ms' := [(zu s0 8 i j98 q92)]) dX10_turn_188 rfl (⟨zlb rfl, zlb rfl, hi⟩) rfl hinj98 hej98 rfl ?_
                      refine zz_letm (Mf := fun s0_99 => [s0_99]) fun s0_99 => ?_
                      refine zz_aload_n F (i := 1) dX10_turn_189 rfl rfl ?_
                      refine zz_bipush F (v := (8 : Int32)) dX10_turn_190 (by decide) ?_
                      refine zz_ix fun j100 hj100 hinj100 hej100 => zz_ial F dX10_turn_192 rfl (⟨zlb rfl, zlb rfl, hi⟩) rfl hinj100 hej100 ?_
                      refine zz_iconst F (v := (-1 : Int32)) dX10_turn_193 (by decide) ?_
                      refine zz_icmp_eq F (tgt := 201) dX10_turn_194 (by decide) (fun h => zz_t h ?_) (fun h => zz_f h ?_)
                      · exact zz_return F dX10_turn_201 rfl (hκ _)
                      · refine zz_aload_n F (i := 1) dX10_turn_197 rfl rfl ?_
                        refine zz_iconst F (v := (3 : Int32)) dX10_turn_198 (by decide) ?_
                        refine zz_iconst F (v := (3 : Int32)) dX10_turn_199 (by decide) ?_
                        refine zz_ix fun j101 hj101 hinj101 hej101 => zz_ias F (Ms' := [(zu s0_99 8 i j101 (3 : Int32))]) dX10_turn_200 rfl (⟨zlb rfl, zlb rfl, hi⟩) rfl hinj101 hej101 rfl ?_
                        refine zz_letm (Mf := fun s0_102 => [s0_102]) fun s0_102 => ?_
                        exact zz_return F dX10_turn_201 rfl (hκ _)
                    · refine zz_icmp_lt F (tgt := 160) dX10_turn_153 (by decide) (fun h => zz_t h ?_) (fun h => zz_f h ?_)
                      · refine zz_aload_n F (i := 1) dX10_turn_160 rfl rfl ?_
                        refine zz_bipush F (v := (12 : Int32)) dX10_turn_161 (by decide) ?_
                        refine zz_ix fun j96 hj96 hinj96 hej96 => zz_ial F dX10_turn_163 rfl (⟨zlb rfl, zlb rfl, hi⟩) rfl hinj96 hej96 ?_
                        refine zz_bipush F (v := (120 : Int32)) dX10_turn_164 (by decide) ?_
                        refine zz_icmp_lt F (tgt := 173) dX10_turn_166 (by decide) (fun h => zz_t h ?_) (fun h => zz_f h ?_)
                        · refine zz_aload_n F (i := 1) dX10_turn_173 rfl rfl ?_
                          refine zz_bipush F (v := (13 : Int32)) dX10_turn_174 (by decide) ?_
                          refine zz_ix fun j97 hj97 hinj97 hej97 => zz_ial F dX10_turn_176 rfl (⟨zlb rfl, zlb rfl, hi⟩) rfl hinj97 hej97 ?_
                          refine zz_sipush F (v := (200 : Int32)) dX10_turn_177 (by decide) ?_
                          refine zz_icmp_lt F (tgt := 187) dX10_turn_180 (by decide) (fun h => zz_t h ?_) (fun h => zz_f h ?_)
                          · refine zz_iconst F (v := (-1 : Int32)) dX10_turn_187 (by decide) ?_
                            exact zz_sub (zs_n (zs_k (zs_n zs_z))) (hj93 (-1 : Int32))
                          · refine zz_iconst F (v := (2 : Int32)) dX10_turn_183 (by decide) ?_
                            refine zz_goto F (tgt := 188) dX10_turn_184 (by decide) ?_
                            exact zz_sub (zs_n (zs_k (zs_n zs_z))) (hj93 (2 : Int32))
                        · refine zz_iconst F (v := (1 : Int32)) dX10_turn_169 (by decide) ?_
                          refine zz_goto F (tgt := 188) dX10_turn_170 (by decide) ?_
                          exact zz_sub (zs_n (zs_k (zs_n zs_z))) (hj93 (1 : Int32))
                      · refine zz_iconst F (v := (0 : Int32)) dX10_turn_156 (by decide) ?_
                        refine zz_goto F (tgt := 188) dX10_turn_157 (by decide) ?_
                        exact zz_sub (zs_n (zs_k (zs_n zs_z))) (hj93 (0 : Int32))
                · refine zz_aload_n F (i := 1) dX10_turn_128 rfl rfl ?_
                  refine zz_iconst F (v := (0 : Int32)) dX10_turn_129 (by decide) ?_
                  refine zz_bind ?_
                  refine zz_callSr F (ρ := [0]) (so := fun q103 => []) (Mo := fun q103 => [q103]) (zfMS_stop i (0 : Int32) hi s0) dX10_turn_130 wcRX10_143 wy_yX10_stop rfl ⟨rel18, rfl, rfl, Nat.le_of_ble_eq_true rfl, Nat.le_of_ble_eq_true rfl, Nat.le_of_ble_eq_true rfl⟩ rfl (fun _ => rfl) (fun _ => rfl) fun q103 => ?_
                  refine zz_goto F (tgt := 201) dX10_turn_133 (by decide) ?_
                  exact zz_return F dX10_turn_201 rfl (hκ _)
            · refine zz_aload_n F (i := 1) dX10_turn_81 rfl rfl ?_
              refine zz_bipush F (v := (10 : Int32)) dX10_turn_82 (by decide) ?_
              refine zz_ix fun j104 hj104 hinj104 hej104 => zz_ial F dX10_turn_84 rfl (⟨zlb rfl, zlb rfl, hi⟩) rfl hinj104 hej104 ?_
              refine zz_if_ne F (tgt := 108) dX10_turn_85 (by decide) (fun h => zz_f h ?_) (fun h => zz_t h ?_)
              · refine zz_aload_n F (i := 1) dX10_turn_108 rfl rfl ?_
                refine zz_iconst F (v := (3 : Int32)) dX10_turn_109 (by decide) ?_
                refine zz_ix fun j105 hj105 hinj105 hej105 => zz_ial F dX10_turn_110 rfl (⟨zlb rfl, zlb rfl, hi⟩) rfl hinj105 hej105 ?_
                refine zz_iconst F (v := (2 : Int32)) dX10_turn_111 (by decide) ?_
                refine zz_icmp_ne F (tgt := 136) dX10_turn_112 (by decide) (fun h => zz_f h ?_) (fun h => zz_t h ?_)
                · refine zz_aload_n F (i := 1) dX10_turn_136 rfl rfl ?_
                  refine zz_iconst F (v := (3 : Int32)) dX10_turn_137 (by decide) ?_
                  refine zz_ix fun j106 hj106 hinj106 hej106 => zz_ial F dX10_turn_138 rfl (⟨zlb rfl, zlb rfl, hi⟩) rfl hinj106 hej106 ?_
                  refine zz_iconst F (v := (2 : Int32)) dX10_turn_139 (by decide) ?_
                  refine zz_icmp_ne F (tgt := 201) dX10_turn_140 (by decide) (fun h => zz_f h ?_) (fun h => zz_t h ?_)
                  · exact zz_return F dX10_turn_201 rfl (hκ _)
                  · refine zz_aload_n F (i := 1) dX10_turn_143 rfl rfl ?_
                    refine zz_bipush F (v := (8 : Int32)) dX10_turn_144 (by decide) ?_
                    refine zz_aload_n F (i := 1) dX10_turn_146 rfl rfl ?_
                    refine zz_bipush F (v := (11 : Int32)) dX10_turn_147 (by decide) ?_
                    refine zz_ix fun j107 hj107 hinj107 hej107 => zz_ial F dX10_turn_149 rfl (⟨zlb rfl, zlb rfl, hi⟩) rfl hinj107 hej107 ?_
                    refine zz_sipush F (v := (150 : Int32)) dX10_turn_150 (by decide) ?_
                    refine zz_join (pj := 188) (Lj := fun q108 => [none, some (zr 0 8 i), none]) (Sj := fun q108 => [zi q108, zi (8 : Int32), zr 0 8 i]) (Mj := fun q108 => [s0]) (fun q108 => ?_) (fun κ110 hj109 => ?_)
                    · refine zz_ix fun j114 hj114 hinj114 hej114 => zz_ias F (Ms' := [(zu s0 8 i j114 q108)]) dX10_turn_188 rfl (⟨zlb rfl, zlb rfl, hi⟩) rfl hinj114 hej114 rfl ?_
                      refine zz_letm (Mf := fun s0_115 => [s0_115]) fun s0_115 => ?_
                      refine zz_aload_n F (i := 1) dX10_turn_189 rfl rfl ?_
                      refine zz_bipush F (v := (8 : Int32)) dX10_turn_190 (by decide) ?_
                      refine zz_ix fun j116 hj116 hinj116 hej116 => zz_ial F dX10_turn_192 rfl (⟨zlb rfl, zlb rfl, hi⟩) rfl hinj116 hej116 ?_
                      refine zz_iconst F (v := (-1 : Int32)) dX10_turn_193 (by decide) ?_
                      refine zz_icmp_eq F (tgt := 201) dX10_turn_194 (by decide) (fun h => zz_t h ?_) (fun h => zz_f h ?_)
                      · exact zz_return F dX10_turn_201 rfl (hκ _)
                      · refine zz_aload_n F (i := 1) dX10_turn_197 rfl rfl ?_
                        refine zz_iconst F (v := (3 : Int32)) dX10_turn_198 (by decide) ?_
                        refine zz_iconst F (v := (3 : Int32)) dX10_turn_199 (by decide) ?_
                        refine zz_ix fun j117 hj117 hinj117 hej117 => zz_ias F (Ms' := [(zu s0_115 8 i j117 (3 : Int32))]) dX10_turn_200 rfl (⟨zlb rfl, zlb rfl, hi⟩) rfl hinj117 hej117 rfl ?_
                        refine zz_letm (Mf := fun s0_118 => [s0_118]) fun s0_118 => ?_
                        exact zz_return F dX10_turn_201 rfl (hκ _)
                    · refine zz_icmp_lt F (tgt := 160) dX10_turn_153 (by decide) (fun h => zz_t h ?_) (fun h => zz_f h ?_)
                      · refine zz_aload_n F (i := 1) dX10_turn_160 rfl rfl ?_
                        refine zz_bipush F (v := (12 : Int32)) dX10_turn_161 (by decide) ?_
                        refine zz_ix fun j112 hj112 hinj112 hej112 => zz_ial F dX10_turn_163 rfl (⟨zlb rfl, zlb rfl, hi⟩) rfl hinj112 hej112 ?_
                        refine zz_bipush F (v := (120 : Int32)) dX10_turn_164 (by decide) ?_
                        refine zz_icmp_lt F (tgt := 173) dX10_turn_166 (by decide) (fun h => zz_t h ?_) (fun h => zz_f h ?_)
                        · refine zz_aload_n F (i := 1) dX10_turn_173 rfl rfl ?_
                          refine zz_bipush F (v := (13 : Int32)) dX10_turn_174 (by decide) ?_
                          refine zz_ix fun j113 hj113 hinj113 hej113 => zz_ial F dX10_turn_176 rfl (⟨zlb rfl, zlb rfl, hi⟩) rfl hinj113 hej113 ?_
                          refine zz_sipush F (v := (200 : Int32)) dX10_turn_177 (by decide) ?_
                          refine zz_icmp_lt F (tgt := 187) dX10_turn_180 (by decide) (fun h => zz_t h ?_) (fun h => zz_f h ?_)
                          · refine zz_iconst F (v := (-1 : Int32)) dX10_turn_187 (by decide) ?_
                            exact zz_sub (zs_n (zs_k (zs_n zs_z))) (hj109 (-1 : Int32))
                          · refine zz_iconst F (v := (2 : Int32)) dX10_turn_183 (by decide) ?_
                            refine zz_goto F (tgt := 188) dX10_turn_184 (by decide) ?_
                            exact zz_sub (zs_n (zs_k (zs_n zs_z))) (hj109 (2 : Int32))
                        · refine zz_iconst F (v := (1 : Int32)) dX10_turn_169 (by decide) ?_
                          refine zz_goto F (tgt := 188) dX10_turn_170 (by decide) ?_
                          exact zz_sub (zs_n (zs_k (zs_n zs_z))) (hj109 (1 : Int32))
                      · refine zz_iconst F (v := (0 : Int32)) dX10_turn_156 (by decide) ?_
                        refine zz_goto F (tgt := 188) dX10_turn_157 (by decide) ?_
                        exact zz_sub (zs_n (zs_k (zs_n zs_z))) (hj109 (0 : Int32))
                · refine zz_aload_n F (i := 0) dX10_turn_115 rfl rfl ?_
                  refine zz_getf F dX10_turn_116 wfRX10_64 zCl_9 rfl (⟨zlb rfl, zlb rfl, zlb rfl⟩) rfl (by decide) rfl rfl ?_
                  refine zz_iconst F (v := (3 : Int32)) dX10_turn_119 (by decide) ?_
                  refine zz_bipush F (v := (25 : Int32)) dX10_turn_120 (by decide) ?_
                  refine zz_bind ?_
                  refine zz_callSNr F (ρ := []) (so := fun q119 => [zi q119]) (Mo := fun q119 => [s0]) (zfMO_in (s0 0 0 12) (3 : Int32) (25 : Int32)) dX10_turn_122 wcRX10_95 wy_yX11_in rfl ⟨rel17, rfl, rfl, Nat.le_of_ble_eq_true rfl, Nat.le_of_ble_eq_true rfl, Nat.le_of_ble_eq_true rfl⟩ rfl (fun _ => rfl) (fun _ => rfl) fun q119 => ?_
                  refine zz_if_ne F (tgt := 136) dX10_turn_125 (by decide) (fun h => zz_f h ?_) (fun h => zz_t h ?_)
                  · refine zz_aload_n F (i := 1) dX10_turn_136 rfl rfl ?_
                    refine zz_iconst F (v := (3 : Int32)) dX10_turn_137 (by decide) ?_
                    refine zz_ix fun j120 hj120 hinj120 hej120 => zz_ial F dX10_turn_138 rfl (⟨zlb rfl, zlb rfl, hi⟩) rfl hinj120 hej120 ?_
                    refine zz_iconst F (v := (2 : Int32)) dX10_turn_139 (by decide) ?_
                    refine zz_icmp_ne F (tgt := 201) dX10_turn_140 (by decide) (fun h => zz_f h ?_) (fun h => zz_t h ?_)
                    · exact zz_return F dX10_turn_201 rfl (hκ _)
                    · refine zz_aload_n F (i := 1) dX10_turn_143 rfl rfl ?_
                      refine zz_bipush F (v := (8 : Int32)) dX10_turn_144 (by decide) ?_
                      refine zz_aload_n F (i := 1) dX10_turn_146 rfl rfl ?_
                      refine zz_bipush F (v := (11 : Int32)) dX10_turn_147 (by decide) ?_
                      refine zz_ix fun j121 hj121 hinj121 hej121 => zz_ial F dX10_turn_149 rfl (⟨zlb rfl, zlb rfl, hi⟩) rfl hinj121 hej121 ?_
                      refine zz_sipush F (v := (150 : Int32)) dX10_turn_150 (by decide) ?_
                      refine zz_join (pj := 188) (Lj := fun q122 => [none, some (zr 0 8 i), none]) (Sj := fun q122 => [zi q122, zi (8 : Int32), zr 0 8 i]) (Mj := fun q122 => [s0]) (fun q122 => ?_) (fun κ124 hj123 => ?_)
                      · refine zz_ix fun j128 hj128 hinj128 hej128 => zz_ias F (Ms' := [(zu s0 8 i j128 q122)]) dX10_turn_188 rfl (⟨zlb rfl, zlb rfl, hi⟩) rfl hinj128 hej128 rfl ?_
                        refine zz_letm (Mf := fun s0_129 => [s0_129]) fun s0_129 => ?_
                        refine zz_aload_n F (i := 1) dX10_turn_189 rfl rfl ?_
                        refine zz_bipush F (v := (8 : Int32)) dX10_turn_190 (by decide) ?_
                        refine zz_ix fun j130 hj130 hinj130 hej130 => zz_ial F dX10_turn_192 rfl (⟨zlb rfl, zlb rfl, hi⟩) rfl hinj130 hej130 ?_
                        refine zz_iconst F (v := (-1 : Int32)) dX10_turn_193 (by decide) ?_
                        refine zz_icmp_eq F (tgt := 201) dX10_turn_194 (by decide) (fun h => zz_t h ?_) (fun h => zz_f h ?_)
                        · exact zz_return F dX10_turn_201 rfl (hκ _)
                        · refine zz_aload_n F (i := 1) dX10_turn_197 rfl rfl ?_
                          refine zz_iconst F (v := (3 : Int32)) dX10_turn_198 (by decide) ?_
                          refine zz_iconst F (v := (3 : Int32)) dX10_turn_199 (by decide) ?_
                          refine zz_ix fun j131 hj131 hinj131 hej131 => zz_ias F (Ms' := [(zu s0_129 8 i j131 (3 : Int32))]) dX10_turn_200 rfl (⟨zlb rfl, zlb rfl, hi⟩) rfl hinj131 hej131 rfl ?_
                          refine zz_letm (Mf := fun s0_132 => [s0_132]) fun s0_132 => ?_
                          exact zz_return F dX10_turn_201 rfl (hκ _)
                      · refine zz_icmp_lt F (tgt := 160) dX10_turn_153 (by decide) (fun h => zz_t h ?_) (fun h => zz_f h ?_)
                        · refine zz_aload_n F (i := 1) dX10_turn_160 rfl rfl ?_
                          refine zz_bipush F (v := (12 : Int32)) dX10_turn_161 (by decide) ?_
                          refine zz_ix fun j126 hj126 hinj126 hej126 => zz_ial F dX10_turn_163 rfl (⟨zlb rfl, zlb rfl, hi⟩) rfl hinj126 hej126 ?_
                          refine zz_bipush F (v := (120 : Int32)) dX10_turn_164 (by decide) ?_
                          refine zz_icmp_lt F (tgt := 173) dX10_turn_166 (by decide) (fun h => zz_t h ?_) (fun h => zz_f h ?_)
                          · refine zz_aload_n F (i := 1) dX10_turn_173 rfl rfl ?_
                            refine zz_bipush F (v := (13 : Int32)) dX10_turn_174 (by decide) ?_
                            refine zz_ix fun j127 hj127 hinj127 hej127 => zz_ial F dX10_turn_176 rfl (⟨zlb rfl, zlb rfl, hi⟩) rfl hinj127 hej127 ?_
                            refine zz_sipush F (v := (200 : Int32)) dX10_turn_177 (by decide) ?_
                            refine zz_icmp_lt F (tgt := 187) dX10_turn_180 (by decide) (fun h => zz_t h ?_) (fun h => zz_f h ?_)
                            · refine zz_iconst F (v := (-1 : Int32)) dX10_turn_187 (by decide) ?_
                              exact zz_sub (zs_n (zs_k (zs_n zs_z))) (hj123 (-1 : Int32))
                            · refine zz_iconst F (v := (2 : Int32)) dX10_turn_183 (by decide) ?_
                              refine zz_goto F (tgt := 188) dX10_turn_184 (by decide) ?_
                              exact zz_sub (zs_n (zs_k (zs_n zs_z))) (hj123 (2 : Int32))
                          · refine zz_iconst F (v := (1 : Int32)) dX10_turn_169 (by decide) ?_
                            refine zz_goto F (tgt := 188) dX10_turn_170 (by decide) ?_
                            exact zz_sub (zs_n (zs_k (zs_n zs_z))) (hj123 (1 : Int32))
                        · refine zz_iconst F (v := (0 : Int32)) dX10_turn_156 (by decide) ?_
                          refine zz_goto F (tgt := 188) dX10_turn_157 (by decide) ?_
                          exact zz_sub (zs_n (zs_k (zs_n zs_z))) (hj123 (0 : Int32))
                  · refine zz_aload_n F (i := 1) dX10_turn_128 rfl rfl ?_
                    refine zz_iconst F (v := (0 : Int32)) dX10_turn_129 (by decide) ?_
                    refine zz_bind ?_
                    refine zz_callSr F (ρ := [0]) (so := fun q133 => []) (Mo := fun q133 => [q133]) (zfMS_stop i (0 : Int32) hi s0) dX10_turn_130 wcRX10_143 wy_yX10_stop rfl ⟨rel18, rfl, rfl, Nat.le_of_ble_eq_true rfl, Nat.le_of_ble_eq_true rfl, Nat.le_of_ble_eq_true rfl⟩ rfl (fun _ => rfl) (fun _ => rfl) fun q133 => ?_
                    refine zz_goto F (tgt := 201) dX10_turn_133 (by decide) ?_
                    exact zz_return F dX10_turn_201 rfl (hκ _)
              · refine zz_aload_n F (i := 0) dX10_turn_88 rfl rfl ?_
                refine zz_getf F dX10_turn_89 wfRX10_64 zCl_9 rfl (⟨zlb rfl, zlb rfl, zlb rfl⟩) rfl (by decide) rfl rfl ?_
                refine zz_iconst F (v := (4 : Int32)) dX10_turn_92 (by decide) ?_
                refine zz_bipush F (v := (22 : Int32)) dX10_turn_93 (by decide) ?_
                refine zz_bind ?_
                refine zz_callSNr F (ρ := []) (so := fun q134 => [zi q134]) (Mo := fun q134 => [s0]) (zfMO_in (s0 0 0 12) (4 : Int32) (22 : Int32)) dX10_turn_95 wcRX10_95 wy_yX11_in rfl ⟨rel17, rfl, rfl, Nat.le_of_ble_eq_true rfl, Nat.le_of_ble_eq_true rfl, Nat.le_of_ble_eq_true rfl⟩ rfl (fun _ => rfl) (fun _ => rfl) fun q134 => ?_
                refine zz_if_eq F (tgt := 201) dX10_turn_98 (by decide) (fun h => zz_t h ?_) (fun h => zz_f h ?_)
                · exact zz_return F dX10_turn_201 rfl (hκ _)
                · refine zz_aload_n F (i := 1) dX10_turn_101 rfl rfl ?_
                  refine zz_bind ?_
                  refine zz_callSr F (ρ := [0]) (so := fun q135 => []) (Mo := fun q135 => [q135]) (zfMS_start i hi s0) dX10_turn_102 wcRX10_147 wy_yX10_start rfl ⟨rel18, rfl, rfl, Nat.le_of_ble_eq_true rfl, Nat.le_of_ble_eq_true rfl, Nat.le_of_ble_eq_true rfl⟩ rfl (fun _ => rfl) (fun _ => rfl) fun q135 => ?_
                  refine zz_goto F (tgt := 201) dX10_turn_105 (by decide) ?_
                  exact zz_return F dX10_turn_201 rfl (hκ _)
          · refine zz_aload_n F (i := 1) dX10_turn_68 rfl rfl ?_
            refine zz_iconst F (v := (3 : Int32)) dX10_turn_69 (by decide) ?_
            refine zz_iconst F (v := (2 : Int32)) dX10_turn_70 (by decide) ?_
            refine zz_ix fun j136 hj136 hinj136 hej136 => zz_ias F (Ms' := [(zu s0 8 i j136 (2 : Int32))]) dX10_turn_71 rfl (⟨zlb rfl, zlb rfl, hi⟩) rfl hinj136 hej136 rfl ?_
            refine zz_letm (Mf := fun s0_137 => [s0_137]) fun s0_137 => ?_
            refine zz_goto F (tgt := 201) dX10_turn_72 (by decide) ?_
            exact zz_return F dX10_turn_201 rfl (hκ _)
        · refine zz_iload_n F (i := 2) dX10_turn_50 rfl rfl ?_
          refine zz_if_ne F (tgt := 61) dX10_turn_51 (by decide) (fun h => zz_f h ?_) (fun h => zz_t h ?_)
          · refine zz_aload_n F (i := 1) dX10_turn_61 rfl rfl ?_
            refine zz_iconst F (v := (3 : Int32)) dX10_turn_62 (by decide) ?_
            refine zz_ix fun j138 hj138 hinj138 hej138 => zz_ial F dX10_turn_63 rfl (⟨zlb rfl, zlb rfl, hi⟩) rfl hinj138 hej138 ?_
            refine zz_iconst F (v := (1 : Int32)) dX10_turn_64 (by decide) ?_
            refine zz_icmp_ne F (tgt := 75) dX10_turn_65 (by decide) (fun h => zz_f h ?_) (fun h => zz_t h ?_)
            · refine zz_aload_n F (i := 1) dX10_turn_75 rfl rfl ?_
              refine zz_iconst F (v := (3 : Int32)) dX10_turn_76 (by decide) ?_
              refine zz_ix fun j139 hj139 hinj139 hej139 => zz_ial F dX10_turn_77 rfl (⟨zlb rfl, zlb rfl, hi⟩) rfl hinj139 hej139 ?_
              refine zz_if_ne F (tgt := 108) dX10_turn_78 (by decide) (fun h => zz_f h ?_) (fun h => zz_t h ?_)
              · refine zz_aload_n F (i := 1) dX10_turn_108 rfl rfl ?_
                refine zz_iconst F (v := (3 : Int32)) dX10_turn_109 (by decide) ?_
                refine zz_ix fun j140 hj140 hinj140 hej140 => zz_ial F dX10_turn_110 rfl (⟨zlb rfl, zlb rfl, hi⟩) rfl hinj140 hej140 ?_
                refine zz_iconst F (v := (2 : Int32)) dX10_turn_111 (by decide) ?_
                refine zz_icmp_ne F (tgt := 136) dX10_turn_112 (by decide) (fun h => zz_f h ?_) (fun h => zz_t h ?_)
                · refine zz_aload_n F (i := 1) dX10_turn_136 rfl rfl ?_
                  refine zz_iconst F (v := (3 : Int32)) dX10_turn_137 (by decide) ?_
                  refine zz_ix fun j141 hj141 hinj141 hej141 => zz_ial F dX10_turn_138 rfl (⟨zlb rfl, zlb rfl, hi⟩) rfl hinj141 hej141 ?_
                  refine zz_iconst F (v := (2 : Int32)) dX10_turn_139 (by decide) ?_
                  refine zz_icmp_ne F (tgt := 201) dX10_turn_140 (by decide) (fun h => zz_f h ?_) (fun h => zz_t h ?_)
                  · exact zz_return F dX10_turn_201 rfl (hκ _)
                  · refine zz_aload_n F (i := 1) dX10_turn_143 rfl rfl ?_
                    refine zz_bipush F (v := (8 : Int32)) dX10_turn_144 (by decide) ?_
                    refine zz_aload_n F (i := 1) dX10_turn_146 rfl rfl ?_
                    refine zz_bipush F (v := (11 : Int32)) dX10_turn_147 (by decide) ?_
                    refine zz_ix fun j142 hj142 hinj142 hej142 => zz_ial F dX10_turn_149 rfl (⟨zlb rfl, zlb rfl, hi⟩) rfl hinj142 hej142 ?_
                    refine zz_sipush F (v := (150 : Int32)) dX10_turn_150 (by decide) ?_
                    refine zz_join (pj := 188) (Lj := fun q143 => [none, some (zr 0 8 i), none]) (Sj := fun q143 => [zi q143, zi (8 : Int32), zr 0 8 i]) (Mj := fun q143 => [s0]) (fun q143 => ?_) (fun κ145 hj144 => ?_)
                    · refine zz_ix fun j149 hj149 hinj149 hej149 => zz_ias F (Ms' := [(zu s0 8 i j149 q143)]) dX10_turn_188 rfl (⟨zlb rfl, zlb rfl, hi⟩) rfl hinj149 hej149 rfl ?_
                      refine zz_letm (Mf := fun s0_150 => [s0_150]) fun s0_150 => ?_
                      refine zz_aload_n F (i := 1) dX10_turn_189 rfl rfl ?_
                      refine zz_bipush F (v := (8 : Int32)) dX10_turn_190 (by decide) ?_
                      refine zz_ix fun j151 hj151 hinj151 hej151 => zz_ial F dX10_turn_192 rfl (⟨zlb rfl, zlb rfl, hi⟩) rfl hinj151 hej151 ?_
                      refine zz_iconst F (v := (-1 : Int32)) dX10_turn_193 (by decide) ?_
                      refine zz_icmp_eq F (tgt := 201) dX10_turn_194 (by decide) (fun h => zz_t h ?_) (fun h => zz_f h ?_)
                      · exact zz_return F dX10_turn_201 rfl (hκ _)
                      · refine zz_aload_n F (i := 1) dX10_turn_197 rfl rfl ?_
                        refine zz_iconst F (v := (3 : Int32)) dX10_turn_198 (by decide) ?_
                        refine zz_iconst F (v := (3 : Int32)) dX10_turn_199 (by decide) ?_
                        refine zz_ix fun j152 hj152 hinj152 hej152 => zz_ias F (Ms' := [(zu s0_150 8 i j152 (3 : Int32))]) dX10_turn_200 rfl (⟨zlb rfl, zlb rfl, hi⟩) rfl hinj152 hej152 rfl ?_
                        refine zz_letm (Mf := fun s0_153 => [s0_153]) fun s0_153 => ?_
                        exact zz_return F dX10_turn_201 rfl (hκ _)
                    · refine zz_icmp_lt F (tgt := 160) dX10_turn_153 (by decide) (fun h => zz_t h ?_) (fun h => zz_f h ?_)
                      · refine zz_aload_n F (i := 1) dX10_turn_160 rfl rfl ?_
                        refine zz_bipush F (v := (12 : Int32)) dX10_turn_161 (by decide) ?_
                        refine zz_ix fun j147 hj147 hinj147 hej147 => zz_ial F dX10_turn_163 rfl (⟨zlb rfl, zlb rfl, hi⟩) rfl hinj147 hej147 ?_
                        refine zz_bipush F (v := (120 : Int32)) dX10_turn_164 (by decide) ?_
                        refine zz_icmp_lt F (tgt := 173) dX10_turn_166 (by decide) (fun h => zz_t h ?_) (fun h => zz_f h ?_)
                        · refine zz_aload_n F (i := 1) dX10_turn_173 rfl rfl ?_
                          refine zz_bipush F (v := (13 : Int32)) dX10_turn_174 (by decide) ?_
                          refine zz_ix fun j148 hj148 hinj148 hej148 => zz_ial F dX10_turn_176 rfl (⟨zlb rfl, zlb rfl, hi⟩) rfl hinj148 hej148 ?_
                          refine zz_sipush F (v := (200 : Int32)) dX10_turn_177 (by decide) ?_
                          refine zz_icmp_lt F (tgt := 187) dX10_turn_180 (by decide) (fun h => zz_t h ?_) (fun h => zz_f h ?_)
                          · refine zz_iconst F (v := (-1 : Int32)) dX10_turn_187 (by decide) ?_
                            exact zz_sub (zs_n (zs_k (zs_n zs_z))) (hj144 (-1 : Int32))
                          · refine zz_iconst F (v := (2 : Int32)) dX10_turn_183 (by decide) ?_
                            refine zz_goto F (tgt := 188) dX10_turn_184 (by decide) ?_
                            exact zz_sub (zs_n (zs_k (zs_n zs_z))) (hj144 (2 : Int32))
                        · refine zz_iconst F (v := (1 : Int32)) dX10_turn_169 (by decide) ?_
                          refine zz_goto F (tgt := 188) dX10_turn_170 (by decide) ?_
                          exact zz_sub (zs_n (zs_k (zs_n zs_z))) (hj144 (1 : Int32))
                      · refine zz_iconst F (v := (0 : Int32)) dX10_turn_156 (by decide) ?_
                        refine zz_goto F (tgt := 188) dX10_turn_157 (by decide) ?_
                        exact zz_sub (zs_n (zs_k (zs_n zs_z))) (hj144 (0 : Int32))
                · refine zz_aload_n F (i := 0) dX10_turn_115 rfl rfl ?_
                  refine zz_getf F dX10_turn_116 wfRX10_64 zCl_9 rfl (⟨zlb rfl, zlb rfl, zlb rfl⟩) rfl (by decide) rfl rfl ?_
                  refine zz_iconst F (v := (3 : Int32)) dX10_turn_119 (by decide) ?_
                  refine zz_bipush F (v := (25 : Int32)) dX10_turn_120 (by decide) ?_
                  refine zz_bind ?_
                  refine zz_callSNr F (ρ := []) (so := fun q154 => [zi q154]) (Mo := fun q154 => [s0]) (zfMO_in (s0 0 0 12) (3 : Int32) (25 : Int32)) dX10_turn_122 wcRX10_95 wy_yX11_in rfl ⟨rel17, rfl, rfl, Nat.le_of_ble_eq_true rfl, Nat.le_of_ble_eq_true rfl, Nat.le_of_ble_eq_true rfl⟩ rfl (fun _ => rfl) (fun _ => rfl) fun q154 => ?_
                  refine zz_if_ne F (tgt := 136) dX10_turn_125 (by decide) (fun h => zz_f h ?_) (fun h => zz_t h ?_)
                  · refine zz_aload_n F (i := 1) dX10_turn_136 rfl rfl ?_
                    refine zz_iconst F (v := (3 : Int32)) dX10_turn_137 (by decide) ?_
                    refine zz_ix fun j155 hj155 hinj155 hej155 => zz_ial F dX10_turn_138 rfl (⟨zlb rfl, zlb rfl, hi⟩) rfl hinj155 hej155 ?_
                    refine zz_iconst F (v := (2 : Int32)) dX10_turn_139 (by decide) ?_
                    refine zz_icmp_ne F (tgt := 201) dX10_turn_140 (by decide) (fun h => zz_f h ?_) (fun h => zz_t h ?_)
                    · exact zz_return F dX10_turn_201 rfl (hκ _)
                    · refine zz_aload_n F (i := 1) dX10_turn_143 rfl rfl ?_
                      refine zz_bipush F (v := (8 : Int32)) dX10_turn_144 (by decide) ?_
                      refine zz_aload_n F (i := 1) dX10_turn_146 rfl rfl ?_
                      refine zz_bipush F (v := (11 : Int32)) dX10_turn_147 (by decide) ?_
                      refine zz_ix fun j156 hj156 hinj156 hej156 => zz_ial F dX10_turn_149 rfl (⟨zlb rfl, zlb rfl, hi⟩) rfl hinj156 hej156 ?_
                      refine zz_sipush F (v := (150 : Int32)) dX10_turn_150 (by decide) ?_
                      refine zz_join (pj := 188) (Lj := fun q157 => [none, some (zr 0 8 i), none]) (Sj := fun q157 => [zi q157, zi (8 : Int32), zr 0 8 i]) (Mj := fun q157 => [s0]) (fun q157 => ?_) (fun κ159 hj158 => ?_)
                      · refine zz_ix fun j163 hj163 hinj163 hej163 => zz_ias F (Ms' := [(zu s0 8 i j163 q157)]) dX10_turn_188 rfl (⟨zlb rfl, zlb rfl, hi⟩) rfl hinj163 hej163 rfl ?_
                        refine zz_letm (Mf := fun s0_164 => [s0_164]) fun s0_164 => ?_
                        refine zz_aload_n F (i := 1) dX10_turn_189 rfl rfl ?_
                        refine zz_bipush F (v := (8 : Int32)) dX10_turn_190 (by decide) ?_
                        refine zz_ix fun j165 hj165 hinj165 hej165 => zz_ial F dX10_turn_192 rfl (⟨zlb rfl, zlb rfl, hi⟩) rfl hinj165 hej165 ?_
                        refine zz_iconst F (v := (-1 : Int32)) dX10_turn_193 (by decide) ?_
                        refine zz_icmp_eq F (tgt := 201) dX10_turn_194 (by decide) (fun h => zz_t h ?_) (fun h => zz_f h ?_)
                        · exact zz_return F dX10_turn_201 rfl (hκ _)
                        · refine zz_aload_n F (i := 1) dX10_turn_197 rfl rfl ?_
                          refine zz_iconst F (v := (3 : Int32)) dX10_turn_198 (by decide) ?_
                          refine zz_iconst F (v := (3 : Int32)) dX10_turn_199 (by decide) ?_
                          refine zz_ix fun j166 hj166 hinj166 hej166 => zz_ias F (Ms' := [(zu s0_164 8 i j166 (3 : Int32))]) dX10_turn_200 rfl (⟨zlb rfl, zlb rfl, hi⟩) rfl hinj166 hej166 rfl ?_
                          refine zz_letm (Mf := fun s0_167 => [s0_167]) fun s0_167 => ?_
                          exact zz_return F dX10_turn_201 rfl (hκ _)
                      · refine zz_icmp_lt F (tgt := 160) dX10_turn_153 (by decide) (fun h => zz_t h ?_) (fun h => zz_f h ?_)
                        · refine zz_aload_n F (i := 1) dX10_turn_160 rfl rfl ?_
                          refine zz_bipush F (v := (12 : Int32)) dX10_turn_161 (by decide) ?_
                          refine zz_ix fun j161 hj161 hinj161 hej161 => zz_ial F dX10_turn_163 rfl (⟨zlb rfl, zlb rfl, hi⟩) rfl hinj161 hej161 ?_
                          refine zz_bipush F (v := (120 : Int32)) dX10_turn_164 (by decide) ?_
                          refine zz_icmp_lt F (tgt := 173) dX10_turn_166 (by decide) (fun h => zz_t h ?_) (fun h => zz_f h ?_)
                          · refine zz_aload_n F (i := 1) dX10_turn_173 rfl rfl ?_
                            refine zz_bipush F (v := (13 : Int32)) dX10_turn_174 (by decide) ?_
                            refine zz_ix fun j162 hj162 hinj162 hej162 => zz_ial F dX10_turn_176 rfl (⟨zlb rfl, zlb rfl, hi⟩) rfl hinj162 hej162 ?_
                            refine zz_sipush F (v := (200 : Int32)) dX10_turn_177 (by decide) ?_
                            refine zz_icmp_lt F (tgt := 187) dX10_turn_180 (by decide) (fun h => zz_t h ?_) (fun h => zz_f h ?_)
                            · refine zz_iconst F (v := (-1 : Int32)) dX10_turn_187 (by decide) ?_
                              exact zz_sub (zs_n (zs_k (zs_n zs_z))) (hj158 (-1 : Int32))
                            · refine zz_iconst F (v := (2 : Int32)) dX10_turn_183 (by decide) ?_
                              refine zz_goto F (tgt := 188) dX10_turn_184 (by decide) ?_
                              exact zz_sub (zs_n (zs_k (zs_n zs_z))) (hj158 (2 : Int32))
                          · refine zz_iconst F (v := (1 : Int32)) dX10_turn_169 (by decide) ?_
                            refine zz_goto F (tgt := 188) dX10_turn_170 (by decide) ?_
                            exact zz_sub (zs_n (zs_k (zs_n zs_z))) (hj158 (1 : Int32))
                        · refine zz_iconst F (v := (0 : Int32)) dX10_turn_156 (by decide) ?_
                          refine zz_goto F (tgt := 188) dX10_turn_157 (by decide) ?_
                          exact zz_sub (zs_n (zs_k (zs_n zs_z))) (hj158 (0 : Int32))
                  · refine zz_aload_n F (i := 1) dX10_turn_128 rfl rfl ?_
                    refine zz_iconst F (v := (0 : Int32)) dX10_turn_129 (by decide) ?_
                    refine zz_bind ?_
                    refine zz_callSr F (ρ := [0]) (so := fun q168 => []) (Mo := fun q168 => [q168]) (zfMS_stop i (0 : Int32) hi s0) dX10_turn_130 wcRX10_143 wy_yX10_stop rfl ⟨rel18, rfl, rfl, Nat.le_of_ble_eq_true rfl, Nat.le_of_ble_eq_true rfl, Nat.le_of_ble_eq_true rfl⟩ rfl (fun _ => rfl) (fun _ => rfl) fun q168 => ?_
                    refine zz_goto F (tgt := 201) dX10_turn_133 (by decide) ?_
                    exact zz_return F dX10_turn_201 rfl (hκ _)
              · refine zz_aload_n F (i := 1) dX10_turn_81 rfl rfl ?_
                refine zz_bipush F (v := (10 : Int32)) dX10_turn_82 (by decide) ?_
                refine zz_ix fun j169 hj169 hinj169 hej169 => zz_ial F dX10_turn_84 rfl (⟨zlb rfl, zlb rfl, hi⟩) rfl hinj169 hej169 ?_
                refine zz_if_ne F (tgt := 108) dX10_turn_85 (by decide) (fun h => zz_f h ?_) (fun h => zz_t h ?_)
                · refine zz_aload_n F (i := 1) dX10_turn_108 rfl rfl ?_
                  refine zz_iconst F (v := (3 : Int32)) dX10_turn_109 (by decide) ?_
                  refine zz_ix fun j170 hj170 hinj170 hej170 => zz_ial F dX10_turn_110 rfl (⟨zlb rfl, zlb rfl, hi⟩) rfl hinj170 hej170 ?_
                  refine zz_iconst F (v := (2 : Int32)) dX10_turn_111 (by decide) ?_
                  refine zz_icmp_ne F (tgt := 136) dX10_turn_112 (by decide) (fun h => zz_f h ?_) (fun h => zz_t h ?_)
                  · refine zz_aload_n F (i := 1) dX10_turn_136 rfl rfl ?_
                    refine zz_iconst F (v := (3 : Int32)) dX10_turn_137 (by decide) ?_
                    refine zz_ix fun j171 hj171 hinj171 hej171 => zz_ial F dX10_turn_138 rfl (⟨zlb rfl, zlb rfl, hi⟩) rfl hinj171 hej171 ?_
                    refine zz_iconst F (v := (2 : Int32)) dX10_turn_139 (by decide) ?_
                    refine zz_icmp_ne F (tgt := 201) dX10_turn_140 (by decide) (fun h => zz_f h ?_) (fun h => zz_t h ?_)
                    · exact zz_return F dX10_turn_201 rfl (hκ _)
                    · refine zz_aload_n F (i := 1) dX10_turn_143 rfl rfl ?_
                      refine zz_bipush F (v := (8 : Int32)) dX10_turn_144 (by decide) ?_
                      refine zz_aload_n F (i := 1) dX10_turn_146 rfl rfl ?_
                      refine zz_bipush F (v := (11 : Int32)) dX10_turn_147 (by decide) ?_
                      refine zz_ix fun j172 hj172 hinj172 hej172 => zz_ial F dX10_turn_149 rfl (⟨zlb rfl, zlb rfl, hi⟩) rfl hinj172 hej172 ?_
                      refine zz_sipush F (v := (150 : Int32)) dX10_turn_150 (by decide) ?_
                      refine zz_join (pj := 188) (Lj := fun q173 => [none, some (zr 0 8 i), none]) (Sj := fun q173 => [zi q173, zi (8 : Int32), zr 0 8 i]) (Mj := fun q173 => [s0]) (fun q173 => ?_) (fun κ175 hj174 => ?_)
                      · refine zz_ix fun j179 hj179 hinj179 hej179 => zz_ias F (Ms' := [(zu s0 8 i j179 q173)]) dX10_turn_188 rfl (⟨zlb rfl, zlb rfl, hi⟩) rfl hinj179 hej179 rfl ?_
                        refine zz_letm (Mf := fun s0_180 => [s0_180]) fun s0_180 => ?_
                        refine zz_aload_n F (i := 1) dX10_turn_189 rfl rfl ?_
                        refine zz_bipush F (v := (8 : Int32)) dX10_turn_190 (by decide) ?_
                        refine zz_ix fun j181 hj181 hinj181 hej181 => zz_ial F dX10_turn_192 rfl (⟨zlb rfl, zlb rfl, hi⟩) rfl hinj181 hej181 ?_
                        refine zz_iconst F (v := (-1 : Int32)) dX10_turn_193 (by decide) ?_
                        refine zz_icmp_eq F (tgt := 201) dX10_turn_194 (by decide) (fun h => zz_t h ?_) (fun h => zz_f h ?_)
                        · exact zz_return F dX10_turn_201 rfl (hκ _)
                        · refine zz_aload_n F (i := 1) dX10_turn_197 rfl rfl ?_
                          refine zz_iconst F (v := (3 : Int32)) dX10_turn_198 (by decide) ?_
                          refine zz_iconst F (v := (3 : Int32)) dX10_turn_199 (by decide) ?_
                          refine zz_ix fun j182 hj182 hinj182 hej182 => zz_ias F (Ms' := [(zu s0_180 8 i j182 (3 : Int32))]) dX10_turn_200 rfl (⟨zlb rfl, zlb rfl, hi⟩) rfl hinj182 hej182 rfl ?_
                          refine zz_letm (Mf := fun s0_183 => [s0_183]) fun s0_183 => ?_
                          exact zz_return F dX10_turn_201 rfl (hκ _)
                      · refine zz_icmp_lt F (tgt := 160) dX10_turn_153 (by decide) (fun h => zz_t h ?_) (fun h => zz_f h ?_)
                        · refine zz_aload_n F (i := 1) dX10_turn_160 rfl rfl ?_
                          refine zz_bipush F (v := (12 : Int32)) dX10_turn_161 (by decide) ?_
                          refine zz_ix fun j177 hj177 hinj177 hej177 => zz_ial F dX10_turn_163 rfl (⟨zlb rfl, zlb rfl, hi⟩) rfl hinj177 hej177 ?_
                          refine zz_bipush F (v := (120 : Int32)) dX10_turn_164 (by decide) ?_
                          refine zz_icmp_lt F (tgt := 173) dX10_turn_166 (by decide) (fun h => zz_t h ?_) (fun h => zz_f h ?_)
                          · refine zz_aload_n F (i := 1) dX10_turn_173 rfl rfl ?_
                            refine zz_bipush F (v := (13 : Int32)) dX10_turn_174 (by decide) ?_
                            refine zz_ix fun j178 hj178 hinj178 hej178 => zz_ial F dX10_turn_176 rfl (⟨zlb rfl, zlb rfl, hi⟩) rfl hinj178 hej178 ?_
                            refine zz_sipush F (v := (200 : Int32)) dX10_turn_177 (by decide) ?_
                            refine zz_icmp_lt F (tgt := 187) dX10_turn_180 (by decide) (fun h => zz_t h ?_) (fun h => zz_f h ?_)
                            · refine zz_iconst F (v := (-1 : Int32)) dX10_turn_187 (by decide) ?_
                              exact zz_sub (zs_n (zs_k (zs_n zs_z))) (hj174 (-1 : Int32))
                            · refine zz_iconst F (v := (2 : Int32)) dX10_turn_183 (by decide) ?_
                              refine zz_goto F (tgt := 188) dX10_turn_184 (by decide) ?_
                              exact zz_sub (zs_n (zs_k (zs_n zs_z))) (hj174 (2 : Int32))
                          · refine zz_iconst F (v := (1 : Int32)) dX10_turn_169 (by decide) ?_
                            refine zz_goto F (tgt := 188) dX10_turn_170 (by decide) ?_
                            exact zz_sub (zs_n (zs_k (zs_n zs_z))) (hj174 (1 : Int32))
                        · refine zz_iconst F (v := (0 : Int32)) dX10_turn_156 (by decide) ?_
                          refine zz_goto F (tgt := 188) dX10_turn_157 (by decide) ?_
                          exact zz_sub (zs_n (zs_k (zs_n zs_z))) (hj174 (0 : Int32))
                  · refine zz_aload_n F (i := 0) dX10_turn_115 rfl rfl ?_
                    refine zz_getf F dX10_turn_116 wfRX10_64 zCl_9 rfl (⟨zlb rfl, zlb rfl, zlb rfl⟩) rfl (by decide) rfl rfl ?_
                    refine zz_iconst F (v := (3 : Int32)) dX10_turn_119 (by decide) ?_
                    refine zz_bipush F (v := (25 : Int32)) dX10_turn_120 (by decide) ?_
                    refine zz_bind ?_
                    refine zz_callSNr F (ρ := []) (so := fun q184 => [zi q184]) (Mo := fun q184 => [s0]) (zfMO_in (s0 0 0 12) (3 : Int32) (25 : Int32)) dX10_turn_122 wcRX10_95 wy_yX11_in rfl ⟨rel17, rfl, rfl, Nat.le_of_ble_eq_true rfl, Nat.le_of_ble_eq_true rfl, Nat.le_of_ble_eq_true rfl⟩ rfl (fun _ => rfl) (fun _ => rfl) fun q184 => ?_
                    refine zz_if_ne F (tgt := 136) dX10_turn_125 (by decide) (fun h => zz_f h ?_) (fun h => zz_t h ?_)
                    · refine zz_aload_n F (i := 1) dX10_turn_136 rfl rfl ?_
                      refine zz_iconst F (v := (3 : Int32)) dX10_turn_137 (by decide) ?_
                      refine zz_ix fun j185 hj185 hinj185 hej185 => zz_ial F dX10_turn_138 rfl (⟨zlb rfl, zlb rfl, hi⟩) rfl hinj185 hej185 ?_
                      refine zz_iconst F (v := (2 : Int32)) dX10_turn_139 (by decide) ?_
                      refine zz_icmp_ne F (tgt := 201) dX10_turn_140 (by decide) (fun h => zz_f h ?_) (fun h => zz_t h ?_)
                      · exact zz_return F dX10_turn_201 rfl (hκ _)
                      · refine zz_aload_n F (i := 1) dX10_turn_143 rfl rfl ?_
                        refine zz_bipush F (v := (8 : Int32)) dX10_turn_144 (by decide) ?_
                        refine zz_aload_n F (i := 1) dX10_turn_146 rfl rfl ?_
                        refine zz_bipush F (v := (11 : Int32)) dX10_turn_147 (by decide) ?_
                        refine zz_ix fun j186 hj186 hinj186 hej186 => zz_ial F dX10_turn_149 rfl (⟨zlb rfl, zlb rfl, hi⟩) rfl hinj186 hej186 ?_
                        refine zz_sipush F (v := (150 : Int32)) dX10_turn_150 (by decide) ?_
                        refine zz_join (pj := 188) (Lj := fun q187 => [none, some (zr 0 8 i), none]) (Sj := fun q187 => [zi q187, zi (8 : Int32), zr 0 8 i]) (Mj := fun q187 => [s0]) (fun q187 => ?_) (fun κ189 hj188 => ?_)
                        · refine zz_ix fun j193 hj193 hinj193 hej193 => zz_ias F (Ms' := [(zu s0 8 i j193 q187)]) dX10_turn_188 rfl (⟨zlb rfl, zlb rfl, hi⟩) rfl hinj193 hej193 rfl ?_
                          refine zz_letm (Mf := fun s0_194 => [s0_194]) fun s0_194 => ?_
                          refine zz_aload_n F (i := 1) dX10_turn_189 rfl rfl ?_
                          refine zz_bipush F (v := (8 : Int32)) dX10_turn_190 (by decide) ?_
                          refine zz_ix fun j195 hj195 hinj195 hej195 => zz_ial F dX10_turn_192 rfl (⟨zlb rfl, zlb rfl, hi⟩) rfl hinj195 hej195 ?_
                          refine zz_iconst F (v := (-1 : Int32)) dX10_turn_193 (by decide) ?_
                          refine zz_icmp_eq F (tgt := 201) dX10_turn_194 (by decide) (fun h => zz_t h ?_) (fun h => zz_f h ?_)
                          · exact zz_return F dX10_turn_201 rfl (hκ _)
                          · refine zz_aload_n F (i := 1) dX10_turn_197 rfl rfl ?_
                            refine zz_iconst F (v := (3 : Int32)) dX10_turn_198 (by decide) ?_
                            refine zz_iconst F (v := (3 : Int32)) dX10_turn_199 (by decide) ?_
                            refine zz_ix fun j196 hj196 hinj196 hej196 => zz_ias F (Ms' := [(zu s0_194 8 i j196 (3 : Int32))]) dX10_turn_200 rfl (⟨zlb rfl, zlb rfl, hi⟩) rfl hinj196 hej196 rfl ?_
                            refine zz_letm (Mf := fun s0_197 => [s0_197]) fun s0_197 => ?_
                            exact zz_return F dX10_turn_201 rfl (hκ _)
                        · refine zz_icmp_lt F (tgt := 160) dX10_turn_153 (by decide) (fun h => zz_t h ?_) (fun h => zz_f h ?_)
                          · refine zz_aload_n F (i := 1) dX10_turn_160 rfl rfl ?_
                            refine zz_bipush F (v := (12 : Int32)) dX10_turn_161 (by decide) ?_
                            refine zz_ix fun j191 hj191 hinj191 hej191 => zz_ial F dX10_turn_163 rfl (⟨zlb rfl, zlb rfl, hi⟩) rfl hinj191 hej191 ?_
                            refine zz_bipush F (v := (120 : Int32)) dX10_turn_164 (by decide) ?_
                            refine zz_icmp_lt F (tgt := 173) dX10_turn_166 (by decide) (fun h => zz_t h ?_) (fun h => zz_f h ?_)
                            · refine zz_aload_n F (i := 1) dX10_turn_173 rfl rfl ?_
                              refine zz_bipush F (v := (13 : Int32)) dX10_turn_174 (by decide) ?_
                              refine zz_ix fun j192 hj192 hinj192 hej192 => zz_ial F dX10_turn_176 rfl (⟨zlb rfl, zlb rfl, hi⟩) rfl hinj192 hej192 ?_
                              refine zz_sipush F (v := (200 : Int32)) dX10_turn_177 (by decide) ?_
                              refine zz_icmp_lt F (tgt := 187) dX10_turn_180 (by decide) (fun h => zz_t h ?_) (fun h => zz_f h ?_)
                              · refine zz_iconst F (v := (-1 : Int32)) dX10_turn_187 (by decide) ?_
                                exact zz_sub (zs_n (zs_k (zs_n zs_z))) (hj188 (-1 : Int32))
                              · refine zz_iconst F (v := (2 : Int32)) dX10_turn_183 (by decide) ?_
                                refine zz_goto F (tgt := 188) dX10_turn_184 (by decide) ?_
                                exact zz_sub (zs_n (zs_k (zs_n zs_z))) (hj188 (2 : Int32))
                            · refine zz_iconst F (v := (1 : Int32)) dX10_turn_169 (by decide) ?_
                              refine zz_goto F (tgt := 188) dX10_turn_170 (by decide) ?_
                              exact zz_sub (zs_n (zs_k (zs_n zs_z))) (hj188 (1 : Int32))
                          · refine zz_iconst F (v := (0 : Int32)) dX10_turn_156 (by decide) ?_
                            refine zz_goto F (tgt := 188) dX10_turn_157 (by decide) ?_
                            exact zz_sub (zs_n (zs_k (zs_n zs_z))) (hj188 (0 : Int32))
                    · refine zz_aload_n F (i := 1) dX10_turn_128 rfl rfl ?_
                      refine zz_iconst F (v := (0 : Int32)) dX10_turn_129 (by decide) ?_
                      refine zz_bind ?_
                      refine zz_callSr F (ρ := [0]) (so := fun q198 => []) (Mo := fun q198 => [q198]) (zfMS_stop i (0 : Int32) hi s0) dX10_turn_130 wcRX10_143 wy_yX10_stop rfl ⟨rel18, rfl, rfl, Nat.le_of_ble_eq_true rfl, Nat.le_of_ble_eq_true rfl, Nat.le_of_ble_eq_true rfl⟩ rfl (fun _ => rfl) (fun _ => rfl) fun q198 => ?_
                      refine zz_goto F (tgt := 201) dX10_turn_133 (by decide) ?_
                      exact zz_return F dX10_turn_201 rfl (hκ _)
                · refine zz_aload_n F (i := 0) dX10_turn_88 rfl rfl ?_
                  refine zz_getf F dX10_turn_89 wfRX10_64 zCl_9 rfl (⟨zlb rfl, zlb rfl, zlb rfl⟩) rfl (by decide) rfl rfl ?_
                  refine zz_iconst F (v := (4 : Int32)) dX10_turn_92 (by decide) ?_
                  refine zz_bipush F (v := (22 : Int32)) dX10_turn_93 (by decide) ?_
                  refine zz_bind ?_
                  refine zz_callSNr F (ρ := []) (so := fun q199 => [zi q199]) (Mo := fun q199 => [s0]) (zfMO_in (s0 0 0 12) (4 : Int32) (22 : Int32)) dX10_turn_95 wcRX10_95 wy_yX11_in rfl ⟨rel17, rfl, rfl, Nat.le_of_ble_eq_true rfl, Nat.le_of_ble_eq_true rfl, Nat.le_of_ble_eq_true rfl⟩ rfl (fun _ => rfl) (fun _ => rfl) fun q199 => ?_
                  refine zz_if_eq F (tgt := 201) dX10_turn_98 (by decide) (fun h => zz_t h ?_) (fun h => zz_f h ?_)
                  · exact zz_return F dX10_turn_201 rfl (hκ _)
                  · refine zz_aload_n F (i := 1) dX10_turn_101 rfl rfl ?_
                    refine zz_bind ?_
                    refine zz_callSr F (ρ := [0]) (so := fun q200 => []) (Mo := fun q200 => [q200]) (zfMS_start i hi s0) dX10_turn_102 wcRX10_147 wy_yX10_start rfl ⟨rel18, rfl, rfl, Nat.le_of_ble_eq_true rfl, Nat.le_of_ble_eq_true rfl, Nat.le_of_ble_eq_true rfl⟩ rfl (fun _ => rfl) (fun _ => rfl) fun q200 => ?_
                    refine zz_goto F (tgt := 201) dX10_turn_105 (by decide) ?_
                    exact zz_return F dX10_turn_201 rfl (hκ _)
            · refine zz_aload_n F (i := 1) dX10_turn_68 rfl rfl ?_
              refine zz_iconst F (v := (3 : Int32)) dX10_turn_69 (by decide) ?_
              refine zz_iconst F (v := (2 : Int32)) dX10_turn_70 (by decide) ?_
              refine zz_ix fun j201 hj201 hinj201 hej201 => zz_ias F (Ms' := [(zu s0 8 i j201 (2 : Int32))]) dX10_turn_71 rfl (⟨zlb rfl, zlb rfl, hi⟩) rfl hinj201 hej201 rfl ?_
              refine zz_letm (Mf := fun s0_202 => [s0_202]) fun s0_202 => ?_
              refine zz_goto F (tgt := 201) dX10_turn_72 (by decide) ?_
              exact zz_return F dX10_turn_201 rfl (hκ _)
          · refine zz_aload_n F (i := 1) dX10_turn_54 rfl rfl ?_
            refine zz_bind ?_
            refine zz_callSr F (ρ := [0]) (so := fun q203 => []) (Mo := fun q203 => [q203]) (zfMS_start i hi s0) dX10_turn_55 wcRX10_147 wy_yX10_start rfl ⟨rel18, rfl, rfl, Nat.le_of_ble_eq_true rfl, Nat.le_of_ble_eq_true rfl, Nat.le_of_ble_eq_true rfl⟩ rfl (fun _ => rfl) (fun _ => rfl) fun q203 => ?_
            refine zz_goto F (tgt := 201) dX10_turn_58 (by decide) ?_
            exact zz_return F dX10_turn_201 rfl (hκ _)
    · refine zz_iload_n F (i := 2) dX10_turn_24 rfl rfl ?_
      refine zz_if_eq F (tgt := 36) dX10_turn_25 (by decide) (fun h => zz_t h ?_) (fun h => zz_f h ?_)
      · refine zz_aload_n F (i := 1) dX10_turn_36 rfl rfl ?_
        refine zz_iconst F (v := (3 : Int32)) dX10_turn_37 (by decide) ?_
        refine zz_ix fun j204 hj204 hinj204 hej204 => zz_ial F dX10_turn_38 rfl (⟨zlb rfl, zlb rfl, hi⟩) rfl hinj204 hej204 ?_
        refine zz_if_ne F (tgt := 61) dX10_turn_39 (by decide) (fun h => zz_f h ?_) (fun h => zz_t h ?_)
        · refine zz_aload_n F (i := 1) dX10_turn_61 rfl rfl ?_
          refine zz_iconst F (v := (3 : Int32)) dX10_turn_62 (by decide) ?_
          refine zz_ix fun j205 hj205 hinj205 hej205 => zz_ial F dX10_turn_63 rfl (⟨zlb rfl, zlb rfl, hi⟩) rfl hinj205 hej205 ?_
          refine zz_iconst F (v := (1 : Int32)) dX10_turn_64 (by decide) ?_
          refine zz_icmp_ne F (tgt := 75) dX10_turn_65 (by decide) (fun h => zz_f h ?_) (fun h => zz_t h ?_)
          · refine zz_aload_n F (i := 1) dX10_turn_75 rfl rfl ?_
            refine zz_iconst F (v := (3 : Int32)) dX10_turn_76 (by decide) ?_
            refine zz_ix fun j206 hj206 hinj206 hej206 => zz_ial F dX10_turn_77 rfl (⟨zlb rfl, zlb rfl, hi⟩) rfl hinj206 hej206 ?_
            refine zz_if_ne F (tgt := 108) dX10_turn_78 (by decide) (fun h => zz_f h ?_) (fun h => zz_t h ?_)
            · refine zz_aload_n F (i := 1) dX10_turn_108 rfl rfl ?_
              refine zz_iconst F (v := (3 : Int32)) dX10_turn_109 (by decide) ?_
              refine zz_ix fun j207 hj207 hinj207 hej207 => zz_ial F dX10_turn_110 rfl (⟨zlb rfl, zlb rfl, hi⟩) rfl hinj207 hej207 ?_
              refine zz_iconst F (v := (2 : Int32)) dX10_turn_111 (by decide) ?_
              refine zz_icmp_ne F (tgt := 136) dX10_turn_112 (by decide) (fun h => zz_f h ?_) (fun h => zz_t h ?_)
              · refine zz_aload_n F (i := 1) dX10_turn_136 rfl rfl ?_
                refine zz_iconst F (v := (3 : Int32)) dX10_turn_137 (by decide) ?_
                refine zz_ix fun j208 hj208 hinj208 hej208 => zz_ial F dX10_turn_138 rfl (⟨zlb rfl, zlb rfl, hi⟩) rfl hinj208 hej208 ?_
                refine zz_iconst F (v := (2 : Int32)) dX10_turn_139 (by decide) ?_
                refine zz_icmp_ne F (tgt := 201) dX10_turn_140 (by decide) (fun h => zz_f h ?_) (fun h => zz_t h ?_)
                · exact zz_return F dX10_turn_201 rfl (hκ _)
                · refine zz_aload_n F (i := 1) dX10_turn_143 rfl rfl ?_
                  refine zz_bipush F (v := (8 : Int32)) dX10_turn_144 (by decide) ?_
                  refine zz_aload_n F (i := 1) dX10_turn_146 rfl rfl ?_
                  refine zz_bipush F (v := (11 : Int32)) dX10_turn_147 (by decide) ?_
                  refine zz_ix fun j209 hj209 hinj209 hej209 => zz_ial F dX10_turn_149 rfl (⟨zlb rfl, zlb rfl, hi⟩) rfl hinj209 hej209 ?_
                  refine zz_sipush F (v := (150 : Int32)) dX10_turn_150 (by decide) ?_
                  refine zz_join (pj := 188) (Lj := fun q210 => [none, some (zr 0 8 i), none]) (Sj := fun q210 => [zi q210, zi (8 : Int32), zr 0 8 i]) (Mj := fun q210 => [s0]) (fun q210 => ?_) (fun κ212 hj211 => ?_)
                  · refine zz_ix fun j216 hj216 hinj216 hej216 => zz_ias F (Ms' := [(zu s0 8 i j216 q210)]) dX10_turn_188 rfl (⟨zlb rfl, zlb rfl, hi⟩) rfl hinj216 hej216 rfl ?_
                    refine zz_letm (Mf := fun s0_217 => [s0_217]) fun s0_217 => ?_
                    refine zz_aload_n F (i := 1) dX10_turn_189 rfl rfl ?_
                    refine zz_bipush F (v := (8 : Int32)) dX10_turn_190 (by decide) ?_
                    refine zz_ix fun j218 hj218 hinj218 hej218 => zz_ial F dX10_turn_192 rfl (⟨zlb rfl, zlb rfl, hi⟩) rfl hinj218 hej218 ?_
                    refine zz_iconst F (v := (-1 : Int32)) dX10_turn_193 (by decide) ?_
                    refine zz_icmp_eq F (tgt := 201) dX10_turn_194 (by decide) (fun h => zz_t h ?_) (fun h => zz_f h ?_)
                    · exact zz_return F dX10_turn_201 rfl (hκ _)
                    · refine zz_aload_n F (i := 1) dX10_turn_197 rfl rfl ?_
                      refine zz_iconst F (v := (3 : Int32)) dX10_turn_198 (by decide) ?_
                      refine zz_iconst F (v := (3 : Int32)) dX10_turn_199 (by decide) ?_
                      refine zz_ix fun j219 hj219 hinj219 hej219 => zz_ias F (Ms' := [(zu s0_217 8 i j219 (3 : Int32))]) dX10_turn_200 rfl (⟨zlb rfl, zlb rfl, hi⟩) rfl hinj219 hej219 rfl ?_
                      refine zz_letm (Mf := fun s0_220 => [s0_220]) fun s0_220 => ?_
                      exact zz_return F dX10_turn_201 rfl (hκ _)
                  · refine zz_icmp_lt F (tgt := 160) dX10_turn_153 (by decide) (fun h => zz_t h ?_) (fun h => zz_f h ?_)
                    · refine zz_aload_n F (i := 1) dX10_turn_160 rfl rfl ?_
                      refine zz_bipush F (v := (12 : Int32)) dX10_turn_161 (by decide) ?_
                      refine zz_ix fun j214 hj214 hinj214 hej214 => zz_ial F dX10_turn_163 rfl (⟨zlb rfl, zlb rfl, hi⟩) rfl hinj214 hej214 ?_
                      refine zz_bipush F (v := (120 : Int32)) dX10_turn_164 (by decide) ?_
                      refine zz_icmp_lt F (tgt := 173) dX10_turn_166 (by decide) (fun h => zz_t h ?_) (fun h => zz_f h ?_)
                      · refine zz_aload_n F (i := 1) dX10_turn_173 rfl rfl ?_
                        refine zz_bipush F (v := (13 : Int32)) dX10_turn_174 (by decide) ?_
                        refine zz_ix fun j215 hj215 hinj215 hej215 => zz_ial F dX10_turn_176 rfl (⟨zlb rfl, zlb rfl, hi⟩) rfl hinj215 hej215 ?_
                        refine zz_sipush F (v := (200 : Int32)) dX10_turn_177 (by decide) ?_
                        refine zz_icmp_lt F (tgt := 187) dX10_turn_180 (by decide) (fun h => zz_t h ?_) (fun h => zz_f h ?_)
                        · refine zz_iconst F (v := (-1 : Int32)) dX10_turn_187 (by decide) ?_
                          exact zz_sub (zs_n (zs_k (zs_n zs_z))) (hj211 (-1 : Int32))
                        · refine zz_iconst F (v := (2 : Int32)) dX10_turn_183 (by decide) ?_
                          refine zz_goto F (tgt := 188) dX10_turn_184 (by decide) ?_
                          exact zz_sub (zs_n (zs_k (zs_n zs_z))) (hj211 (2 : Int32))
                      · refine zz_iconst F (v := (1 : Int32)) dX10_turn_169 (by decide) ?_
                        refine zz_goto F (tgt := 188) dX10_turn_170 (by decide) ?_
                        exact zz_sub (zs_n (zs_k (zs_n zs_z))) (hj211 (1 : Int32))
                    · refine zz_iconst F (v := (0 : Int32)) dX10_turn_156 (by decide) ?_
                      refine zz_goto F (tgt := 188) dX10_turn_157 (by decide) ?_
                      exact zz_sub (zs_n (zs_k (zs_n zs_z))) (hj211 (0 : Int32))
              · refine zz_aload_n F (i := 0) dX10_turn_115 rfl rfl ?_
                refine zz_getf F dX10_turn_116 wfRX10_64 zCl_9 rfl (⟨zlb rfl, zlb rfl, zlb rfl⟩) rfl (by decide) rfl rfl ?_
                refine zz_iconst F (v := (3 : Int32)) dX10_turn_119 (by decide) ?_
                refine zz_bipush F (v := (25 : Int32)) dX10_turn_120 (by decide) ?_
                refine zz_bind ?_
                refine zz_callSNr F (ρ := []) (so := fun q221 => [zi q221]) (Mo := fun q221 => [s0]) (zfMO_in (s0 0 0 12) (3 : Int32) (25 : Int32)) dX10_turn_122 wcRX10_95 wy_yX11_in rfl ⟨rel17, rfl, rfl, Nat.le_of_ble_eq_true rfl, Nat.le_of_ble_eq_true rfl, Nat.le_of_ble_eq_true rfl⟩ rfl (fun _ => rfl) (fun _ => rfl) fun q221 => ?_
                refine zz_if_ne F (tgt := 136) dX10_turn_125 (by decide) (fun h => zz_f h ?_) (fun h => zz_t h ?_)
                · refine zz_aload_n F (i := 1) dX10_turn_136 rfl rfl ?_
                  refine zz_iconst F (v := (3 : Int32)) dX10_turn_137 (by decide) ?_
                  refine zz_ix fun j222 hj222 hinj222 hej222 => zz_ial F dX10_turn_138 rfl (⟨zlb rfl, zlb rfl, hi⟩) rfl hinj222 hej222 ?_
                  refine zz_iconst F (v := (2 : Int32)) dX10_turn_139 (by decide) ?_
                  refine zz_icmp_ne F (tgt := 201) dX10_turn_140 (by decide) (fun h => zz_f h ?_) (fun h => zz_t h ?_)
                  · exact zz_return F dX10_turn_201 rfl (hκ _)
                  · refine zz_aload_n F (i := 1) dX10_turn_143 rfl rfl ?_
                    refine zz_bipush F (v := (8 : Int32)) dX10_turn_144 (by decide) ?_
                    refine zz_aload_n F (i := 1) dX10_turn_146 rfl rfl ?_
                    refine zz_bipush F (v := (11 : Int32)) dX10_turn_147 (by decide) ?_
                    refine zz_ix fun j223 hj223 hinj223 hej223 => zz_ial F dX10_turn_149 rfl (⟨zlb rfl, zlb rfl, hi⟩) rfl hinj223 hej223 ?_
                    refine zz_sipush F (v := (150 : Int32)) dX10_turn_150 (by decide) ?_
                    refine zz_join (pj := 188) (Lj := fun q224 => [none, some (zr 0 8 i), none]) (Sj := fun q224 => [zi q224, zi (8 : Int32), zr 0 8 i]) (Mj := fun q224 => [s0]) (fun q224 => ?_) (fun κ226 hj225 => ?_)
                    · refine zz_ix fun j230 hj230 hinj230 hej230 => zz_ias F (Ms' := [(zu s0 8 i j230 q224)]) dX10_turn_188 rfl (⟨zlb rfl, zlb rfl, hi⟩) rfl hinj230 hej230 rfl ?_
                      refine zz_letm (Mf := fun s0_231 => [s0_231]) fun s0_231 => ?_
                      refine zz_aload_n F (i := 1) dX10_turn_189 rfl rfl ?_
                      refine zz_bipush F (v := (8 : Int32)) dX10_turn_190 (by decide) ?_
                      refine zz_ix fun j232 hj232 hinj232 hej232 => zz_ial F dX10_turn_192 rfl (⟨zlb rfl, zlb rfl, hi⟩) rfl hinj232 hej232 ?_
                      refine zz_iconst F (v := (-1 : Int32)) dX10_turn_193 (by decide) ?_
                      refine zz_icmp_eq F (tgt := 201) dX10_turn_194 (by decide) (fun h => zz_t h ?_) (fun h => zz_f h ?_)
                      · exact zz_return F dX10_turn_201 rfl (hκ _)
                      · refine zz_aload_n F (i := 1) dX10_turn_197 rfl rfl ?_
                        refine zz_iconst F (v := (3 : Int32)) dX10_turn_198 (by decide) ?_
                        refine zz_iconst F (v := (3 : Int32)) dX10_turn_199 (by decide) ?_
                        refine zz_ix fun j233 hj233 hinj233 hej233 => zz_ias F (Ms' := [(zu s0_231 8 i j233 (3 : Int32))]) dX10_turn_200 rfl (⟨zlb rfl, zlb rfl, hi⟩) rfl hinj233 hej233 rfl ?_
                        refine zz_letm (Mf := fun s0_234 => [s0_234]) fun s0_234 => ?_
                        exact zz_return F dX10_turn_201 rfl (hκ _)
                    · refine zz_icmp_lt F (tgt := 160) dX10_turn_153 (by decide) (fun h => zz_t h ?_) (fun h => zz_f h ?_)
                      · refine zz_aload_n F (i := 1) dX10_turn_160 rfl rfl ?_
                        refine zz_bipush F (v := (12 : Int32)) dX10_turn_161 (by decide) ?_
                        refine zz_ix fun j228 hj228 hinj228 hej228 => zz_ial F dX10_turn_163 rfl (⟨zlb rfl, zlb rfl, hi⟩) rfl hinj228 hej228 ?_
                        refine zz_bipush F (v := (120 : Int32)) dX10_turn_164 (by decide) ?_
                        refine zz_icmp_lt F (tgt := 173) dX10_turn_166 (by decide) (fun h => zz_t h ?_) (fun h => zz_f h ?_)
                        · refine zz_aload_n F (i := 1) dX10_turn_173 rfl rfl ?_
                          refine zz_bipush F (v := (13 : Int32)) dX10_turn_174 (by decide) ?_
                          refine zz_ix fun j229 hj229 hinj229 hej229 => zz_ial F dX10_turn_176 rfl (⟨zlb rfl, zlb rfl, hi⟩) rfl hinj229 hej229 ?_
                          refine zz_sipush F (v := (200 : Int32)) dX10_turn_177 (by decide) ?_
                          refine zz_icmp_lt F (tgt := 187) dX10_turn_180 (by decide) (fun h => zz_t h ?_) (fun h => zz_f h ?_)
                          · refine zz_iconst F (v := (-1 : Int32)) dX10_turn_187 (by decide) ?_
                            exact zz_sub (zs_n (zs_k (zs_n zs_z))) (hj225 (-1 : Int32))
                          · refine zz_iconst F (v := (2 : Int32)) dX10_turn_183 (by decide) ?_
                            refine zz_goto F (tgt := 188) dX10_turn_184 (by decide) ?_
                            exact zz_sub (zs_n (zs_k (zs_n zs_z))) (hj225 (2 : Int32))
                        · refine zz_iconst F (v := (1 : Int32)) dX10_turn_169 (by decide) ?_
                          refine zz_goto F (tgt := 188) dX10_turn_170 (by decide) ?_
                          exact zz_sub (zs_n (zs_k (zs_n zs_z))) (hj225 (1 : Int32))
                      · refine zz_iconst F (v := (0 : Int32)) dX10_turn_156 (by decide) ?_
                        refine zz_goto F (tgt := 188) dX10_turn_157 (by decide) ?_
                        exact zz_sub (zs_n (zs_k (zs_n zs_z))) (hj225 (0 : Int32))
                · refine zz_aload_n F (i := 1) dX10_turn_128 rfl rfl ?_
                  refine zz_iconst F (v := (0 : Int32)) dX10_turn_129 (by decide) ?_
                  refine zz_bind ?_
                  refine zz_callSr F (ρ := [0]) (so := fun q235 => []) (Mo := fun q235 => [q235]) (zfMS_stop i (0 : Int32) hi s0) dX10_turn_130 wcRX10_143 wy_yX10_stop rfl ⟨rel18, rfl, rfl, Nat.le_of_ble_eq_true rfl, Nat.le_of_ble_eq_true rfl, Nat.le_of_ble_eq_true rfl⟩ rfl (fun _ => rfl) (fun _ => rfl) fun q235 => ?_
                  refine zz_goto F (tgt := 201) dX10_turn_133 (by decide) ?_
                  exact zz_return F dX10_turn_201 rfl (hκ _)
            · refine zz_aload_n F (i := 1) dX10_turn_81 rfl rfl ?_
              refine zz_bipush F (v := (10 : Int32)) dX10_turn_82 (by decide) ?_
              refine zz_ix fun j236 hj236 hinj236 hej236 => zz_ial F dX10_turn_84 rfl (⟨zlb rfl, zlb rfl, hi⟩) rfl hinj236 hej236 ?_
              refine zz_if_ne F (tgt := 108) dX10_turn_85 (by decide) (fun h => zz_f h ?_) (fun h => zz_t h ?_)
              · refine zz_aload_n F (i := 1) dX10_turn_108 rfl rfl ?_
                refine zz_iconst F (v := (3 : Int32)) dX10_turn_109 (by decide) ?_
                refine zz_ix fun j237 hj237 hinj237 hej237 => zz_ial F dX10_turn_110 rfl (⟨zlb rfl, zlb rfl, hi⟩) rfl hinj237 hej237 ?_
                refine zz_iconst F (v := (2 : Int32)) dX10_turn_111 (by decide) ?_
                refine zz_icmp_ne F (tgt := 136) dX10_turn_112 (by decide) (fun h => zz_f h ?_) (fun h => zz_t h ?_)
                · refine zz_aload_n F (i := 1) dX10_turn_136 rfl rfl ?_
                  refine zz_iconst F (v := (3 : Int32)) dX10_turn_137 (by decide) ?_
                  refine zz_ix fun j238 hj238 hinj238 hej238 => zz_ial F dX10_turn_138 rfl (⟨zlb rfl, zlb rfl, hi⟩) rfl hinj238 hej238 ?_
                  refine zz_iconst F (v := (2 : Int32)) dX10_turn_139 (by decide) ?_
                  refine zz_icmp_ne F (tgt := 201) dX10_turn_140 (by decide) (fun h => zz_f h ?_) (fun h => zz_t h ?_)
                  · exact zz_return F dX10_turn_201 rfl (hκ _)
                  · refine zz_aload_n F (i := 1) dX10_turn_143 rfl rfl ?_
                    refine zz_bipush F (v := (8 : Int32)) dX10_turn_144 (by decide) ?_
                    refine zz_aload_n F (i := 1) dX10_turn_146 rfl rfl ?_
                    refine zz_bipush F (v := (11 : Int32)) dX10_turn_147 (by decide) ?_
                    refine zz_ix fun j239 hj239 hinj239 hej239 => zz_ial F dX10_turn_149 rfl (⟨zlb rfl, zlb rfl, hi⟩) rfl hinj239 hej239 ?_
                    refine zz_sipush F (v := (150 : Int32)) dX10_turn_150 (by decide) ?_
                    refine zz_join (pj := 188) (Lj := fun q240 => [none, some (zr 0 8 i), none]) (Sj := fun q240 => [zi q240, zi (8 : Int32), zr 0 8 i]) (Mj := fun q240 => [s0]) (fun q240 => ?_) (fun κ242 hj241 => ?_)
                    · refine zz_ix fun j246 hj246 hinj246 hej246 => zz_ias F (Ms' := [(zu s0 8 i j246 q240)]) dX10_turn_188 rfl (⟨zlb rfl, zlb rfl, hi⟩) rfl hinj246 hej246 rfl ?_
                      refine zz_letm (Mf := fun s0_247 => [s0_247]) fun s0_247 => ?_
                      refine zz_aload_n F (i := 1) dX10_turn_189 rfl rfl ?_
                      refine zz_bipush F (v := (8 : Int32)) dX10_turn_190 (by decide) ?_
                      refine zz_ix fun j248 hj248 hinj248 hej248 => zz_ial F dX10_turn_192 rfl (⟨zlb rfl, zlb rfl, hi⟩) rfl hinj248 hej248 ?_
                      refine zz_iconst F (v := (-1 : Int32)) dX10_turn_193 (by decide) ?_
                      refine zz_icmp_eq F (tgt := 201) dX10_turn_194 (by decide) (fun h => zz_t h ?_) (fun h => zz_f h ?_)
                      · exact zz_return F dX10_turn_201 rfl (hκ _)
                      · refine zz_aload_n F (i := 1) dX10_turn_197 rfl rfl ?_
                        refine zz_iconst F (v := (3 : Int32)) dX10_turn_198 (by decide) ?_
                        refine zz_iconst F (v := (3 : Int32)) dX10_turn_199 (by decide) ?_
                        refine zz_ix fun j249 hj249 hinj249 hej249 => zz_ias F (Ms' := [(zu s0_247 8 i j249 (3 : Int32))]) dX10_turn_200 rfl (⟨zlb rfl, zlb rfl, hi⟩) rfl hinj249 hej249 rfl ?_
                        refine zz_letm (Mf := fun s0_250 => [s0_250]) fun s0_250 => ?_
                        exact zz_return F dX10_turn_201 rfl (hκ _)
                    · refine zz_icmp_lt F (tgt := 160) dX10_turn_153 (by decide) (fun h => zz_t h ?_) (fun h => zz_f h ?_)
                      · refine zz_aload_n F (i := 1) dX10_turn_160 rfl rfl ?_
                        refine zz_bipush F (v := (12 : Int32)) dX10_turn_161 (by decide) ?_
                        refine zz_ix fun j244 hj244 hinj244 hej244 => zz_ial F dX10_turn_163 rfl (⟨zlb rfl, zlb rfl, hi⟩) rfl hinj244 hej244 ?_
                        refine zz_bipush F (v := (120 : Int32)) dX10_turn_164 (by decide) ?_
                        refine zz_icmp_lt F (tgt := 173) dX10_turn_166 (by decide) (fun h => zz_t h ?_) (fun h => zz_f h ?_)
                        · refine zz_aload_n F (i := 1) dX10_turn_173 rfl rfl ?_
                          refine zz_bipush F (v := (13 : Int32)) dX10_turn_174 (by decide) ?_
                          refine zz_ix fun j245 hj245 hinj245 hej245 => zz_ial F dX10_turn_176 rfl (⟨zlb rfl, zlb rfl, hi⟩) rfl hinj245 hej245 ?_
                          refine zz_sipush F (v := (200 : Int32)) dX10_turn_177 (by decide) ?_
                          refine zz_icmp_lt F (tgt := 187) dX10_turn_180 (by decide) (fun h => zz_t h ?_) (fun h => zz_f h ?_)
                          · refine zz_iconst F (v := (-1 : Int32)) dX10_turn_187 (by decide) ?_
                            exact zz_sub (zs_n (zs_k (zs_n zs_z))) (hj241 (-1 : Int32))
                          · refine zz_iconst F (v := (2 : Int32)) dX10_turn_183 (by decide) ?_
                            refine zz_goto F (tgt := 188) dX10_turn_184 (by decide) ?_
                            exact zz_sub (zs_n (zs_k (zs_n zs_z))) (hj241 (2 : Int32))
                        · refine zz_iconst F (v := (1 : Int32)) dX10_turn_169 (by decide) ?_
                          refine zz_goto F (tgt := 188) dX10_turn_170 (by decide) ?_
                          exact zz_sub (zs_n (zs_k (zs_n zs_z))) (hj241 (1 : Int32))
                      · refine zz_iconst F (v := (0 : Int32)) dX10_turn_156 (by decide) ?_
                        refine zz_goto F (tgt := 188) dX10_turn_157 (by decide) ?_
                        exact zz_sub (zs_n (zs_k (zs_n zs_z))) (hj241 (0 : Int32))
                · refine zz_aload_n F (i := 0) dX10_turn_115 rfl rfl ?_
                  refine zz_getf F dX10_turn_116 wfRX10_64 zCl_9 rfl (⟨zlb rfl, zlb rfl, zlb rfl⟩) rfl (by decide) rfl rfl ?_
                  refine zz_iconst F (v := (3 : Int32)) dX10_turn_119 (by decide) ?_
                  refine zz_bipush F (v := (25 : Int32)) dX10_turn_120 (by decide) ?_
                  refine zz_bind ?_
                  refine zz_callSNr F (ρ := []) (so := fun q251 => [zi q251]) (Mo := fun q251 => [s0]) (zfMO_in (s0 0 0 12) (3 : Int32) (25 : Int32)) dX10_turn_122 wcRX10_95 wy_yX11_in rfl ⟨rel17, rfl, rfl, Nat.le_of_ble_eq_true rfl, Nat.le_of_ble_eq_true rfl, Nat.le_of_ble_eq_true rfl⟩ rfl (fun _ => rfl) (fun _ => rfl) fun q251 => ?_
                  refine zz_if_ne F (tgt := 136) dX10_turn_125 (by decide) (fun h => zz_f h ?_) (fun h => zz_t h ?_)
                  · refine zz_aload_n F (i := 1) dX10_turn_136 rfl rfl ?_
                    refine zz_iconst F (v := (3 : Int32)) dX10_turn_137 (by decide) ?_
                    refine zz_ix fun j252 hj252 hinj252 hej252 => zz_ial F dX10_turn_138 rfl (⟨zlb rfl, zlb rfl, hi⟩) rfl hinj252 hej252 ?_
                    refine zz_iconst F (v := (2 : Int32)) dX10_turn_139 (by decide) ?_
                    refine zz_icmp_ne F (tgt := 201) dX10_turn_140 (by decide) (fun h => zz_f h ?_) (fun h => zz_t h ?_)
                    · exact zz_return F dX10_turn_201 rfl (hκ _)
                    · refine zz_aload_n F (i := 1) dX10_turn_143 rfl rfl ?_
                      refine zz_bipush F (v := (8 : Int32)) dX10_turn_144 (by decide) ?_
                      refine zz_aload_n F (i := 1) dX10_turn_146 rfl rfl ?_
                      refine zz_bipush F (v := (11 : Int32)) dX10_turn_147 (by decide) ?_
                      refine zz_ix fun j253 hj253 hinj253 hej253 => zz_ial F dX10_turn_149 rfl (⟨zlb rfl, zlb rfl, hi⟩) rfl hinj253 hej253 ?_
                      refine zz_sipush F (v := (150 : Int32)) dX10_turn_150 (by decide) ?_
                      refine zz_join (pj := 188) (Lj := fun q254 => [none, some (zr 0 8 i), none]) (Sj := fun q254 => [zi q254, zi (8 : Int32), zr 0 8 i]) (Mj := fun q254 => [s0]) (fun q254 => ?_) (fun κ256 hj255 => ?_)
                      · refine zz_ix fun j260 hj260 hinj260 hej260 => zz_ias F (Ms' := [(zu s0 8 i j260 q254)]) dX10_turn_188 rfl (⟨zlb rfl, zlb rfl, hi⟩) rfl hinj260 hej260 rfl ?_
                        refine zz_letm (Mf := fun s0_261 => [s0_261]) fun s0_261 => ?_
                        refine zz_aload_n F (i := 1) dX10_turn_189 rfl rfl ?_
                        refine zz_bipush F (v := (8 : Int32)) dX10_turn_190 (by decide) ?_
                        refine zz_ix fun j262 hj262 hinj262 hej262 => zz_ial F dX10_turn_192 rfl (⟨zlb rfl, zlb rfl, hi⟩) rfl hinj262 hej262 ?_
                        refine zz_iconst F (v := (-1 : Int32)) dX10_turn_193 (by decide) ?_
                        refine zz_icmp_eq F (tgt := 201) dX10_turn_194 (by decide) (fun h => zz_t h ?_) (fun h => zz_f h ?_)
                        · exact zz_return F dX10_turn_201 rfl (hκ _)
                        · refine zz_aload_n F (i := 1) dX10_turn_197 rfl rfl ?_
                          refine zz_iconst F (v := (3 : Int32)) dX10_turn_198 (by decide) ?_
                          refine zz_iconst F (v := (3 : Int32)) dX10_turn_199 (by decide) ?_
                          refine zz_ix fun j263 hj263 hinj263 hej263 => zz_ias F (Ms' := [(zu s0_261 8 i j263 (3 : Int32))]) dX10_turn_200 rfl (⟨zlb rfl, zlb rfl, hi⟩) rfl hinj263 hej263 rfl ?_
                          refine zz_letm (Mf := fun s0_264 => [s0_264]) fun s0_264 => ?_
                          exact zz_return F dX10_turn_201 rfl (hκ _)
                      · refine zz_icmp_lt F (tgt := 160) dX10_turn_153 (by decide) (fun h => zz_t h ?_) (fun h => zz_f h ?_)
                        · refine zz_aload_n F (i := 1) dX10_turn_160 rfl rfl ?_
                          refine zz_bipush F (v := (12 : Int32)) dX10_turn_161 (by decide) ?_
                          refine zz_ix fun j258 hj258 hinj258 hej258 => zz_ial F dX10_turn_163 rfl (⟨zlb rfl, zlb rfl, hi⟩) rfl hinj258 hej258 ?_
                          refine zz_bipush F (v := (120 : Int32)) dX10_turn_164 (by decide) ?_
                          refine zz_icmp_lt F (tgt := 173) dX10_turn_166 (by decide) (fun h => zz_t h ?_) (fun h => zz_f h ?_)
                          · refine zz_aload_n F (i := 1) dX10_turn_173 rfl rfl ?_
                            refine zz_bipush F (v := (13 : Int32)) dX10_turn_174 (by decide) ?_
                            refine zz_ix fun j259 hj259 hinj259 hej259 => zz_ial F dX10_turn_176 rfl (⟨zlb rfl, zlb rfl, hi⟩) rfl hinj259 hej259 ?_
                            refine zz_sipush F (v := (200 : Int32)) dX10_turn_177 (by decide) ?_
                            refine zz_icmp_lt F (tgt := 187) dX10_turn_180 (by decide) (fun h => zz_t h ?_) (fun h => zz_f h ?_)
                            · refine zz_iconst F (v := (-1 : Int32)) dX10_turn_187 (by decide) ?_
                              exact zz_sub (zs_n (zs_k (zs_n zs_z))) (hj255 (-1 : Int32))
                            · refine zz_iconst F (v := (2 : Int32)) dX10_turn_183 (by decide) ?_
                              refine zz_goto F (tgt := 188) dX10_turn_184 (by decide) ?_
                              exact zz_sub (zs_n (zs_k (zs_n zs_z))) (hj255 (2 : Int32))
                          · refine zz_iconst F (v := (1 : Int32)) dX10_turn_169 (by decide) ?_
                            refine zz_goto F (tgt := 188) dX10_turn_170 (by decide) ?_
                            exact zz_sub (zs_n (zs_k (zs_n zs_z))) (hj255 (1 : Int32))
                        · refine zz_iconst F (v := (0 : Int32)) dX10_turn_156 (by decide) ?_
                          refine zz_goto F (tgt := 188) dX10_turn_157 (by decide) ?_
                          exact zz_sub (zs_n (zs_k (zs_n zs_z))) (hj255 (0 : Int32))
                  · refine zz_aload_n F (i := 1) dX10_turn_128 rfl rfl ?_
                    refine zz_iconst F (v := (0 : Int32)) dX10_turn_129 (by decide) ?_
                    refine zz_bind ?_
                    refine zz_callSr F (ρ := [0]) (so := fun q265 => []) (Mo := fun q265 => [q265]) (zfMS_stop i (0 : Int32) hi s0) dX10_turn_130 wcRX10_143 wy_yX10_stop rfl ⟨rel18, rfl, rfl, Nat.le_of_ble_eq_true rfl, Nat.le_of_ble_eq_true rfl, Nat.le_of_ble_eq_true rfl⟩ rfl (fun _ => rfl) (fun _ => rfl) fun q265 => ?_
                    refine zz_goto F (tgt := 201) dX10_turn_133 (by decide) ?_
                    exact zz_return F dX10_turn_201 rfl (hκ _)
              · refine zz_aload_n F (i := 0) dX10_turn_88 rfl rfl ?_
                refine zz_getf F dX10_turn_89 wfRX10_64 zCl_9 rfl (⟨zlb rfl, zlb rfl, zlb rfl⟩) rfl (by decide) rfl rfl ?_
                refine zz_iconst F (v := (4 : Int32)) dX10_turn_92 (by decide) ?_
                refine zz_bipush F (v := (22 : Int32)) dX10_turn_93 (by decide) ?_
                refine zz_bind ?_
                refine zz_callSNr F (ρ := []) (so := fun q266 => [zi q266]) (Mo := fun q266 => [s0]) (zfMO_in (s0 0 0 12) (4 : Int32) (22 : Int32)) dX10_turn_95 wcRX10_95 wy_yX11_in rfl ⟨rel17, rfl, rfl, Nat.le_of_ble_eq_true rfl, Nat.le_of_ble_eq_true rfl, Nat.le_of_ble_eq_true rfl⟩ rfl (fun _ => rfl) (fun _ => rfl) fun q266 => ?_
                refine zz_if_eq F (tgt := 201) dX10_turn_98 (by decide) (fun h => zz_t h ?_) (fun h => zz_f h ?_)
                · exact zz_return F dX10_turn_201 rfl (hκ _)
                · refine zz_aload_n F (i := 1) dX10_turn_101 rfl rfl ?_
                  refine zz_bind ?_
                  refine zz_callSr F (ρ := [0]) (so := fun q267 => []) (Mo := fun q267 => [q267]) (zfMS_start i hi s0) dX10_turn_102 wcRX10_147 wy_yX10_start rfl ⟨rel18, rfl, rfl, Nat.le_of_ble_eq_true rfl, Nat.le_of_ble_eq_true rfl, Nat.le_of_ble_eq_true rfl⟩ rfl (fun _ => rfl) (fun _ => rfl) fun q267 => ?_
                  refine zz_goto F (tgt := 201) dX10_turn_105 (by decide) ?_
                  exact zz_return F dX10_turn_201 rfl (hκ _)
          · refine zz_aload_n F (i := 1) dX10_turn_68 rfl rfl ?_
            refine zz_iconst F (v := (3 : Int32)) dX10_turn_69 (by decide) ?_
            refine zz_iconst F (v := (2 : Int32)) dX10_turn_70 (by decide) ?_
            refine zz_ix fun j268 hj268 hinj268 hej268 => zz_ias F (Ms' := [(zu s0 8 i j268 (2 : Int32))]) dX10_turn_71 rfl (⟨zlb rfl, zlb rfl, hi⟩) rfl hinj268 hej268 rfl ?_
            refine zz_letm (Mf := fun s0_269 => [s0_269]) fun s0_269 => ?_
            refine zz_goto F (tgt := 201) dX10_turn_72 (by decide) ?_
            exact zz_return F dX10_turn_201 rfl (hκ _)
        · refine zz_aload_n F (i := 1) dX10_turn_42 rfl rfl ?_
          refine zz_bipush F (v := (10 : Int32)) dX10_turn_43 (by decide) ?_
          refine zz_ix fun j270 hj270 hinj270 hej270 => zz_ial F dX10_turn_45 rfl (⟨zlb rfl, zlb rfl, hi⟩) rfl hinj270 hej270 ?_
          refine zz_iconst F (v := (2 : Int32)) dX10_turn_46 (by decide) ?_
          refine zz_icmp_ne F (tgt := 61) dX10_turn_47 (by decide) (fun h => zz_f h ?_) (fun h => zz_t h ?_)
          · refine zz_aload_n F (i := 1) dX10_turn_61 rfl rfl ?_
            refine zz_iconst F (v := (3 : Int32)) dX10_turn_62 (by decide) ?_
            refine zz_ix fun j271 hj271 hinj271 hej271 => zz_ial F dX10_turn_63 rfl (⟨zlb rfl, zlb rfl, hi⟩) rfl hinj271 hej271 ?_
            refine zz_iconst F (v := (1 : Int32)) dX10_turn_64 (by decide) ?_
            refine zz_icmp_ne F (tgt := 75) dX10_turn_65 (by decide) (fun h => zz_f h ?_) (fun h => zz_t h ?_)
            · refine zz_aload_n F (i := 1) dX10_turn_75 rfl rfl ?_
              refine zz_iconst F (v := (3 : Int32)) dX10_turn_76 (by decide) ?_
              refine zz_ix fun j272 hj272 hinj272 hej272 => zz_ial F dX10_turn_77 rfl (⟨zlb rfl, zlb rfl, hi⟩) rfl hinj272 hej272 ?_
              refine zz_if_ne F (tgt := 108) dX10_turn_78 (by decide) (fun h => zz_f h ?_) (fun h => zz_t h ?_)
              · refine zz_aload_n F (i := 1) dX10_turn_108 rfl rfl ?_
                refine zz_iconst F (v := (3 : Int32)) dX10_turn_109 (by decide) ?_
                refine zz_ix fun j273 hj273 hinj273 hej273 => zz_ial F dX10_turn_110 rfl (⟨zlb rfl, zlb rfl, hi⟩) rfl hinj273 hej273 ?_
                refine zz_iconst F (v := (2 : Int32)) dX10_turn_111 (by decide) ?_
                refine zz_icmp_ne F (tgt := 136) dX10_turn_112 (by decide) (fun h => zz_f h ?_) (fun h => zz_t h ?_)
                · refine zz_aload_n F (i := 1) dX10_turn_136 rfl rfl ?_
                  refine zz_iconst F (v := (3 : Int32)) dX10_turn_137 (by decide) ?_
                  refine zz_ix fun j274 hj274 hinj274 hej274 => zz_ial F dX10_turn_138 rfl (⟨zlb rfl, zlb rfl, hi⟩) rfl hinj274 hej274 ?_
                  refine zz_iconst F (v := (2 : Int32)) dX10_turn_139 (by decide) ?_
                  refine zz_icmp_ne F (tgt := 201) dX10_turn_140 (by decide) (fun h => zz_f h ?_) (fun h => zz_t h ?_)
                  · exact zz_return F dX10_turn_201 rfl (hκ _)
                  · refine zz_aload_n F (i := 1) dX10_turn_143 rfl rfl ?_
                    refine zz_bipush F (v := (8 : Int32)) dX10_turn_144 (by decide) ?_
                    refine zz_aload_n F (i := 1) dX10_turn_146 rfl rfl ?_
                    refine zz_bipush F (v := (11 : Int32)) dX10_turn_147 (by decide) ?_
                    refine zz_ix fun j275 hj275 hinj275 hej275 => zz_ial F dX10_turn_149 rfl (⟨zlb rfl, zlb rfl, hi⟩) rfl hinj275 hej275 ?_
                    refine zz_sipush F (v := (150 : Int32)) dX10_turn_150 (by decide) ?_
                    refine zz_join (pj := 188) (Lj := fun q276 => [none, some (zr 0 8 i), none]) (Sj := fun q276 => [zi q276, zi (8 : Int32), zr 0 8 i]) (Mj := fun q276 => [s0]) (fun q276 => ?_) (fun κ278 hj277 => ?_)
                    · refine zz_ix fun j282 hj282 hinj282 hej282 => zz_ias F (Ms' := [(zu s0 8 i j282 q276)]) dX10_turn_188 rfl (⟨zlb rfl, zlb rfl, hi⟩) rfl hinj282 hej282 rfl ?_
                      refine zz_letm (Mf := fun s0_283 => [s0_283]) fun s0_283 => ?_
                      refine zz_aload_n F (i := 1) dX10_turn_189 rfl rfl ?_
                      refine zz_bipush F (v := (8 : Int32)) dX10_turn_190 (by decide) ?_
                      refine zz_ix fun j284 hj284 hinj284 hej284 => zz_ial F dX10_turn_192 rfl (⟨zlb rfl, zlb rfl, hi⟩) rfl hinj284 hej284 ?_
                      refine zz_iconst F (v := (-1 : Int32)) dX10_turn_193 (by decide) ?_
                      refine zz_icmp_eq F (tgt := 201) dX10_turn_194 (by decide) (fun h => zz_t h ?_) (fun h => zz_f h ?_)
                      · exact zz_return F dX10_turn_201 rfl (hκ _)
                      · refine zz_aload_n F (i := 1) dX10_turn_197 rfl rfl ?_
                        refine zz_iconst F (v := (3 : Int32)) dX10_turn_198 (by decide) ?_
                        refine zz_iconst F (v := (3 : Int32)) dX10_turn_199 (by decide) ?_
                        refine zz_ix fun j285 hj285 hinj285 hej285 => zz_ias F (Ms' := [(zu s0_283 8 i j285 (3 : Int32))]) dX10_turn_200 rfl (⟨zlb rfl, zlb rfl, hi⟩) rfl hinj285 hej285 rfl ?_
                        refine zz_letm (Mf := fun s0_286 => [s0_286]) fun s0_286 => ?_
                        exact zz_return F dX10_turn_201 rfl (hκ _)
                    · refine zz_icmp_lt F (tgt := 160) dX10_turn_153 (by decide) (fun h => zz_t h ?_) (fun h => zz_f h ?_)
                      · refine zz_aload_n F (i := 1) dX10_turn_160 rfl rfl ?_
                        refine zz_bipush F (v := (12 : Int32)) dX10_turn_161 (by decide) ?_
                        refine zz_ix fun j280 hj280 hinj280 hej280 => zz_ial F dX10_turn_163 rfl (⟨zlb rfl, zlb rfl, hi⟩) rfl hinj280 hej280 ?_
                        refine zz_bipush F (v := (120 : Int32)) dX10_turn_164 (by decide) ?_
                        refine zz_icmp_lt F (tgt := 173) dX10_turn_166 (by decide) (fun h => zz_t h ?_) (fun h => zz_f h ?_)
                        · refine zz_aload_n F (i := 1) dX10_turn_173 rfl rfl ?_
                          refine zz_bipush F (v := (13 : Int32)) dX10_turn_174 (by decide) ?_
                          refine zz_ix fun j281 hj281 hinj281 hej281 => zz_ial F dX10_turn_176 rfl (⟨zlb rfl, zlb rfl, hi⟩) rfl hinj281 hej281 ?_
                          refine zz_sipush F (v := (200 : Int32)) dX10_turn_177 (by decide) ?_
                          refine zz_icmp_lt F (tgt := 187) dX10_turn_180 (by decide) (fun h => zz_t h ?_) (fun h => zz_f h ?_)
                          · refine zz_iconst F (v := (-1 : Int32)) dX10_turn_187 (by decide) ?_
                            exact zz_sub (zs_n (zs_k (zs_n zs_z))) (hj277 (-1 : Int32))
                          · refine zz_iconst F (v := (2 : Int32)) dX10_turn_183 (by decide) ?_
                            refine zz_goto F (tgt := 188) dX10_turn_184 (by decide) ?_
                            exact zz_sub (zs_n (zs_k (zs_n zs_z))) (hj277 (2 : Int32))
                        · refine zz_iconst F (v := (1 : Int32)) dX10_turn_169 (by decide) ?_
                          refine zz_goto F (tgt := 188) dX10_turn_170 (by decide) ?_
                          exact zz_sub (zs_n (zs_k (zs_n zs_z))) (hj277 (1 : Int32))
                      · refine zz_iconst F (v := (0 : Int32)) dX10_turn_156 (by decide) ?_
                        refine zz_goto F (tgt := 188) dX10_turn_157 (by decide) ?_
                        exact zz_sub (zs_n (zs_k (zs_n zs_z))) (hj277 (0 : Int32))
                · refine zz_aload_n F (i := 0) dX10_turn_115 rfl rfl ?_
                  refine zz_getf F dX10_turn_116 wfRX10_64 zCl_9 rfl (⟨zlb rfl, zlb rfl, zlb rfl⟩) rfl (by decide) rfl rfl ?_
                  refine zz_iconst F (v := (3 : Int32)) dX10_turn_119 (by decide) ?_
                  refine zz_bipush F (v := (25 : Int32)) dX10_turn_120 (by decide) ?_
                  refine zz_bind ?_
                  refine zz_callSNr F (ρ := []) (so := fun q287 => [zi q287]) (Mo := fun q287 => [s0]) (zfMO_in (s0 0 0 12) (3 : Int32) (25 : Int32)) dX10_turn_122 wcRX10_95 wy_yX11_in rfl ⟨rel17, rfl, rfl, Nat.le_of_ble_eq_true rfl, Nat.le_of_ble_eq_true rfl, Nat.le_of_ble_eq_true rfl⟩ rfl (fun _ => rfl) (fun _ => rfl) fun q287 => ?_
                  refine zz_if_ne F (tgt := 136) dX10_turn_125 (by decide) (fun h => zz_f h ?_) (fun h => zz_t h ?_)
                  · refine zz_aload_n F (i := 1) dX10_turn_136 rfl rfl ?_
                    refine zz_iconst F (v := (3 : Int32)) dX10_turn_137 (by decide) ?_
                    refine zz_ix fun j288 hj288 hinj288 hej288 => zz_ial F dX10_turn_138 rfl (⟨zlb rfl, zlb rfl, hi⟩) rfl hinj288 hej288 ?_
                    refine zz_iconst F (v := (2 : Int32)) dX10_turn_139 (by decide) ?_
                    refine zz_icmp_ne F (tgt := 201) dX10_turn_140 (by decide) (fun h => zz_f h ?_) (fun h => zz_t h ?_)
                    · exact zz_return F dX10_turn_201 rfl (hκ _)
                    · refine zz_aload_n F (i := 1) dX10_turn_143 rfl rfl ?_
                      refine zz_bipush F (v := (8 : Int32)) dX10_turn_144 (by decide) ?_
                      refine zz_aload_n F (i := 1) dX10_turn_146 rfl rfl ?_
                      refine zz_bipush F (v := (11 : Int32)) dX10_turn_147 (by decide) ?_
                      refine zz_ix fun j289 hj289 hinj289 hej289 => zz_ial F dX10_turn_149 rfl (⟨zlb rfl, zlb rfl, hi⟩) rfl hinj289 hej289 ?_
                      refine zz_sipush F (v := (150 : Int32)) dX10_turn_150 (by decide) ?_
                      refine zz_join (pj := 188) (Lj := fun q290 => [none, some (zr 0 8 i), none]) (Sj := fun q290 => [zi q290, zi (8 : Int32), zr 0 8 i]) (Mj := fun q290 => [s0]) (fun q290 => ?_) (fun κ292 hj291 => ?_)
                      · refine zz_ix fun j296 hj296 hinj296 hej296 => zz_ias F (Ms' := [(zu s0 8 i j296 q290)]) dX10_turn_188 rfl (⟨zlb rfl, zlb rfl, hi⟩) rfl hinj296 hej296 rfl ?_
                        refine zz_letm (Mf := fun s0_297 => [s0_297]) fun s0_297 => ?_
                        refine zz_aload_n F (i := 1) dX10_turn_189 rfl rfl ?_
                        refine zz_bipush F (v := (8 : Int32)) dX10_turn_190 (by decide) ?_
                        refine zz_ix fun j298 hj298 hinj298 hej298 => zz_ial F dX10_turn_192 rfl (⟨zlb rfl, zlb rfl, hi⟩) rfl hinj298 hej298 ?_
                        refine zz_iconst F (v := (-1 : Int32)) dX10_turn_193 (by decide) ?_
                        refine zz_icmp_eq F (tgt := 201) dX10_turn_194 (by decide) (fun h => zz_t h ?_) (fun h => zz_f h ?_)
                        · exact zz_return F dX10_turn_201 rfl (hκ _)
                        · refine zz_aload_n F (i := 1) dX10_turn_197 rfl rfl ?_
                          refine zz_iconst F (v := (3 : Int32)) dX10_turn_198 (by decide) ?_
                          refine zz_iconst F (v := (3 : Int32)) dX10_turn_199 (by decide) ?_
                          refine zz_ix fun j299 hj299 hinj299 hej299 => zz_ias F (Ms' := [(zu s0_297 8 i j299 (3 : Int32))]) dX10_turn_200 rfl (⟨zlb rfl, zlb rfl, hi⟩) rfl hinj299 hej299 rfl ?_
                          refine zz_letm (Mf := fun s0_300 => [s0_300]) fun s0_300 => ?_
                          exact zz_return F dX10_turn_201 rfl (hκ _)
                      · refine zz_icmp_lt F (tgt := 160) dX10_turn_153 (by decide) (fun h => zz_t h ?_) (fun h => zz_f h ?_)
                        · refine zz_aload_n F (i := 1) dX10_turn_160 rfl rfl ?_
                          refine zz_bipush F (v := (12 : Int32)) dX10_turn_161 (by decide) ?_
                          refine zz_ix fun j294 hj294 hinj294 hej294 => zz_ial F dX10_turn_163 rfl (⟨zlb rfl, zlb rfl, hi⟩) rfl hinj294 hej294 ?_
                          refine zz_bipush F (v := (120 : Int32)) dX10_turn_164 (by decide) ?_
                          refine zz_icmp_lt F (tgt := 173) dX10_turn_166 (by decide) (fun h => zz_t h ?_) (fun h => zz_f h ?_)
                          · refine zz_aload_n F (i := 1) dX10_turn_173 rfl rfl ?_
                            refine zz_bipush F (v := (13 : Int32)) dX10_turn_174 (by decide) ?_
                            refine zz_ix fun j295 hj295 hinj295 hej295 => zz_ial F dX10_turn_176 rfl (⟨zlb rfl, zlb rfl, hi⟩) rfl hinj295 hej295 ?_
                            refine zz_sipush F (v := (200 : Int32)) dX10_turn_177 (by decide) ?_
                            refine zz_icmp_lt F (tgt := 187) dX10_turn_180 (by decide) (fun h => zz_t h ?_) (fun h => zz_f h ?_)
                            · refine zz_iconst F (v := (-1 : Int32)) dX10_turn_187 (by decide) ?_
                              exact zz_sub (zs_n (zs_k (zs_n zs_z))) (hj291 (-1 : Int32))
                            · refine zz_iconst F (v := (2 : Int32)) dX10_turn_183 (by decide) ?_
                              refine zz_goto F (tgt := 188) dX10_turn_184 (by decide) ?_
                              exact zz_sub (zs_n (zs_k (zs_n zs_z))) (hj291 (2 : Int32))
                          · refine zz_iconst F (v := (1 : Int32)) dX10_turn_169 (by decide) ?_
                            refine zz_goto F (tgt := 188) dX10_turn_170 (by decide) ?_
                            exact zz_sub (zs_n (zs_k (zs_n zs_z))) (hj291 (1 : Int32))
                        · refine zz_iconst F (v := (0 : Int32)) dX10_turn_156 (by decide) ?_
                          refine zz_goto F (tgt := 188) dX10_turn_157 (by decide) ?_
                          exact zz_sub (zs_n (zs_k (zs_n zs_z))) (hj291 (0 : Int32))
                  · refine zz_aload_n F (i := 1) dX10_turn_128 rfl rfl ?_
                    refine zz_iconst F (v := (0 : Int32)) dX10_turn_129 (by decide) ?_
                    refine zz_bind ?_
                    refine zz_callSr F (ρ := [0]) (so := fun q301 => []) (Mo := fun q301 => [q301]) (zfMS_stop i (0 : Int32) hi s0) dX10_turn_130 wcRX10_143 wy_yX10_stop rfl ⟨rel18, rfl, rfl, Nat.le_of_ble_eq_true rfl, Nat.le_of_ble_eq_true rfl, Nat.le_of_ble_eq_true rfl⟩ rfl (fun _ => rfl) (fun _ => rfl) fun q301 => ?_
                    refine zz_goto F (tgt := 201) dX10_turn_133 (by decide) ?_
                    exact zz_return F dX10_turn_201 rfl (hκ _)
              · refine zz_aload_n F (i := 1) dX10_turn_81 rfl rfl ?_
                refine zz_bipush F (v := (10 : Int32)) dX10_turn_82 (by decide) ?_
                refine zz_ix fun j302 hj302 hinj302 hej302 => zz_ial F dX10_turn_84 rfl (⟨zlb rfl, zlb rfl, hi⟩) rfl hinj302 hej302 ?_
                refine zz_if_ne F (tgt := 108) dX10_turn_85 (by decide) (fun h => zz_f h ?_) (fun h => zz_t h ?_)
                · refine zz_aload_n F (i := 1) dX10_turn_108 rfl rfl ?_
                  refine zz_iconst F (v := (3 : Int32)) dX10_turn_109 (by decide) ?_
                  refine zz_ix fun j303 hj303 hinj303 hej303 => zz_ial F dX10_turn_110 rfl (⟨zlb rfl, zlb rfl, hi⟩) rfl hinj303 hej303 ?_
                  refine zz_iconst F (v := (2 : Int32)) dX10_turn_111 (by decide) ?_
                  refine zz_icmp_ne F (tgt := 136) dX10_turn_112 (by decide) (fun h => zz_f h ?_) (fun h => zz_t h ?_)
                  · refine zz_aload_n F (i := 1) dX10_turn_136 rfl rfl ?_
                    refine zz_iconst F (v := (3 : Int32)) dX10_turn_137 (by decide) ?_
                    refine zz_ix fun j304 hj304 hinj304 hej304 => zz_ial F dX10_turn_138 rfl (⟨zlb rfl, zlb rfl, hi⟩) rfl hinj304 hej304 ?_
                    refine zz_iconst F (v := (2 : Int32)) dX10_turn_139 (by decide) ?_
                    refine zz_icmp_ne F (tgt := 201) dX10_turn_140 (by decide) (fun h => zz_f h ?_) (fun h => zz_t h ?_)
                    · exact zz_return F dX10_turn_201 rfl (hκ _)
                    · refine zz_aload_n F (i := 1) dX10_turn_143 rfl rfl ?_
                      refine zz_bipush F (v := (8 : Int32)) dX10_turn_144 (by decide) ?_
                      refine zz_aload_n F (i := 1) dX10_turn_146 rfl rfl ?_
                      refine zz_bipush F (v := (11 : Int32)) dX10_turn_147 (by decide) ?_
                      refine zz_ix fun j305 hj305 hinj305 hej305 => zz_ial F dX10_turn_149 rfl (⟨zlb rfl, zlb rfl, hi⟩) rfl hinj305 hej305 ?_
                      refine zz_sipush F (v := (150 : Int32)) dX10_turn_150 (by decide) ?_
                      refine zz_join (pj := 188) (Lj := fun q306 => [none, some (zr 0 8 i), none]) (Sj := fun q306 => [zi q306, zi (8 : Int32), zr 0 8 i]) (Mj := fun q306 => [s0]) (fun q306 => ?_) (fun κ308 hj307 => ?_)
                      · refine zz_ix fun j312 hj312 hinj312 hej312 => zz_ias F (Ms' := [(zu s0 8 i j312 q306)]) dX10_turn_188 rfl (⟨zlb rfl, zlb rfl, hi⟩) rfl hinj312 hej312 rfl ?_
                        refine zz_letm (Mf := fun s0_313 => [s0_313]) fun s0_313 => ?_
                        refine zz_aload_n F (i := 1) dX10_turn_189 rfl rfl ?_
                        refine zz_bipush F (v := (8 : Int32)) dX10_turn_190 (by decide) ?_
                        refine zz_ix fun j314 hj314 hinj314 hej314 => zz_ial F dX10_turn_192 rfl (⟨zlb rfl, zlb rfl, hi⟩) rfl hinj314 hej314 ?_
                        refine zz_iconst F (v := (-1 : Int32)) dX10_turn_193 (by decide) ?_
                        refine zz_icmp_eq F (tgt := 201) dX10_turn_194 (by decide) (fun h => zz_t h ?_) (fun h => zz_f h ?_)
                        · exact zz_return F dX10_turn_201 rfl (hκ _)
                        · refine zz_aload_n F (i := 1) dX10_turn_197 rfl rfl ?_
                          refine zz_iconst F (v := (3 : Int32)) dX10_turn_198 (by decide) ?_
                          refine zz_iconst F (v := (3 : Int32)) dX10_turn_199 (by decide) ?_
                          refine zz_ix fun j315 hj315 hinj315 hej315 => zz_ias F (Ms' := [(zu s0_313 8 i j315 (3 : Int32))]) dX10_turn_200 rfl (⟨zlb rfl, zlb rfl, hi⟩) rfl hinj315 hej315 rfl ?_
                          refine zz_letm (Mf := fun s0_316 => [s0_316]) fun s0_316 => ?_
                          exact zz_return F dX10_turn_201 rfl (hκ _)
                      · refine zz_icmp_lt F (tgt := 160) dX10_turn_153 (by decide) (fun h => zz_t h ?_) (fun h => zz_f h ?_)
                        · refine zz_aload_n F (i := 1) dX10_turn_160 rfl rfl ?_
                          refine zz_bipush F (v := (12 : Int32)) dX10_turn_161 (by decide) ?_
                          refine zz_ix fun j310 hj310 hinj310 hej310 => zz_ial F dX10_turn_163 rfl (⟨zlb rfl, zlb rfl, hi⟩) rfl hinj310 hej310 ?_
                          refine zz_bipush F (v := (120 : Int32)) dX10_turn_164 (by decide) ?_
                          refine zz_icmp_lt F (tgt := 173) dX10_turn_166 (by decide) (fun h => zz_t h ?_) (fun h => zz_f h ?_)
                          · refine zz_aload_n F (i := 1) dX10_turn_173 rfl rfl ?_
                            refine zz_bipush F (v := (13 : Int32)) dX10_turn_174 (by decide) ?_
                            refine zz_ix fun j311 hj311 hinj311 hej311 => zz_ial F dX10_turn_176 rfl (⟨zlb rfl, zlb rfl, hi⟩) rfl hinj311 hej311 ?_
                            refine zz_sipush F (v := (200 : Int32)) dX10_turn_177 (by decide) ?_
                            refine zz_icmp_lt F (tgt := 187) dX10_turn_180 (by decide) (fun h => zz_t h ?_) (fun h => zz_f h ?_)
                            · refine zz_iconst F (v := (-1 : Int32)) dX10_turn_187 (by decide) ?_
                              exact zz_sub (zs_n (zs_k (zs_n zs_z))) (hj307 (-1 : Int32))
                            · refine zz_iconst F (v := (2 : Int32)) dX10_turn_183 (by decide) ?_
                              refine zz_goto F (tgt := 188) dX10_turn_184 (by decide) ?_
                              exact zz_sub (zs_n (zs_k (zs_n zs_z))) (hj307 (2 : Int32))
                          · refine zz_iconst F (v := (1 : Int32)) dX10_turn_169 (by decide) ?_
                            refine zz_goto F (tgt := 188) dX10_turn_170 (by decide) ?_
                            exact zz_sub (zs_n (zs_k (zs_n zs_z))) (hj307 (1 : Int32))
                        · refine zz_iconst F (v := (0 : Int32)) dX10_turn_156 (by decide) ?_
                          refine zz_goto F (tgt := 188) dX10_turn_157 (by decide) ?_
                          exact zz_sub (zs_n (zs_k (zs_n zs_z))) (hj307 (0 : Int32))
                  · refine zz_aload_n F (i := 0) dX10_turn_115 rfl rfl ?_
                    refine zz_getf F dX10_turn_116 wfRX10_64 zCl_9 rfl (⟨zlb rfl, zlb rfl, zlb rfl⟩) rfl (by decide) rfl rfl ?_
                    refine zz_iconst F (v := (3 : Int32)) dX10_turn_119 (by decide) ?_
                    refine zz_bipush F (v := (25 : Int32)) dX10_turn_120 (by decide) ?_
                    refine zz_bind ?_
                    refine zz_callSNr F (ρ := []) (so := fun q317 => [zi q317]) (Mo := fun q317 => [s0]) (zfMO_in (s0 0 0 12) (3 : Int32) (25 : Int32)) dX10_turn_122 wcRX10_95 wy_yX11_in rfl ⟨rel17, rfl, rfl, Nat.le_of_ble_eq_true rfl, Nat.le_of_ble_eq_true rfl, Nat.le_of_ble_eq_true rfl⟩ rfl (fun _ => rfl) (fun _ => rfl) fun q317 => ?_
                    refine zz_if_ne F (tgt := 136) dX10_turn_125 (by decide) (fun h => zz_f h ?_) (fun h => zz_t h ?_)
                    · refine zz_aload_n F (i := 1) dX10_turn_136 rfl rfl ?_
                      refine zz_iconst F (v := (3 : Int32)) dX10_turn_137 (by decide) ?_
                      refine zz_ix fun j318 hj318 hinj318 hej318 => zz_ial F dX10_turn_138 rfl (⟨zlb rfl, zlb rfl, hi⟩) rfl hinj318 hej318 ?_
                      refine zz_iconst F (v := (2 : Int32)) dX10_turn_139 (by decide) ?_
                      refine zz_icmp_ne F (tgt := 201) dX10_turn_140 (by decide) (fun h => zz_f h ?_) (fun h => zz_t h ?_)
                      · exact zz_return F dX10_turn_201 rfl (hκ _)
                      · refine zz_aload_n F (i := 1) dX10_turn_143 rfl rfl ?_
                        refine zz_bipush F (v := (8 : Int32)) dX10_turn_144 (by decide) ?_
                        refine zz_aload_n F (i := 1) dX10_turn_146 rfl rfl ?_
                        refine zz_bipush F (v := (11 : Int32)) dX10_turn_147 (by decide) ?_
                        refine zz_ix fun j319 hj319 hinj319 hej319 => zz_ial F dX10_turn_149 rfl (⟨zlb rfl, zlb rfl, hi⟩) rfl hinj319 hej319 ?_
                        refine zz_sipush F (v := (150 : Int32)) dX10_turn_150 (by decide) ?_
                        refine zz_join (pj := 188) (Lj := fun q320 => [none, some (zr 0 8 i), none]) (Sj := fun q320 => [zi q320, zi (8 : Int32), zr 0 8 i]) (Mj := fun q320 => [s0]) (fun q320 => ?_) (fun κ322 hj321 => ?_)
                        · refine zz_ix fun j326 hj326 hinj326 hej326 => zz_ias F (Ms' := [(zu s0 8 i j326 q320)]) dX10_turn_188 rfl (⟨zlb rfl, zlb rfl, hi⟩) rfl hinj326 hej326 rfl ?_
                          refine zz_letm (Mf := fun s0_327 => [s0_327]) fun s0_327 => ?_
                          refine zz_aload_n F (i := 1) dX10_turn_189 rfl rfl ?_
                          refine zz_bipush F (v := (8 : Int32)) dX10_turn_190 (by decide) ?_
                          refine zz_ix fun j328 hj328 hinj328 hej328 => zz_ial F dX10_turn_192 rfl (⟨zlb rfl, zlb rfl, hi⟩) rfl hinj328 hej328 ?_
                          refine zz_iconst F (v := (-1 : Int32)) dX10_turn_193 (by decide) ?_
                          refine zz_icmp_eq F (tgt := 201) dX10_turn_194 (by decide) (fun h => zz_t h ?_) (fun h => zz_f h ?_)
                          · exact zz_return F dX10_turn_201 rfl (hκ _)
                          · refine zz_aload_n F (i := 1) dX10_turn_197 rfl rfl ?_
                            refine zz_iconst F (v := (3 : Int32)) dX10_turn_198 (by decide) ?_
                            refine zz_iconst F (v := (3 : Int32)) dX10_turn_199 (by decide) ?_
                            refine zz_ix fun j329 hj329 hinj329 hej329 => zz_ias F (Ms' := [(zu s0_327 8 i j329 (3 : Int32))]) dX10_turn_200 rfl (⟨zlb rfl, zlb rfl, hi⟩) rfl hinj329 hej329 rfl ?_
                            refine zz_letm (Mf := fun s0_330 => [s0_330]) fun s0_330 => ?_
                            exact zz_return F dX10_turn_201 rfl (hκ _)
                        · refine zz_icmp_lt F (tgt := 160) dX10_turn_153 (by decide) (fun h => zz_t h ?_) (fun h => zz_f h ?_)
                          · refine zz_aload_n F (i := 1) dX10_turn_160 rfl rfl ?_
                            refine zz_bipush F (v := (12 : Int32)) dX10_turn_161 (by decide) ?_
                            refine zz_ix fun j324 hj324 hinj324 hej324 => zz_ial F dX10_turn_163 rfl (⟨zlb rfl, zlb rfl, hi⟩) rfl hinj324 hej324 ?_
                            refine zz_bipush F (v := (120 : Int32)) dX10_turn_164 (by decide) ?_
                            refine zz_icmp_lt F (tgt := 173) dX10_turn_166 (by decide) (fun h => zz_t h ?_) (fun h => zz_f h ?_)
                            · refine zz_aload_n F (i := 1) dX10_turn_173 rfl rfl ?_
                              refine zz_bipush F (v := (13 : Int32)) dX10_turn_174 (by decide) ?_
                              refine zz_ix fun j325 hj325 hinj325 hej325 => zz_ial F dX10_turn_176 rfl (⟨zlb rfl, zlb rfl, hi⟩) rfl hinj325 hej325 ?_
                              refine zz_sipush F (v := (200 : Int32)) dX10_turn_177 (by decide) ?_
                              refine zz_icmp_lt F (tgt := 187) dX10_turn_180 (by decide) (fun h => zz_t h ?_) (fun h => zz_f h ?_)
                              · refine zz_iconst F (v := (-1 : Int32)) dX10_turn_187 (by decide) ?_
                                exact zz_sub (zs_n (zs_k (zs_n zs_z))) (hj321 (-1 : Int32))
                              · refine zz_iconst F (v := (2 : Int32)) dX10_turn_183 (by decide) ?_
                                refine zz_goto F (tgt := 188) dX10_turn_184 (by decide) ?_
                                exact zz_sub (zs_n (zs_k (zs_n zs_z))) (hj321 (2 : Int32))
                            · refine zz_iconst F (v := (1 : Int32)) dX10_turn_169 (by decide) ?_
                              refine zz_goto F (tgt := 188) dX10_turn_170 (by decide) ?_
                              exact zz_sub (zs_n (zs_k (zs_n zs_z))) (hj321 (1 : Int32))
                          · refine zz_iconst F (v := (0 : Int32)) dX10_turn_156 (by decide) ?_
                            refine zz_goto F (tgt := 188) dX10_turn_157 (by decide) ?_
                            exact zz_sub (zs_n (zs_k (zs_n zs_z))) (hj321 (0 : Int32))
                    · refine zz_aload_n F (i := 1) dX10_turn_128 rfl rfl ?_
                      refine zz_iconst F (v := (0 : Int32)) dX10_turn_129 (by decide) ?_
                      refine zz_bind ?_
                      refine zz_callSr F (ρ := [0]) (so := fun q331 => []) (Mo := fun q331 => [q331]) (zfMS_stop i (0 : Int32) hi s0) dX10_turn_130 wcRX10_143 wy_yX10_stop rfl ⟨rel18, rfl, rfl, Nat.le_of_ble_eq_true rfl, Nat.le_of_ble_eq_true rfl, Nat.le_of_ble_eq_true rfl⟩ rfl (fun _ => rfl) (fun _ => rfl) fun q331 => ?_
                      refine zz_goto F (tgt := 201) dX10_turn_133 (by decide) ?_
                      exact zz_return F dX10_turn_201 rfl (hκ _)
                · refine zz_aload_n F (i := 0) dX10_turn_88 rfl rfl ?_
                  refine zz_getf F dX10_turn_89 wfRX10_64 zCl_9 rfl (⟨zlb rfl, zlb rfl, zlb rfl⟩) rfl (by decide) rfl rfl ?_
                  refine zz_iconst F (v := (4 : Int32)) dX10_turn_92 (by decide) ?_
                  refine zz_bipush F (v := (22 : Int32)) dX10_turn_93 (by decide) ?_
                  refine zz_bind ?_
                  refine zz_callSNr F (ρ := []) (so := fun q332 => [zi q332]) (Mo := fun q332 => [s0]) (zfMO_in (s0 0 0 12) (4 : Int32) (22 : Int32)) dX10_turn_95 wcRX10_95 wy_yX11_in rfl ⟨rel17, rfl, rfl, Nat.le_of_ble_eq_true rfl, Nat.le_of_ble_eq_true rfl, Nat.le_of_ble_eq_true rfl⟩ rfl (fun _ => rfl) (fun _ => rfl) fun q332 => ?_
                  refine zz_if_eq F (tgt := 201) dX10_turn_98 (by decide) (fun h => zz_t h ?_) (fun h => zz_f h ?_)
                  · exact zz_return F dX10_turn_201 rfl (hκ _)
                  · refine zz_aload_n F (i := 1) dX10_turn_101 rfl rfl ?_
                    refine zz_bind ?_
                    refine zz_callSr F (ρ := [0]) (so := fun q333 => []) (Mo := fun q333 => [q333]) (zfMS_start i hi s0) dX10_turn_102 wcRX10_147 wy_yX10_start rfl ⟨rel18, rfl, rfl, Nat.le_of_ble_eq_true rfl, Nat.le_of_ble_eq_true rfl, Nat.le_of_ble_eq_true rfl⟩ rfl (fun _ => rfl) (fun _ => rfl) fun q333 => ?_
                    refine zz_goto F (tgt := 201) dX10_turn_105 (by decide) ?_
                    exact zz_return F dX10_turn_201 rfl (hκ _)
            · refine zz_aload_n F (i := 1) dX10_turn_68 rfl rfl ?_
              refine zz_iconst F (v := (3 : Int32)) dX10_turn_69 (by decide) ?_
              refine zz_iconst F (v := (2 : Int32)) dX10_turn_70 (by decide) ?_
              refine zz_ix fun j334 hj334 hinj334 hej334 => zz_ias F (Ms' := [(zu s0 8 i j334 (2 : Int32))]) dX10_turn_71 rfl (⟨zlb rfl, zlb rfl, hi⟩) rfl hinj334 hej334 rfl ?_
              refine zz_letm (Mf := fun s0_335 => [s0_335]) fun s0_335 => ?_
              refine zz_goto F (tgt := 201) dX10_turn_72 (by decide) ?_
              exact zz_return F dX10_turn_201 rfl (hκ _)
          · refine zz_iload_n F (i := 2) dX10_turn_50 rfl rfl ?_
            refine zz_if_ne F (tgt := 61) dX10_turn_51 (by decide) (fun h => zz_f h ?_) (fun h => zz_t h ?_)
            · refine zz_aload_n F (i := 1) dX10_turn_61 rfl rfl ?_
              refine zz_iconst F (v := (3 : Int32)) dX10_turn_62 (by decide) ?_
              refine zz_ix fun j336 hj336 hinj336 hej336 => zz_ial F dX10_turn_63 rfl (⟨zlb rfl, zlb rfl, hi⟩) rfl hinj336 hej336 ?_
              refine zz_iconst F (v := (1 : Int32)) dX10_turn_64 (by decide) ?_
              refine zz_icmp_ne F (tgt := 75) dX10_turn_65 (by decide) (fun h => zz_f h ?_) (fun h => zz_t h ?_)
              · refine zz_aload_n F (i := 1) dX10_turn_75 rfl rfl ?_
                refine zz_iconst F (v := (3 : Int32)) dX10_turn_76 (by decide) ?_
                refine zz_ix fun j337 hj337 hinj337 hej337 => zz_ial F dX10_turn_77 rfl (⟨zlb rfl, zlb rfl, hi⟩) rfl hinj337 hej337 ?_
                refine zz_if_ne F (tgt := 108) dX10_turn_78 (by decide) (fun h => zz_f h ?_) (fun h => zz_t h ?_)
                · refine zz_aload_n F (i := 1) dX10_turn_108 rfl rfl ?_
                  refine zz_iconst F (v := (3 : Int32)) dX10_turn_109 (by decide) ?_
                  refine zz_ix fun j338 hj338 hinj338 hej338 => zz_ial F dX10_turn_110 rfl (⟨zlb rfl, zlb rfl, hi⟩) rfl hinj338 hej338 ?_
                  refine zz_iconst F (v := (2 : Int32)) dX10_turn_111 (by decide) ?_
                  refine zz_icmp_ne F (tgt := 136) dX10_turn_112 (by decide) (fun h => zz_f h ?_) (fun h => zz_t h ?_)
                  · refine zz_aload_n F (i := 1) dX10_turn_136 rfl rfl ?_
                    refine zz_iconst F (v := (3 : Int32)) dX10_turn_137 (by decide) ?_
                    refine zz_ix fun j339 hj339 hinj339 hej339 => zz_ial F dX10_turn_138 rfl (⟨zlb rfl, zlb rfl, hi⟩) rfl hinj339 hej339 ?_
                    refine zz_iconst F (v := (2 : Int32)) dX10_turn_139 (by decide) ?_
                    refine zz_icmp_ne F (tgt := 201) dX10_turn_140 (by decide) (fun h => zz_f h ?_) (fun h => zz_t h ?_)
                    · exact zz_return F dX10_turn_201 rfl (hκ _)
                    · refine zz_aload_n F (i := 1) dX10_turn_143 rfl rfl ?_
                      refine zz_bipush F (v := (8 : Int32)) dX10_turn_144 (by decide) ?_
                      refine zz_aload_n F (i := 1) dX10_turn_146 rfl rfl ?_
                      refine zz_bipush F (v := (11 : Int32)) dX10_turn_147 (by decide) ?_
                      refine zz_ix fun j340 hj340 hinj340 hej340 => zz_ial F dX10_turn_149 rfl (⟨zlb rfl, zlb rfl, hi⟩) rfl hinj340 hej340 ?_
                      refine zz_sipush F (v := (150 : Int32)) dX10_turn_150 (by decide) ?_
                      refine zz_join (pj := 188) (Lj := fun q341 => [none, some (zr 0 8 i), none]) (Sj := fun q341 => [zi q341, zi (8 : Int32), zr 0 8 i]) (Mj := fun q341 => [s0]) (fun q341 => ?_) (fun κ343 hj342 => ?_)
                      · refine zz_ix fun j347 hj347 hinj347 hej347 => zz_ias F (Ms' := [(zu s0 8 i j347 q341)]) dX10_turn_188 rfl (⟨zlb rfl, zlb rfl, hi⟩) rfl hinj347 hej347 rfl ?_
                        refine zz_letm (Mf := fun s0_348 => [s0_348]) fun s0_348 => ?_
                        refine zz_aload_n F (i := 1) dX10_turn_189 rfl rfl ?_
                        refine zz_bipush F (v := (8 : Int32)) dX10_turn_190 (by decide) ?_
                        refine zz_ix fun j349 hj349 hinj349 hej349 => zz_ial F dX10_turn_192 rfl (⟨zlb rfl, zlb rfl, hi⟩) rfl hinj349 hej349 ?_
                        refine zz_iconst F (v := (-1 : Int32)) dX10_turn_193 (by decide) ?_
                        refine zz_icmp_eq F (tgt := 201) dX10_turn_194 (by decide) (fun h => zz_t h ?_) (fun h => zz_f h ?_)
                        · exact zz_return F dX10_turn_201 rfl (hκ _)
                        · refine zz_aload_n F (i := 1) dX10_turn_197 rfl rfl ?_
                          refine zz_iconst F (v := (3 : Int32)) dX10_turn_198 (by decide) ?_
                          refine zz_iconst F (v := (3 : Int32)) dX10_turn_199 (by decide) ?_
                          refine zz_ix fun j350 hj350 hinj350 hej350 => zz_ias F (Ms' := [(zu s0_348 8 i j350 (3 : Int32))]) dX10_turn_200 rfl (⟨zlb rfl, zlb rfl, hi⟩) rfl hinj350 hej350 rfl ?_
                          refine zz_letm (Mf := fun s0_351 => [s0_351]) fun s0_351 => ?_
                          exact zz_return F dX10_turn_201 rfl (hκ _)
                      · refine zz_icmp_lt F (tgt := 160) dX10_turn_153 (by decide) (fun h => zz_t h ?_) (fun h => zz_f h ?_)
                        · refine zz_aload_n F (i := 1) dX10_turn_160 rfl rfl ?_
                          refine zz_bipush F (v := (12 : Int32)) dX10_turn_161 (by decide) ?_
                          refine zz_ix fun j345 hj345 hinj345 hej345 => zz_ial F dX10_turn_163 rfl (⟨zlb rfl, zlb rfl, hi⟩) rfl hinj345 hej345 ?_
                          refine zz_bipush F (v := (120 : Int32)) dX10_turn_164 (by decide) ?_
                          refine zz_icmp_lt F (tgt := 173) dX10_turn_166 (by decide) (fun h => zz_t h ?_) (fun h => zz_f h ?_)
                          · refine zz_aload_n F (i := 1) dX10_turn_173 rfl rfl ?_
                            refine zz_bipush F (v := (13 : Int32)) dX10_turn_174 (by decide) ?_
                            refine zz_ix fun j346 hj346 hinj346 hej346 => zz_ial F dX10_turn_176 rfl (⟨zlb rfl, zlb rfl, hi⟩) rfl hinj346 hej346 ?_
                            refine zz_sipush F (v := (200 : Int32)) dX10_turn_177 (by decide) ?_
                            refine zz_icmp_lt F (tgt := 187) dX10_turn_180 (by decide) (fun h => zz_t h ?_) (fun h => zz_f h ?_)
                            · refine zz_iconst F (v := (-1 : Int32)) dX10_turn_187 (by decide) ?_
                              exact zz_sub (zs_n (zs_k (zs_n zs_z))) (hj342 (-1 : Int32))
                            · refine zz_iconst F (v := (2 : Int32)) dX10_turn_183 (by decide) ?_
                              refine zz_goto F (tgt := 188) dX10_turn_184 (by decide) ?_
                              exact zz_sub (zs_n (zs_k (zs_n zs_z))) (hj342 (2 : Int32))
                          · refine zz_iconst F (v := (1 : Int32)) dX10_turn_169 (by decide) ?_
                            refine zz_goto F (tgt := 188) dX10_turn_170 (by decide) ?_
                            exact zz_sub (zs_n (zs_k (zs_n zs_z))) (hj342 (1 : Int32))
                        · refine zz_iconst F (v := (0 : Int32)) dX10_turn_156 (by decide) ?_
                          refine zz_goto F (tgt := 188) dX10_turn_157 (by decide) ?_
                          exact zz_sub (zs_n (zs_k (zs_n zs_z))) (hj342 (0 : Int32))
                  · refine zz_aload_n F (i := 0) dX10_turn_115 rfl rfl ?_
                    refine zz_getf F dX10_turn_116 wfRX10_64 zCl_9 rfl (⟨zlb rfl, zlb rfl, zlb rfl⟩) rfl (by decide) rfl rfl ?_
                    refine zz_iconst F (v := (3 : Int32)) dX10_turn_119 (by decide) ?_
                    refine zz_bipush F (v := (25 : Int32)) dX10_turn_120 (by decide) ?_
                    refine zz_bind ?_
                    refine zz_callSNr F (ρ := []) (so := fun q352 => [zi q352]) (Mo := fun q352 => [s0]) (zfMO_in (s0 0 0 12) (3 : Int32) (25 : Int32)) dX10_turn_122 wcRX10_95 wy_yX11_in rfl ⟨rel17, rfl, rfl, Nat.le_of_ble_eq_true rfl, Nat.le_of_ble_eq_true rfl, Nat.le_of_ble_eq_true rfl⟩ rfl (fun _ => rfl) (fun _ => rfl) fun q352 => ?_
                    refine zz_if_ne F (tgt := 136) dX10_turn_125 (by decide) (fun h => zz_f h ?_) (fun h => zz_t h ?_)
                    · refine zz_aload_n F (i := 1) dX10_turn_136 rfl rfl ?_
                      refine zz_iconst F (v := (3 : Int32)) dX10_turn_137 (by decide) ?_
                      refine zz_ix fun j353 hj353 hinj353 hej353 => zz_ial F dX10_turn_138 rfl (⟨zlb rfl, zlb rfl, hi⟩) rfl hinj353 hej353 ?_
                      refine zz_iconst F (v := (2 : Int32)) dX10_turn_139 (by decide) ?_
                      refine zz_icmp_ne F (tgt := 201) dX10_turn_140 (by decide) (fun h => zz_f h ?_) (fun h => zz_t h ?_)
                      · exact zz_return F dX10_turn_201 rfl (hκ _)
                      · refine zz_aload_n F (i := 1) dX10_turn_143 rfl rfl ?_
                        refine zz_bipush F (v := (8 : Int32)) dX10_turn_144 (by decide) ?_
                        refine zz_aload_n F (i := 1) dX10_turn_146 rfl rfl ?_
                        refine zz_bipush F (v := (11 : Int32)) dX10_turn_147 (by decide) ?_
                        refine zz_ix fun j354 hj354 hinj354 hej354 => zz_ial F dX10_turn_149 rfl (⟨zlb rfl, zlb rfl, hi⟩) rfl hinj354 hej354 ?_
                        refine zz_sipush F (v := (150 : Int32)) dX10_turn_150 (by decide) ?_
                        refine zz_join (pj := 188) (Lj := fun q355 => [none, some (zr 0 8 i), none]) (Sj := fun q355 => [zi q355, zi (8 : Int32), zr 0 8 i]) (Mj := fun q355 => [s0]) (fun q355 => ?_) (fun κ357 hj356 => ?_)
                        · refine zz_ix fun j361 hj361 hinj361 hej361 => zz_ias F (Ms' := [(zu s0 8 i j361 q355)]) dX10_turn_188 rfl (⟨zlb rfl, zlb rfl, hi⟩) rfl hinj361 hej361 rfl ?_
                          refine zz_letm (Mf := fun s0_362 => [s0_362]) fun s0_362 => ?_
                          refine zz_aload_n F (i := 1) dX10_turn_189 rfl rfl ?_
                          refine zz_bipush F (v := (8 : Int32)) dX10_turn_190 (by decide) ?_
                          refine zz_ix fun j363 hj363 hinj363 hej363 => zz_ial F dX10_turn_192 rfl (⟨zlb rfl, zlb rfl, hi⟩) rfl hinj363 hej363 ?_
                          refine zz_iconst F (v := (-1 : Int32)) dX10_turn_193 (by decide) ?_
                          refine zz_icmp_eq F (tgt := 201) dX10_turn_194 (by decide) (fun h => zz_t h ?_) (fun h => zz_f h ?_)
                          · exact zz_return F dX10_turn_201 rfl (hκ _)
                          · refine zz_aload_n F (i := 1) dX10_turn_197 rfl rfl ?_
                            refine zz_iconst F (v := (3 : Int32)) dX10_turn_198 (by decide) ?_
                            refine zz_iconst F (v := (3 : Int32)) dX10_turn_199 (by decide) ?_
                            refine zz_ix fun j364 hj364 hinj364 hej364 => zz_ias F (Ms' := [(zu s0_362 8 i j364 (3 : Int32))]) dX10_turn_200 rfl (⟨zlb rfl, zlb rfl, hi⟩) rfl hinj364 hej364 rfl ?_
                            refine zz_letm (Mf := fun s0_365 => [s0_365]) fun s0_365 => ?_
                            exact zz_return F dX10_turn_201 rfl (hκ _)
                        · refine zz_icmp_lt F (tgt := 160) dX10_turn_153 (by decide) (fun h => zz_t h ?_) (fun h => zz_f h ?_)
                          · refine zz_aload_n F (i := 1) dX10_turn_160 rfl rfl ?_
                            refine zz_bipush F (v := (12 : Int32)) dX10_turn_161 (by decide) ?_
                            refine zz_ix fun j359 hj359 hinj359 hej359 => zz_ial F dX10_turn_163 rfl (⟨zlb rfl, zlb rfl, hi⟩) rfl hinj359 hej359 ?_
                            refine zz_bipush F (v := (120 : Int32)) dX10_turn_164 (by decide) ?_
                            refine zz_icmp_lt F (tgt := 173) dX10_turn_166 (by decide) (fun h => zz_t h ?_) (fun h => zz_f h ?_)
                            · refine zz_aload_n F (i := 1) dX10_turn_173 rfl rfl ?_
                              refine zz_bipush F (v := (13 : Int32)) dX10_turn_174 (by decide) ?_
                              refine zz_ix fun j360 hj360 hinj360 hej360 => zz_ial F dX10_turn_176 rfl (⟨zlb rfl, zlb rfl, hi⟩) rfl hinj360 hej360 ?_
                              refine zz_sipush F (v := (200 : Int32)) dX10_turn_177 (by decide) ?_
                              refine zz_icmp_lt F (tgt := 187) dX10_turn_180 (by decide) (fun h => zz_t h ?_) (fun h => zz_f h ?_)
                              · refine zz_iconst F (v := (-1 : Int32)) dX10_turn_187 (by decide) ?_
                                exact zz_sub (zs_n (zs_k (zs_n zs_z))) (hj356 (-1 : Int32))
                              · refine zz_iconst F (v := (2 : Int32)) dX10_turn_183 (by decide) ?_
                                refine zz_goto F (tgt := 188) dX10_turn_184 (by decide) ?_
                                exact zz_sub (zs_n (zs_k (zs_n zs_z))) (hj356 (2 : Int32))
                            · refine zz_iconst F (v := (1 : Int32)) dX10_turn_169 (by decide) ?_
                              refine zz_goto F (tgt := 188) dX10_turn_170 (by decide) ?_
                              exact zz_sub (zs_n (zs_k (zs_n zs_z))) (hj356 (1 : Int32))
                          · refine zz_iconst F (v := (0 : Int32)) dX10_turn_156 (by decide) ?_
                            refine zz_goto F (tgt := 188) dX10_turn_157 (by decide) ?_
                            exact zz_sub (zs_n (zs_k (zs_n zs_z))) (hj356 (0 : Int32))
                    · refine zz_aload_n F (i := 1) dX10_turn_128 rfl rfl ?_
                      refine zz_iconst F (v := (0 : Int32)) dX10_turn_129 (by decide) ?_
                      refine zz_bind ?_
                      refine zz_callSr F (ρ := [0]) (so := fun q366 => []) (Mo := fun q366 => [q366]) (zfMS_stop i (0 : Int32) hi s0) dX10_turn_130 wcRX10_143 wy_yX10_stop rfl ⟨rel18, rfl, rfl, Nat.le_of_ble_eq_true rfl, Nat.le_of_ble_eq_true rfl, Nat.le_of_ble_eq_true rfl⟩ rfl (fun _ => rfl) (fun _ => rfl) fun q366 => ?_
                      refine zz_goto F (tgt := 201) dX10_turn_133 (by decide) ?_
                      exact zz_return F dX10_turn_201 rfl (hκ _)
                · refine zz_aload_n F (i := 1) dX10_turn_81 rfl rfl ?_
                  refine zz_bipush F (v := (10 : Int32)) dX10_turn_82 (by decide) ?_
                  refine zz_ix fun j367 hj367 hinj367 hej367 => zz_ial F dX10_turn_84 rfl (⟨zlb rfl, zlb rfl, hi⟩) rfl hinj367 hej367 ?_
                  refine zz_if_ne F (tgt := 108) dX10_turn_85 (by decide) (fun h => zz_f h ?_) (fun h => zz_t h ?_)
                  · refine zz_aload_n F (i := 1) dX10_turn_108 rfl rfl ?_
                    refine zz_iconst F (v := (3 : Int32)) dX10_turn_109 (by decide) ?_
                    refine zz_ix fun j368 hj368 hinj368 hej368 => zz_ial F dX10_turn_110 rfl (⟨zlb rfl, zlb rfl, hi⟩) rfl hinj368 hej368 ?_
                    refine zz_iconst F (v := (2 : Int32)) dX10_turn_111 (by decide) ?_
                    refine zz_icmp_ne F (tgt := 136) dX10_turn_112 (by decide) (fun h => zz_f h ?_) (fun h => zz_t h ?_)
                    · refine zz_aload_n F (i := 1) dX10_turn_136 rfl rfl ?_
                      refine zz_iconst F (v := (3 : Int32)) dX10_turn_137 (by decide) ?_
                      refine zz_ix fun j369 hj369 hinj369 hej369 => zz_ial F dX10_turn_138 rfl (⟨zlb rfl, zlb rfl, hi⟩) rfl hinj369 hej369 ?_
                      refine zz_iconst F (v := (2 : Int32)) dX10_turn_139 (by decide) ?_
                      refine zz_icmp_ne F (tgt := 201) dX10_turn_140 (by decide) (fun h => zz_f h ?_) (fun h => zz_t h ?_)
                      · exact zz_return F dX10_turn_201 rfl (hκ _)
                      · refine zz_aload_n F (i := 1) dX10_turn_143 rfl rfl ?_
                        refine zz_bipush F (v := (8 : Int32)) dX10_turn_144 (by decide) ?_
                        refine zz_aload_n F (i := 1) dX10_turn_146 rfl rfl ?_
                        refine zz_bipush F (v := (11 : Int32)) dX10_turn_147 (by decide) ?_
                        refine zz_ix fun j370 hj370 hinj370 hej370 => zz_ial F dX10_turn_149 rfl (⟨zlb rfl, zlb rfl, hi⟩) rfl hinj370 hej370 ?_
                        refine zz_sipush F (v := (150 : Int32)) dX10_turn_150 (by decide) ?_
                        refine zz_join (pj := 188) (Lj := fun q371 => [none, some (zr 0 8 i), none]) (Sj := fun q371 => [zi q371, zi (8 : Int32), zr 0 8 i]) (Mj := fun q371 => [s0]) (fun q371 => ?_) (fun κ373 hj372 => ?_)
                        · refine zz_ix fun j377 hj377 hinj377 hej377 => zz_ias F (Ms' := [(zu s0 8 i j377 q371)]) dX10_turn_188 rfl (⟨zlb rfl, zlb rfl, hi⟩) rfl hinj377 hej377 rfl ?_
                          refine zz_letm (Mf := fun s0_378 => [s0_378]) fun s0_378 => ?_
                          refine zz_aload_n F (i := 1) dX10_turn_189 rfl rfl ?_
                          refine zz_bipush F (v := (8 : Int32)) dX10_turn_190 (by decide) ?_
                          refine zz_ix fun j379 hj379 hinj379 hej379 => zz_ial F dX10_turn_192 rfl (⟨zlb rfl, zlb rfl, hi⟩) rfl hinj379 hej379 ?_
                          refine zz_iconst F (v := (-1 : Int32)) dX10_turn_193 (by decide) ?_
                          refine zz_icmp_eq F (tgt := 201) dX10_turn_194 (by decide) (fun h => zz_t h ?_) (fun h => zz_f h ?_)
                          · exact zz_return F dX10_turn_201 rfl (hκ _)
                          · refine zz_aload_n F (i := 1) dX10_turn_197 rfl rfl ?_
                            refine zz_iconst F (v := (3 : Int32)) dX10_turn_198 (by decide) ?_
                            refine zz_iconst F (v := (3 : Int32)) dX10_turn_199 (by decide) ?_
                            refine zz_ix fun j380 hj380 hinj380 hej380 => zz_ias F (Ms' := [(zu s0_378 8 i j380 (3 : Int32))]) dX10_turn_200 rfl (⟨zlb rfl, zlb rfl, hi⟩) rfl hinj380 hej380 rfl ?_
                            refine zz_letm (Mf := fun s0_381 => [s0_381]) fun s0_381 => ?_
                            exact zz_return F dX10_turn_201 rfl (hκ _)
                        · refine zz_icmp_lt F (tgt := 160) dX10_turn_153 (by decide) (fun h => zz_t h ?_) (fun h => zz_f h ?_)
                          · refine zz_aload_n F (i := 1) dX10_turn_160 rfl rfl ?_
                            refine zz_bipush F (v := (12 : Int32)) dX10_turn_161 (by decide) ?_
                            refine zz_ix fun j375 hj375 hinj375 hej375 => zz_ial F dX10_turn_163 rfl (⟨zlb rfl, zlb rfl, hi⟩) rfl hinj375 hej375 ?_
                            refine zz_bipush F (v := (120 : Int32)) dX10_turn_164 (by decide) ?_
                            refine zz_icmp_lt F (tgt := 173) dX10_turn_166 (by decide) (fun h => zz_t h ?_) (fun h => zz_f h ?_)
                            · refine zz_aload_n F (i := 1) dX10_turn_173 rfl rfl ?_
                              refine zz_bipush F (v := (13 : Int32)) dX10_turn_174 (by decide) ?_
                              refine zz_ix fun j376 hj376 hinj376 hej376 => zz_ial F dX10_turn_176 rfl (⟨zlb rfl, zlb rfl, hi⟩) rfl hinj376 hej376 ?_
                              refine zz_sipush F (v := (200 : Int32)) dX10_turn_177 (by decide) ?_
                              refine zz_icmp_lt F (tgt := 187) dX10_turn_180 (by decide) (fun h => zz_t h ?_) (fun h => zz_f h ?_)
                              · refine zz_iconst F (v := (-1 : Int32)) dX10_turn_187 (by decide) ?_
                                exact zz_sub (zs_n (zs_k (zs_n zs_z))) (hj372 (-1 : Int32))
                              · refine zz_iconst F (v := (2 : Int32)) dX10_turn_183 (by decide) ?_
                                refine zz_goto F (tgt := 188) dX10_turn_184 (by decide) ?_
                                exact zz_sub (zs_n (zs_k (zs_n zs_z))) (hj372 (2 : Int32))
                            · refine zz_iconst F (v := (1 : Int32)) dX10_turn_169 (by decide) ?_
                              refine zz_goto F (tgt := 188) dX10_turn_170 (by decide) ?_
                              exact zz_sub (zs_n (zs_k (zs_n zs_z))) (hj372 (1 : Int32))
                          · refine zz_iconst F (v := (0 : Int32)) dX10_turn_156 (by decide) ?_
                            refine zz_goto F (tgt := 188) dX10_turn_157 (by decide) ?_
                            exact zz_sub (zs_n (zs_k (zs_n zs_z))) (hj372 (0 : Int32))
                    · refine zz_aload_n F (i := 0) dX10_turn_115 rfl rfl ?_
                      refine zz_getf F dX10_turn_116 wfRX10_64 zCl_9 rfl (⟨zlb rfl, zlb rfl, zlb rfl⟩) rfl (by decide) rfl rfl ?_
                      refine zz_iconst F (v := (3 : Int32)) dX10_turn_119 (by decide) ?_
                      refine zz_bipush F (v := (25 : Int32)) dX10_turn_120 (by decide) ?_
                      refine zz_bind ?_
                      refine zz_callSNr F (ρ := []) (so := fun q382 => [zi q382]) (Mo := fun q382 => [s0]) (zfMO_in (s0 0 0 12) (3 : Int32) (25 : Int32)) dX10_turn_122 wcRX10_95 wy_yX11_in rfl ⟨rel17, rfl, rfl, Nat.le_of_ble_eq_true rfl, Nat.le_of_ble_eq_true rfl, Nat.le_of_ble_eq_true rfl⟩ rfl (fun _ => rfl) (fun _ => rfl) fun q382 => ?_
                      refine zz_if_ne F (tgt := 136) dX10_turn_125 (by decide) (fun h => zz_f h ?_) (fun h => zz_t h ?_)
                      · refine zz_aload_n F (i := 1) dX10_turn_136 rfl rfl ?_
                        refine zz_iconst F (v := (3 : Int32)) dX10_turn_137 (by decide) ?_
                        refine zz_ix fun j383 hj383 hinj383 hej383 => zz_ial F dX10_turn_138 rfl (⟨zlb rfl, zlb rfl, hi⟩) rfl hinj383 hej383 ?_
                        refine zz_iconst F (v := (2 : Int32)) dX10_turn_139 (by decide) ?_
                        refine zz_icmp_ne F (tgt := 201) dX10_turn_140 (by decide) (fun h => zz_f h ?_) (fun h => zz_t h ?_)
                        · exact zz_return F dX10_turn_201 rfl (hκ _)
                        · refine zz_aload_n F (i := 1) dX10_turn_143 rfl rfl ?_
                          refine zz_bipush F (v := (8 : Int32)) dX10_turn_144 (by decide) ?_
                          refine zz_aload_n F (i := 1) dX10_turn_146 rfl rfl ?_
                          refine zz_bipush F (v := (11 : Int32)) dX10_turn_147 (by decide) ?_
                          refine zz_ix fun j384 hj384 hinj384 hej384 => zz_ial F dX10_turn_149 rfl (⟨zlb rfl, zlb rfl, hi⟩) rfl hinj384 hej384 ?_
                          refine zz_sipush F (v := (150 : Int32)) dX10_turn_150 (by decide) ?_
                          refine zz_join (pj := 188) (Lj := fun q385 => [none, some (zr 0 8 i), none]) (Sj := fun q385 => [zi q385, zi (8 : Int32), zr 0 8 i]) (Mj := fun q385 => [s0]) (fun q385 => ?_) (fun κ387 hj386 => ?_)
                          · refine zz_ix fun j391 hj391 hinj391 hej391 => zz_ias F (Ms' := [(zu s0 8 i j391 q385)]) dX10_turn_188 rfl (⟨zlb rfl, zlb rfl, hi⟩) rfl hinj391 hej391 rfl ?_
                            refine zz_letm (Mf := fun s0_392 => [s0_392]) fun s0_392 => ?_
                            refine zz_aload_n F (i := 1) dX10_turn_189 rfl rfl ?_
                            refine zz_bipush F (v := (8 : Int32)) dX10_turn_190 (by decide) ?_
                            refine zz_ix fun j393 hj393 hinj393 hej393 => zz_ial F dX10_turn_192 rfl (⟨zlb rfl, zlb rfl, hi⟩) rfl hinj393 hej393 ?_
                            refine zz_iconst F (v := (-1 : Int32)) dX10_turn_193 (by decide) ?_
                            refine zz_icmp_eq F (tgt := 201) dX10_turn_194 (by decide) (fun h => zz_t h ?_) (fun h => zz_f h ?_)
                            · exact zz_return F dX10_turn_201 rfl (hκ _)
                            · refine zz_aload_n F (i := 1) dX10_turn_197 rfl rfl ?_
                              refine zz_iconst F (v := (3 : Int32)) dX10_turn_198 (by decide) ?_
                              refine zz_iconst F (v := (3 : Int32)) dX10_turn_199 (by decide) ?_
                              refine zz_ix fun j394 hj394 hinj394 hej394 => zz_ias F (Ms' := [(zu s0_392 8 i j394 (3 : Int32))]) dX10_turn_200 rfl (⟨zlb rfl, zlb rfl, hi⟩) rfl hinj394 hej394 rfl ?_
                              refine zz_letm (Mf := fun s0_395 => [s0_395]) fun s0_395 => ?_
                              exact zz_return F dX10_turn_201 rfl (hκ _)
                          · refine zz_icmp_lt F (tgt := 160) dX10_turn_153 (by decide) (fun h => zz_t h ?_) (fun h => zz_f h ?_)
                            · refine zz_aload_n F (i := 1) dX10_turn_160 rfl rfl ?_
                              refine zz_bipush F (v := (12 : Int32)) dX10_turn_161 (by decide) ?_
                              refine zz_ix fun j389 hj389 hinj389 hej389 => zz_ial F dX10_turn_163 rfl (⟨zlb rfl, zlb rfl, hi⟩) rfl hinj389 hej389 ?_
                              refine zz_bipush F (v := (120 : Int32)) dX10_turn_164 (by decide) ?_
                              refine zz_icmp_lt F (tgt := 173) dX10_turn_166 (by decide) (fun h => zz_t h ?_) (fun h => zz_f h ?_)
                              · refine zz_aload_n F (i := 1) dX10_turn_173 rfl rfl ?_
                                refine zz_bipush F (v := (13 : Int32)) dX10_turn_174 (by decide) ?_
                                refine zz_ix fun j390 hj390 hinj390 hej390 => zz_ial F dX10_turn_176 rfl (⟨zlb rfl, zlb rfl, hi⟩) rfl hinj390 hej390 ?_
                                refine zz_sipush F (v := (200 : Int32)) dX10_turn_177 (by decide) ?_
                                refine zz_icmp_lt F (tgt := 187) dX10_turn_180 (by decide) (fun h => zz_t h ?_) (fun h => zz_f h ?_)
                                · refine zz_iconst F (v := (-1 : Int32)) dX10_turn_187 (by decide) ?_
                                  exact zz_sub (zs_n (zs_k (zs_n zs_z))) (hj386 (-1 : Int32))
                                · refine zz_iconst F (v := (2 : Int32)) dX10_turn_183 (by decide) ?_
                                  refine zz_goto F (tgt := 188) dX10_turn_184 (by decide) ?_
                                  exact zz_sub (zs_n (zs_k (zs_n zs_z))) (hj386 (2 : Int32))
                              · refine zz_iconst F (v := (1 : Int32)) dX10_turn_169 (by decide) ?_
                                refine zz_goto F (tgt := 188) dX10_turn_170 (by decide) ?_
                                exact zz_sub (zs_n (zs_k (zs_n zs_z))) (hj386 (1 : Int32))
                            · refine zz_iconst F (v := (0 : Int32)) dX10_turn_156 (by decide) ?_
                              refine zz_goto F (tgt := 188) dX10_turn_157 (by decide) ?_
                              exact zz_sub (zs_n (zs_k (zs_n zs_z))) (hj386 (0 : Int32))
                      · refine zz_aload_n F (i := 1) dX10_turn_128 rfl rfl ?_
                        refine zz_iconst F (v := (0 : Int32)) dX10_turn_129 (by decide) ?_
                        refine zz_bind ?_
                        refine zz_callSr F (ρ := [0]) (so := fun q396 => []) (Mo := fun q396 => [q396]) (zfMS_stop i (0 : Int32) hi s0) dX10_turn_130 wcRX10_143 wy_yX10_stop rfl ⟨rel18, rfl, rfl, Nat.le_of_ble_eq_true rfl, Nat.le_of_ble_eq_true rfl, Nat.le_of_ble_eq_true rfl⟩ rfl (fun _ => rfl) (fun _ => rfl) fun q396 => ?_
                        refine zz_goto F (tgt := 201) dX10_turn_133 (by decide) ?_
                        exact zz_return F dX10_turn_201 rfl (hκ _)
                  · refine zz_aload_n F (i := 0) dX10_turn_88 rfl rfl ?_
                    refine zz_getf F dX10_turn_89 wfRX10_64 zCl_9 rfl (⟨zlb rfl, zlb rfl, zlb rfl⟩) rfl (by decide) rfl rfl ?_
                    refine zz_iconst F (v := (4 : Int32)) dX10_turn_92 (by decide) ?_
                    refine zz_bipush F (v := (22 : Int32)) dX10_turn_93 (by decide) ?_
                    refine zz_bind ?_
                    refine zz_callSNr F (ρ := []) (so := fun q397 => [zi q397]) (Mo := fun q397 => [s0]) (zfMO_in (s0 0 0 12) (4 : Int32) (22 : Int32)) dX10_turn_95 wcRX10_95 wy_yX11_in rfl ⟨rel17, rfl, rfl, Nat.le_of_ble_eq_true rfl, Nat.le_of_ble_eq_true rfl, Nat.le_of_ble_eq_true rfl⟩ rfl (fun _ => rfl) (fun _ => rfl) fun q397 => ?_
                    refine zz_if_eq F (tgt := 201) dX10_turn_98 (by decide) (fun h => zz_t h ?_) (fun h => zz_f h ?_)
                    · exact zz_return F dX10_turn_201 rfl (hκ _)
                    · refine zz_aload_n F (i := 1) dX10_turn_101 rfl rfl ?_
                      refine zz_bind ?_
                      refine zz_callSr F (ρ := [0]) (so := fun q398 => []) (Mo := fun q398 => [q398]) (zfMS_start i hi s0) dX10_turn_102 wcRX10_147 wy_yX10_start rfl ⟨rel18, rfl, rfl, Nat.le_of_ble_eq_true rfl, Nat.le_of_ble_eq_true rfl, Nat.le_of_ble_eq_true rfl⟩ rfl (fun _ => rfl) (fun _ => rfl) fun q398 => ?_
                      refine zz_goto F (tgt := 201) dX10_turn_105 (by decide) ?_
                      exact zz_return F dX10_turn_201 rfl (hκ _)
              · refine zz_aload_n F (i := 1) dX10_turn_68 rfl rfl ?_
                refine zz_iconst F (v := (3 : Int32)) dX10_turn_69 (by decide) ?_
                refine zz_iconst F (v := (2 : Int32)) dX10_turn_70 (by decide) ?_
                refine zz_ix fun j399 hj399 hinj399 hej399 => zz_ias F (Ms' := [(zu s0 8 i j399 (2 : Int32))]) dX10_turn_71 rfl (⟨zlb rfl, zlb rfl, hi⟩) rfl hinj399 hej399 rfl ?_
                refine zz_letm (Mf := fun s0_400 => [s0_400]) fun s0_400 => ?_
                refine zz_goto F (tgt := 201) dX10_turn_72 (by decide) ?_
                exact zz_return F dX10_turn_201 rfl (hκ _)
            · refine zz_aload_n F (i := 1) dX10_turn_54 rfl rfl ?_
              refine zz_bind ?_
              refine zz_callSr F (ρ := [0]) (so := fun q401 => []) (Mo := fun q401 => [q401]) (zfMS_start i hi s0) dX10_turn_55 wcRX10_147 wy_yX10_start rfl ⟨rel18, rfl, rfl, Nat.le_of_ble_eq_true rfl, Nat.le_of_ble_eq_true rfl, Nat.le_of_ble_eq_true rfl⟩ rfl (fun _ => rfl) (fun _ => rfl) fun q401 => ?_
              refine zz_goto F (tgt := 201) dX10_turn_58 (by decide) ?_
              exact zz_return F dX10_turn_201 rfl (hκ _)
      · refine zz_aload_n F (i := 1) dX10_turn_28 rfl rfl ?_
        refine zz_iconst F (v := (2 : Int32)) dX10_turn_29 (by decide) ?_
        refine zz_bind ?_
        refine zz_callSr F (ρ := [0]) (so := fun q402 => []) (Mo := fun q402 => [q402]) (zfMS_stop i (2 : Int32) hi s0) dX10_turn_30 wcRX10_143 wy_yX10_stop rfl ⟨rel18, rfl, rfl, Nat.le_of_ble_eq_true rfl, Nat.le_of_ble_eq_true rfl, Nat.le_of_ble_eq_true rfl⟩ rfl (fun _ => rfl) (fun _ => rfl) fun q402 => ?_
        refine zz_goto F (tgt := 201) dX10_turn_33 (by decide) ?_
        exact zz_return F dX10_turn_201 rfl (hκ _)
  · refine zz_icmp_ge F (tgt := 15) dX10_turn_8 (by decide) (fun h => zz_t h ?_) (fun h => zz_f h ?_)
    · refine zz_iconst F (v := (0 : Int32)) dX10_turn_15 (by decide) ?_
      exact zz_sub (zs_k (zs_k (zs_k zs_z))) (hj2 (0 : Int32))
    · refine zz_iconst F (v := (1 : Int32)) dX10_turn_11 (by decide) ?_
      refine zz_goto F (tgt := 16) dX10_turn_12 (by decide) ?_
      exact zz_sub (zs_k (zs_k (zs_k zs_z))) (hj2 (1 : Int32))
theorem zfMS_turn (i : Nat) (hi : i < 8) (s0 : zM) : ∀ a, fMS_turn i s0 = some a → zMet yX10_turn cX10_turn 3 none 1 22 [(3, [])] [zr 0 0 0, zr 0 8 i] [s0] ((fun a => ((.inl ((fun _ => (none : Option zV)) a), (fun q => [q]) a) : zO)) a) := fun a ha => zMet_of (L0 := [some (zr 0 0 0), some (zr 0 8 i), none]) (φ := Option.bind (fMS_turn i s0) (fun a => some ((fun a => ((.inl ((fun _ => (none : Option zV)) a), (fun q => [q]) a) : zO)) a))) (by decide) (fun _ => Nat.le_of_ble_eq_true rfl) (zl0 1 rfl) (fun X F => bfMS_turn F i hi s0 (fun _ => rfl)) (by rw [ha]; rfl)

theorem dX10_deficit_0 : decode cX10_deficit 0 = .ok (.iload 5, 2) := by decide +kernel
theorem dX10_deficit_2 : decode cX10_deficit 2 = .ok (.iconst 1, 1) := by decide +kernel
theorem dX10_deficit_3 : decode cX10_deficit 3 = .ok (.invokestatic 91, 3) := by decide +kernel
theorem dX10_deficit_6 : decode cX10_deficit 6 = .ok (.istore 6, 2) := by decide +kernel
theorem dX10_deficit_8 : decode cX10_deficit 8 = .ok (.iload 5, 2) := by decide +kernel
theorem dX10_deficit_10 : decode cX10_deficit 10 = .ok (.iconst 0, 1) := by decide +kernel
theorem dX10_deficit_11 : decode cX10_deficit 11 = .ok (.invokestatic 91, 3) := by decide +kernel
theorem dX10_deficit_14 : decode cX10_deficit 14 = .ok (.istore 7, 2) := by decide +kernel
theorem dX10_deficit_16 : decode cX10_deficit 16 = .ok (.iload_n 0, 1) := by decide +kernel
theorem dX10_deficit_17 : decode cX10_deficit 17 = .ok (.iload_n 2, 1) := by decide +kernel
theorem dX10_deficit_18 : decode cX10_deficit 18 = .ok (.isub, 1) := by decide +kernel
theorem dX10_deficit_19 : decode cX10_deficit 19 = .ok (.iload 6, 2) := by decide +kernel
theorem dX10_deficit_21 : decode cX10_deficit 21 = .ok (.imul, 1) := by decide +kernel
theorem dX10_deficit_22 : decode cX10_deficit 22 = .ok (.iload_n 1, 1) := by decide +kernel
theorem dX10_deficit_23 : decode cX10_deficit 23 = .ok (.iload_n 3, 1) := by decide +kernel
theorem dX10_deficit_24 : decode cX10_deficit 24 = .ok (.isub, 1) := by decide +kernel
theorem dX10_deficit_25 : decode cX10_deficit 25 = .ok (.iload 7, 2) := by decide +kernel
theorem dX10_deficit_27 : decode cX10_deficit 27 = .ok (.imul, 1) := by decide +kernel
theorem dX10_deficit_28 : decode cX10_deficit 28 = .ok (.iadd, 1) := by decide +kernel
theorem dX10_deficit_29 : decode cX10_deficit 29 = .ok (.istore 8, 2) := by decide +kernel
theorem dX10_deficit_31 : decode cX10_deficit 31 = .ok (.iload_n 0, 1) := by decide +kernel
theorem dX10_deficit_32 : decode cX10_deficit 32 = .ok (.iload_n 2, 1) := by decide +kernel
theorem dX10_deficit_33 : decode cX10_deficit 33 = .ok (.isub, 1) := by decide +kernel
theorem dX10_deficit_34 : decode cX10_deficit 34 = .ok (.iload 7, 2) := by decide +kernel
theorem dX10_deficit_36 : decode cX10_deficit 36 = .ok (.imul, 1) := by decide +kernel
theorem dX10_deficit_37 : decode cX10_deficit 37 = .ok (.iload_n 1, 1) := by decide +kernel
theorem dX10_deficit_38 : decode cX10_deficit 38 = .ok (.iload_n 3, 1) := by decide +kernel
theorem dX10_deficit_39 : decode cX10_deficit 39 = .ok (.isub, 1) := by decide +kernel
theorem dX10_deficit_40 : decode cX10_deficit 40 = .ok (.iload 6, 2) := by decide +kernel
theorem dX10_deficit_42 : decode cX10_deficit 42 = .ok (.imul, 1) := by decide +kernel
theorem dX10_deficit_43 : decode cX10_deficit 43 = .ok (.isub, 1) := by decide +kernel
theorem dX10_deficit_44 : decode cX10_deficit 44 = .ok (.iload 4, 2) := by decide +kernel
theorem dX10_deficit_46 : decode cX10_deficit 46 = .ok (.isub, 1) := by decide +kernel
theorem dX10_deficit_47 : decode cX10_deficit 47 = .ok (.istore 9, 2) := by decide +kernel
theorem dX10_deficit_49 : decode cX10_deficit 49 = .ok (.iload 8, 2) := by decide +kernel
theorem dX10_deficit_51 : decode cX10_deficit 51 = .ok (.iconst 1, 1) := by decide +kernel
theorem dX10_deficit_52 : decode cX10_deficit 52 = .ok (.bipush 12, 2) := by decide +kernel
theorem dX10_deficit_54 : decode cX10_deficit 54 = .ok (.invokestatic 95, 3) := by decide +kernel
theorem dX10_deficit_57 : decode cX10_deficit 57 = .ok (.ifCond .eq 27, 3) := by decide +kernel
theorem dX10_deficit_60 : decode cX10_deficit 60 = .ok (.iload 9, 2) := by decide +kernel
theorem dX10_deficit_62 : decode cX10_deficit 62 = .ok (.invokestatic 99, 3) := by decide +kernel
theorem dX10_deficit_65 : decode cX10_deficit 65 = .ok (.iconst 1, 1) := by decide +kernel
theorem dX10_deficit_66 : decode cX10_deficit 66 = .ok (.iload 8, 2) := by decide +kernel
theorem dX10_deficit_68 : decode cX10_deficit 68 = .ok (.iconst 4, 1) := by decide +kernel
theorem dX10_deficit_69 : decode cX10_deficit 69 = .ok (.idiv, 1) := by decide +kernel
theorem dX10_deficit_70 : decode cX10_deficit 70 = .ok (.iadd, 1) := by decide +kernel
theorem dX10_deficit_71 : decode cX10_deficit 71 = .ok (.if_icmp .gt 13, 3) := by decide +kernel
theorem dX10_deficit_74 : decode cX10_deficit 74 = .ok (.bipush 42, 2) := by decide +kernel
theorem dX10_deficit_76 : decode cX10_deficit 76 = .ok (.iconst 3, 1) := by decide +kernel
theorem dX10_deficit_77 : decode cX10_deficit 77 = .ok (.iload 8, 2) := by decide +kernel
theorem dX10_deficit_79 : decode cX10_deficit 79 = .ok (.imul, 1) := by decide +kernel
theorem dX10_deficit_80 : decode cX10_deficit 80 = .ok (.isub, 1) := by decide +kernel
theorem dX10_deficit_81 : decode cX10_deficit 81 = .ok (.goto 4, 3) := by decide +kernel
theorem dX10_deficit_84 : decode cX10_deficit 84 = .ok (.iconst 0, 1) := by decide +kernel
theorem dX10_deficit_85 : decode cX10_deficit 85 = .ok (.ireturn, 1) := by decide +kernel
theorem wcRX10_91 : Cond.methodLinkNest RX10 91 yX11_along "WakeBanksModel" ∈ zNws ∧ Cond.static yX11_along ∈ zTg ∧ Cond.initialized yX11_along.cls ∈ zTg ∧ Cond.code yX11_along cX11_along 3 (some .int) ∈ zTg := ⟨by decide +kernel, zm_f 1138 (by decide +kernel) rfl, zm_f 46 (by decide +kernel) rfl, zm_f 1139 (by decide +kernel) rfl⟩
theorem wy_yX11_along : yX11_along.cls ≠ "java/lang/invoke/MethodHandle" ∧ yX11_along.cls ≠ "java/lang/invoke/VarHandle" ∧ (parseMethodDescriptor yX11_along.desc).map (fun d => d.parameters.length) = some 2 := by decide +kernel
theorem wmRX10_99 : Cond.methodLink RX10 99 Lib.Math.abs.name ∈ zTg := zm_f 1140 (by decide +kernel) rfl
def fMS_deficit6 (a0 : Int32) (a1 : Int32) (a2 : Int32) (a3 : Int32) (a4 : Int32) (a5 : Int32)  : Option (Int32) :=
  Option.bind (fMO_along a5 (1 : Int32)) fun q1 =>
  Option.bind (fMO_along a5 (0 : Int32)) fun q2 =>
  zlet ((((a0 - a2) * q1) + ((a1 - a3) * q2))) fun v3 =>
  zlet (((((a0 - a2) * q2) - ((a1 - a3) * q1)) - a4)) fun v4 =>
  Option.bind (fMO_in v3 (1 : Int32) (12 : Int32)) fun q5 =>
  if q5 = 0 then
  some (0 : Int32)
else
  if ((1 : Int32) + (v3 / (4 : Int32))) < (zabs v4) then
    some (0 : Int32)
  else
    some ((42 : Int32) - ((3 : Int32) * v3))
set_option maxHeartbeats 4000000 in
set_option maxRecDepth 20000 in
theorem bfMS_deficit6 {X : zX} (F : zFr X cX10_deficit 10 RX10 (some .int)) (a0 : Int32) (a1 : Int32) (a2 : Int32) (a3 : Int32) (a4 : Int32) (a5 : Int32)   {κ : Int32 → Option zO} (hκ : ∀ a, κ a = some ((fun a => ((.inl ((fun q => some (zi q)) a), (fun _ => []) a) : zO)) a)) : zZ X [] 1 23 10 0 [some (zi a0), some (zi a1), some (zi a2), some (zi a3), some (zi a4), some (zi a5), none, none, none, none] [] [] (Option.bind (fMS_deficit6 a0 a1 a2 a3 a4 a5) κ) := by
  unfold fMS_deficit6
  refine zz_iload F (i := 5) dX10_deficit_0 rfl ?_
  refine zz_iconst F (v := (1 : Int32)) dX10_deficit_2 (by decide) ?_
  refine zz_bind ?_
  refine zz_callSNr F (ρ := []) (so := fun q1 => [zi q1]) (Mo := fun q1 => []) (zfMO_along a5 (1 : Int32)) dX10_deficit_3 wcRX10_91 wy_yX11_along rfl ⟨rel5, rfl, rfl, Nat.le_of_ble_eq_true rfl, Nat.le_of_ble_eq_true rfl, Nat.le_of_ble_eq_true rfl⟩ rfl (fun _ => rfl) (fun _ => rfl) fun q1 => ?_
  refine zz_istore F (i := 6) (L' := [some (zi a0), some (zi a1), some (zi a2), some (zi a3), some (zi a4), some (zi a5), some (zi q1), none, none, none]) dX10_deficit_6 (by decide) rfl rfl ?_
  refine zz_iload F (i := 5) dX10_deficit_8 rfl ?_
  refine zz_iconst F (v := (0 : Int32)) dX10_deficit_10 (by decide) ?_
  refine zz_bind ?_
  refine zz_callSNr F (ρ := []) (so := fun q2 => [zi q2]) (Mo := fun q2 => []) (zfMO_along a5 (0 : Int32)) dX10_deficit_11 wcRX10_91 wy_yX11_along rfl ⟨rel5, rfl, rfl, Nat.le_of_ble_eq_true rfl, Nat.le_of_ble_eq_true rfl, Nat.le_of_ble_eq_true rfl⟩ rfl (fun _ => rfl) (fun _ => rfl) fun q2 => ?_
  refine zz_istore F (i := 7) (L' := [some (zi a0), some (zi a1), some (zi a2), some (zi a3), some (zi a4), some (zi a5), some (zi q1), some (zi q2), none, none]) dX10_deficit_14 (by decide) rfl rfl ?_
  refine zz_iload_n F (i := 0) dX10_deficit_16 rfl rfl ?_
  refine zz_iload_n F (i := 2) dX10_deficit_17 rfl rfl ?_
  refine zz_isub F dX10_deficit_18 ?_
  refine zz_iload F (i := 6) dX10_deficit_19 rfl ?_
  refine zz_imul F dX10_deficit_21 ?_
  refine zz_iload_n F (i := 1) dX10_deficit_22 rfl rfl ?_
  refine zz_iload_n F (i := 3) dX10_deficit_23 rfl rfl ?_
  refine zz_isub F dX10_deficit_24 ?_
  refine zz_iload F (i := 7) dX10_deficit_25 rfl ?_
  refine zz_imul F dX10_deficit_27 ?_
  refine zz_iadd F dX10_deficit_28 ?_
  refine zz_istore F (i := 8) (L' := [some (zi a0), some (zi a1), some (zi a2), some (zi a3), some (zi a4), some (zi a5), some (zi q1), some (zi q2), some (zi (((a0 - a2) * q1) + ((a1 - a3) * q2))), none]) dX10_deficit_29 (by decide) rfl rfl ?_
  refine zz_letl (Lf := fun v3 => [some (zi a0), some (zi a1), some (zi a2), some (zi a3), some (zi a4), some (zi a5), some (zi q1), some (zi q2), some (zi v3), none]) fun v3 => ?_
  refine zz_iload_n F (i := 0) dX10_deficit_31 rfl rfl ?_
  refine zz_iload_n F (i := 2) dX10_deficit_32 rfl rfl ?_
  refine zz_isub F dX10_deficit_33 ?_
  refine zz_iload F (i := 7) dX10_deficit_34 rfl ?_
  refine zz_imul F dX10_deficit_36 ?_
  refine zz_iload_n F (i := 1) dX10_deficit_37 rfl rfl ?_
  refine zz_iload_n F (i := 3) dX10_deficit_38 rfl rfl ?_
  refine zz_isub F dX10_deficit_39 ?_
  refine zz_iload F (i := 6) dX10_deficit_40 rfl ?_
  refine zz_imul F dX10_deficit_42 ?_
  refine zz_isub F dX10_deficit_43 ?_
  refine zz_iload F (i := 4) dX10_deficit_44 rfl ?_
  refine zz_isub F dX10_deficit_46 ?_
  refine zz_istore F (i := 9) (L' := [some (zi a0), some (zi a1), some (zi a2), some (zi a3), some (zi a4), some (zi a5), some (zi q1), some (zi q2), some (zi v3), some (zi ((((a0 - a2) * q2) - ((a1 - a3) * q1)) - a4))]) dX10_deficit_47 (by decide) rfl rfl ?_
  refine zz_letl (Lf := fun v4 => [some (zi a0), some (zi a1), some (zi a2), some (zi a3), some (zi a4), some (zi a5), some (zi q1), some (zi q2), some (zi v3), some (zi v4)]) fun v4 => ?_
  refine zz_iload F (i := 8) dX10_deficit_49 rfl ?_
  refine zz_iconst F (v := (1 : Int32)) dX10_deficit_51 (by decide) ?_
  refine zz_bipush F (v := (12 : Int32)) dX10_deficit_52 (by decide) ?_
  refine zz_bind ?_
  refine zz_callSNr F (ρ := []) (so := fun q5 => [zi q5]) (Mo := fun q5 => []) (zfMO_in v3 (1 : Int32) (12 : Int32)) dX10_deficit_54 wcRX10_95 wy_yX11_in rfl ⟨rel5, rfl, rfl, Nat.le_of_ble_eq_true rfl, Nat.le_of_ble_eq_true rfl, Nat.le_of_ble_eq_true rfl⟩ rfl (fun _ => rfl) (fun _ => rfl) fun q5 => ?_
  refine zz_if_eq F (tgt := 84) dX10_deficit_57 (by decide) (fun h => zz_t h ?_) (fun h => zz_f h ?_)
  · refine zz_iconst F (v := (0 : Int32)) dX10_deficit_84 (by decide) ?_
    exact zz_ireturn F dX10_deficit_85 rfl (hκ _)
  · refine zz_iload F (i := 9) dX10_deficit_60 rfl ?_
    refine zz_abs F dX10_deficit_62 wmRX10_99 wMath_abs (Nat.le_of_ble_eq_true rfl) (Nat.le_of_ble_eq_true rfl) ?_
    refine zz_iconst F (v := (1 : Int32)) dX10_deficit_65 (by decide) ?_
    refine zz_iload F (i := 8) dX10_deficit_66 rfl ?_
    refine zz_iconst F (v := (4 : Int32)) dX10_deficit_68 (by decide) ?_
    refine zz_idiv F dX10_deficit_69 (by decide) ?_
    refine zz_iadd F dX10_deficit_70 ?_
    refine zz_icmp_gt F (tgt := 84) dX10_deficit_71 (by decide) (fun h => zz_t h ?_) (fun h => zz_f h ?_)
    · refine zz_iconst F (v := (0 : Int32)) dX10_deficit_84 (by decide) ?_
      exact zz_ireturn F dX10_deficit_85 rfl (hκ _)
    · refine zz_bipush F (v := (42 : Int32)) dX10_deficit_74 (by decide) ?_
      refine zz_iconst F (v := (3 : Int32)) dX10_deficit_76 (by decide) ?_
      refine zz_iload F (i := 8) dX10_deficit_77 rfl ?_
      refine zz_imul F dX10_deficit_79 ?_
      refine zz_isub F dX10_deficit_80 ?_
      refine zz_goto F (tgt := 85) dX10_deficit_81 (by decide) ?_
      exact zz_ireturn F dX10_deficit_85 rfl (hκ _)
theorem zfMS_deficit6 (a0 : Int32) (a1 : Int32) (a2 : Int32) (a3 : Int32) (a4 : Int32) (a5 : Int32)   : ∀ a, fMS_deficit6 a0 a1 a2 a3 a4 a5 = some a → zMet yX10_deficit cX10_deficit 10 (some .int) 1 23 [] [zi a0, zi a1, zi a2, zi a3, zi a4, zi a5] [] ((fun a => ((.inl ((fun q => some (zi q)) a), (fun _ => []) a) : zO)) a) := fun a ha => zMet_of (L0 := [some (zi a0), some (zi a1), some (zi a2), some (zi a3), some (zi a4), some (zi a5), none, none, none, none]) (φ := Option.bind (fMS_deficit6 a0 a1 a2 a3 a4 a5) (fun a => some ((fun a => ((.inl ((fun q => some (zi q)) a), (fun _ => []) a) : zO)) a))) (by decide) (fun _ => Nat.le_of_ble_eq_true rfl) (zl0 4 rfl) (fun X F => bfMS_deficit6 F a0 a1 a2 a3 a4 a5 (fun _ => rfl)) (by rw [ha]; rfl)

theorem dX10_wake_0 : decode cX10_wake 0 = .ok (.aload_n 0, 1) := by decide +kernel
theorem dX10_wake_1 : decode cX10_wake 1 = .ok (.getfield 11, 3) := by decide +kernel
theorem dX10_wake_4 : decode cX10_wake 4 = .ok (.iload_n 1, 1) := by decide +kernel
theorem dX10_wake_5 : decode cX10_wake 5 = .ok (.aaload, 1) := by decide +kernel
theorem dX10_wake_6 : decode cX10_wake 6 = .ok (.astore_n 3, 1) := by decide +kernel
theorem dX10_wake_7 : decode cX10_wake 7 = .ok (.aload_n 0, 1) := by decide +kernel
theorem dX10_wake_8 : decode cX10_wake 8 = .ok (.getfield 11, 3) := by decide +kernel
theorem dX10_wake_11 : decode cX10_wake 11 = .ok (.iload_n 2, 1) := by decide +kernel
theorem dX10_wake_12 : decode cX10_wake 12 = .ok (.aaload, 1) := by decide +kernel
theorem dX10_wake_13 : decode cX10_wake 13 = .ok (.astore 4, 2) := by decide +kernel
theorem dX10_wake_15 : decode cX10_wake 15 = .ok (.iload_n 1, 1) := by decide +kernel
theorem dX10_wake_16 : decode cX10_wake 16 = .ok (.iload_n 2, 1) := by decide +kernel
theorem dX10_wake_17 : decode cX10_wake 17 = .ok (.if_icmp .eq 11, 3) := by decide +kernel
theorem dX10_wake_20 : decode cX10_wake 20 = .ok (.aload 4, 2) := by decide +kernel
theorem dX10_wake_22 : decode cX10_wake 22 = .ok (.iconst 3, 1) := by decide +kernel
theorem dX10_wake_23 : decode cX10_wake 23 = .ok (.iaload, 1) := by decide +kernel
theorem dX10_wake_24 : decode cX10_wake 24 = .ok (.iconst 2, 1) := by decide +kernel
theorem dX10_wake_25 : decode cX10_wake 25 = .ok (.if_icmp .eq 7, 3) := by decide +kernel
theorem dX10_wake_28 : decode cX10_wake 28 = .ok (.iconst 0, 1) := by decide +kernel
theorem dX10_wake_29 : decode cX10_wake 29 = .ok (.goto 28, 3) := by decide +kernel
theorem dX10_wake_32 : decode cX10_wake 32 = .ok (.aload_n 3, 1) := by decide +kernel
theorem dX10_wake_33 : decode cX10_wake 33 = .ok (.iconst 0, 1) := by decide +kernel
theorem dX10_wake_34 : decode cX10_wake 34 = .ok (.iaload, 1) := by decide +kernel
theorem dX10_wake_35 : decode cX10_wake 35 = .ok (.aload_n 3, 1) := by decide +kernel
theorem dX10_wake_36 : decode cX10_wake 36 = .ok (.iconst 1, 1) := by decide +kernel
theorem dX10_wake_37 : decode cX10_wake 37 = .ok (.iaload, 1) := by decide +kernel
theorem dX10_wake_38 : decode cX10_wake 38 = .ok (.aload 4, 2) := by decide +kernel
theorem dX10_wake_40 : decode cX10_wake 40 = .ok (.iconst 0, 1) := by decide +kernel
theorem dX10_wake_41 : decode cX10_wake 41 = .ok (.iaload, 1) := by decide +kernel
theorem dX10_wake_42 : decode cX10_wake 42 = .ok (.aload 4, 2) := by decide +kernel
theorem dX10_wake_44 : decode cX10_wake 44 = .ok (.iconst 1, 1) := by decide +kernel
theorem dX10_wake_45 : decode cX10_wake 45 = .ok (.iaload, 1) := by decide +kernel
theorem dX10_wake_46 : decode cX10_wake 46 = .ok (.aload 4, 2) := by decide +kernel
theorem dX10_wake_48 : decode cX10_wake 48 = .ok (.iconst 4, 1) := by decide +kernel
theorem dX10_wake_49 : decode cX10_wake 49 = .ok (.iaload, 1) := by decide +kernel
theorem dX10_wake_50 : decode cX10_wake 50 = .ok (.aload_n 0, 1) := by decide +kernel
theorem dX10_wake_51 : decode cX10_wake 51 = .ok (.getfield 61, 3) := by decide +kernel
theorem dX10_wake_54 : decode cX10_wake 54 = .ok (.invokestatic 105, 3) := by decide +kernel
theorem dX10_wake_57 : decode cX10_wake 57 = .ok (.ireturn, 1) := by decide +kernel
theorem wfRX10_11 : zFl RX10 11 9 0 := ⟨_, rfl, by decide, zm_f 968 (by decide +kernel) rfl⟩
theorem wfRX10_61 : zFl RX10 61 9 11 := ⟨_, rfl, by decide, zm_f 989 (by decide +kernel) rfl⟩
theorem wcRX10_105 : Cond.methodLink RX10 105 yX10_deficit ∈ zTg ∧ Cond.static yX10_deficit ∈ zTg ∧ Cond.initialized yX10_deficit.cls ∈ zTg ∧ Cond.code yX10_deficit cX10_deficit 10 (some .int) ∈ zTg := ⟨zm_f 1134 (by decide +kernel) rfl, zm_f 1135 (by decide +kernel) rfl, zm_f 47 (by decide +kernel) rfl, zm_f 1136 (by decide +kernel) rfl⟩
theorem wy_yX10_deficit : yX10_deficit.cls ≠ "java/lang/invoke/MethodHandle" ∧ yX10_deficit.cls ≠ "java/lang/invoke/VarHandle" ∧ (parseMethodDescriptor yX10_deficit.desc).map (fun d => d.parameters.length) = some 6 := by decide +kernel
def fMS_wake (a1 : Int32) (a2 : Int32) (s0 : zM) : Option (Int32) :=
  zix a1 8 fun j1 =>
  zix a2 8 fun j2 =>
  if a1 = a2 then
  some (0 : Int32)
else
  zix (3 : Int32) 23 fun j3 =>
    if (s0 8 j2 j3) = (2 : Int32) then
    zix (0 : Int32) 23 fun j4 =>
      zix (1 : Int32) 23 fun j5 =>
      zix (0 : Int32) 23 fun j6 =>
      zix (1 : Int32) 23 fun j7 =>
      zix (4 : Int32) 23 fun j8 =>
      Option.bind (fMS_deficit6 (s0 8 j1 j4) (s0 8 j1 j5) (s0 8 j2 j6) (s0 8 j2 j7) (s0 8 j2 j8) (s0 0 0 11)) fun q9 =>
      some q9
  else
    some (0 : Int32)
set_option maxHeartbeats 4000000 in
set_option maxRecDepth 20000 in
theorem bfMS_wake {X : zX} (F : zFr X cX10_wake 5 RX10 (some .int)) (a1 : Int32) (a2 : Int32)  (s0 : zM) {κ : Int32 → Option zO} (hκ : ∀ a, κ a = some ((fun a => ((.inl ((fun q => some (zi q)) a), (fun _ => [s0]) a) : zO)) a)) : zZ X [(3, [])] 2 52 5 0 [some (zr 0 0 0), some (zi a1), some (zi a2), none, none] [] [s0] (Option.bind (fMS_wake a1 a2 s0) κ) := by
  unfold fMS_wake
  refine zz_aload_n F (i := 0) dX10_wake_0 rfl rfl ?_
  refine zz_getr F dX10_wake_1 wfRX10_11 zCl_9 rfl (⟨zlb rfl, zlb rfl, zlb rfl⟩) rfl (by decide) rfl (r' := 0) (by decide) ?_
  refine zz_iload_n F (i := 1) dX10_wake_4 rfl rfl ?_
  refine zz_ix fun j1 hj1 hinj1 hej1 => zz_aal F dX10_wake_5 rfl (⟨zlb rfl, zlb rfl, zlb rfl⟩) rfl (by decide) rfl hinj1 hej1 rfl ?_
  refine zz_astore_n F (i := 3) (L' := [some (zr 0 0 0), some (zi a1), some (zi a2), some (zr 0 8 j1), none]) dX10_wake_6 rfl (by decide) rfl rfl ?_
  refine zz_aload_n F (i := 0) dX10_wake_7 rfl rfl ?_
  refine zz_getr F dX10_wake_8 wfRX10_11 zCl_9 rfl (⟨zlb rfl, zlb rfl, zlb rfl⟩) rfl (by decide) rfl (r' := 0) (by decide) ?_
  refine zz_iload_n F (i := 2) dX10_wake_11 rfl rfl ?_
  refine zz_ix fun j2 hj2 hinj2 hej2 => zz_aal F dX10_wake_12 rfl (⟨zlb rfl, zlb rfl, zlb rfl⟩) rfl (by decide) rfl hinj2 hej2 rfl ?_
  refine zz_astore F (i := 4) (L' := [some (zr 0 0 0), some (zi a1), some (zi a2), some (zr 0 8 j1), some (zr 0 8 j2)]) dX10_wake_13 (by decide) rfl rfl ?_
  refine zz_iload_n F (i := 1) dX10_wake_15 rfl rfl ?_
  refine zz_iload_n F (i := 2) dX10_wake_16 rfl rfl ?_
  refine zz_icmp_eq F (tgt := 28) dX10_wake_17 (by decide) (fun h => zz_t h ?_) (fun h => zz_f h ?_)
  · refine zz_iconst F (v := (0 : Int32)) dX10_wake_28 (by decide) ?_
    refine zz_goto F (tgt := 57) dX10_wake_29 (by decide) ?_
    exact zz_ireturn F dX10_wake_57 rfl (hκ _)
  · refine zz_aload F (i := 4) dX10_wake_20 rfl ?_
    refine zz_iconst F (v := (3 : Int32)) dX10_wake_22 (by decide) ?_
    refine zz_ix fun j3 hj3 hinj3 hej3 => zz_ial F dX10_wake_23 rfl (⟨zlb rfl, zlb rfl, hj2⟩) rfl hinj3 hej3 ?_
    refine zz_iconst F (v := (2 : Int32)) dX10_wake_24 (by decide) ?_
    refine zz_icmp_eq F (tgt := 32) dX10_wake_25 (by decide) (fun h => zz_t h ?_) (fun h => zz_f h ?_)
    · refine zz_aload_n F (i := 3) dX10_wake_32 rfl rfl ?_
      refine zz_iconst F (v := (0 : Int32)) dX10_wake_33 (by decide) ?_
      refine zz_ix fun j4 hj4 hinj4 hej4 => zz_ial F dX10_wake_34 rfl (⟨zlb rfl, zlb rfl, hj1⟩) rfl hinj4 hej4 ?_
      refine zz_aload_n F (i := 3) dX10_wake_35 rfl rfl ?_
      refine zz_iconst F (v := (1 : Int32)) dX10_wake_36 (by decide) ?_
      refine zz_ix fun j5 hj5 hinj5 hej5 => zz_ial F dX10_wake_37 rfl (⟨zlb rfl, zlb rfl, hj1⟩) rfl hinj5 hej5 ?_
      refine zz_aload F (i := 4) dX10_wake_38 rfl ?_
      refine zz_iconst F (v := (0 : Int32)) dX10_wake_40 (by decide) ?_
      refine zz_ix fun j6 hj6 hinj6 hej6 => zz_ial F dX10_wake_41 rfl (⟨zlb rfl, zlb rfl, hj2⟩) rfl hinj6 hej6 ?_
      refine zz_aload F (i := 4) dX10_wake_42 rfl ?_
      refine zz_iconst F (v := (1 : Int32)) dX10_wake_44 (by decide) ?_
      refine zz_ix fun j7 hj7 hinj7 hej7 => zz_ial F dX10_wake_45 rfl (⟨zlb rfl, zlb rfl, hj2⟩) rfl hinj7 hej7 ?_
      refine zz_aload F (i := 4) dX10_wake_46 rfl ?_
      refine zz_iconst F (v := (4 : Int32)) dX10_wake_48 (by decide) ?_
      refine zz_ix fun j8 hj8 hinj8 hej8 => zz_ial F dX10_wake_49 rfl (⟨zlb rfl, zlb rfl, hj2⟩) rfl hinj8 hej8 ?_
      refine zz_aload_n F (i := 0) dX10_wake_50 rfl rfl ?_
      refine zz_getf F dX10_wake_51 wfRX10_61 zCl_9 rfl (⟨zlb rfl, zlb rfl, zlb rfl⟩) rfl (by decide) rfl rfl ?_
      refine zz_bind ?_
      refine zz_callSr F (ρ := []) (so := fun q9 => [zi q9]) (Mo := fun q9 => [s0]) (zfMS_deficit6 (s0 8 j1 j4) (s0 8 j1 j5) (s0 8 j2 j6) (s0 8 j2 j7) (s0 8 j2 j8) (s0 0 0 11)) dX10_wake_54 wcRX10_105 wy_yX10_deficit rfl ⟨rel17, rfl, rfl, Nat.le_of_ble_eq_true rfl, Nat.le_of_ble_eq_true rfl, Nat.le_of_ble_eq_true rfl⟩ rfl (fun _ => rfl) (fun _ => rfl) fun q9 => ?_
      exact zz_ireturn F dX10_wake_57 rfl (hκ _)
    · refine zz_iconst F (v := (0 : Int32)) dX10_wake_28 (by decide) ?_
      refine zz_goto F (tgt := 57) dX10_wake_29 (by decide) ?_
      exact zz_ireturn F dX10_wake_57 rfl (hκ _)
theorem zfMS_wake (a1 : Int32) (a2 : Int32)  (s0 : zM) : ∀ a, fMS_wake a1 a2 s0 = some a → zMet yX10_wake cX10_wake 5 (some .int) 2 52 [(3, [])] [zr 0 0 0, zi a1, zi a2] [s0] ((fun a => ((.inl ((fun q => some (zi q)) a), (fun _ => [s0]) a) : zO)) a) := fun a ha => zMet_of (L0 := [some (zr 0 0 0), some (zi a1), some (zi a2), none, none]) (φ := Option.bind (fMS_wake a1 a2 s0) (fun a => some ((fun a => ((.inl ((fun q => some (zi q)) a), (fun _ => [s0]) a) : zO)) a))) (by decide) (fun _ => Nat.le_of_ble_eq_true rfl) (zl0 2 rfl) (fun X F => bfMS_wake F a1 a2 s0 (fun _ => rfl)) (by rw [ha]; rfl)

theorem dX10_deficit__0 : decode cX10_deficit_ 0 = .ok (.iconst 0, 1) := by decide +kernel
theorem dX10_deficit__1 : decode cX10_deficit_ 1 = .ok (.istore_n 2, 1) := by decide +kernel
theorem dX10_deficit__2 : decode cX10_deficit_ 2 = .ok (.iconst 0, 1) := by decide +kernel
theorem dX10_deficit__3 : decode cX10_deficit_ 3 = .ok (.istore_n 3, 1) := by decide +kernel
theorem dX10_deficit__4 : decode cX10_deficit_ 4 = .ok (.iconst 0, 1) := by decide +kernel
theorem dX10_deficit__5 : decode cX10_deficit_ 5 = .ok (.istore 4, 2) := by decide +kernel
theorem dX10_deficit__7 : decode cX10_deficit_ 7 = .ok (.iload 4, 2) := by decide +kernel
theorem dX10_deficit__9 : decode cX10_deficit_ 9 = .ok (.aload_n 0, 1) := by decide +kernel
theorem dX10_deficit__10 : decode cX10_deficit_ 10 = .ok (.getfield 43, 3) := by decide +kernel
theorem dX10_deficit__13 : decode cX10_deficit_ 13 = .ok (.if_icmp .ge 30, 3) := by decide +kernel
theorem dX10_deficit__16 : decode cX10_deficit_ 16 = .ok (.aload_n 0, 1) := by decide +kernel
theorem dX10_deficit__17 : decode cX10_deficit_ 17 = .ok (.iload_n 1, 1) := by decide +kernel
theorem dX10_deficit__18 : decode cX10_deficit_ 18 = .ok (.iload 4, 2) := by decide +kernel
theorem dX10_deficit__20 : decode cX10_deficit_ 20 = .ok (.invokevirtual 109, 3) := by decide +kernel
theorem dX10_deficit__23 : decode cX10_deficit_ 23 = .ok (.istore 5, 2) := by decide +kernel
theorem dX10_deficit__25 : decode cX10_deficit_ 25 = .ok (.iload_n 3, 1) := by decide +kernel
theorem dX10_deficit__26 : decode cX10_deficit_ 26 = .ok (.iload 5, 2) := by decide +kernel
theorem dX10_deficit__28 : decode cX10_deficit_ 28 = .ok (.iadd, 1) := by decide +kernel
theorem dX10_deficit__29 : decode cX10_deficit_ 29 = .ok (.istore_n 3, 1) := by decide +kernel
theorem dX10_deficit__30 : decode cX10_deficit_ 30 = .ok (.iload_n 2, 1) := by decide +kernel
theorem dX10_deficit__31 : decode cX10_deficit_ 31 = .ok (.iload 5, 2) := by decide +kernel
theorem dX10_deficit__33 : decode cX10_deficit_ 33 = .ok (.invokestatic 113, 3) := by decide +kernel
theorem dX10_deficit__36 : decode cX10_deficit_ 36 = .ok (.istore_n 2, 1) := by decide +kernel
theorem dX10_deficit__37 : decode cX10_deficit_ 37 = .ok (.iinc 4 1, 3) := by decide +kernel
theorem dX10_deficit__40 : decode cX10_deficit_ 40 = .ok (.goto (-33), 3) := by decide +kernel
theorem dX10_deficit__43 : decode cX10_deficit_ 43 = .ok (.bipush 60, 2) := by decide +kernel
theorem dX10_deficit__45 : decode cX10_deficit_ 45 = .ok (.iload_n 2, 1) := by decide +kernel
theorem dX10_deficit__46 : decode cX10_deficit_ 46 = .ok (.iload_n 3, 1) := by decide +kernel
theorem dX10_deficit__47 : decode cX10_deficit_ 47 = .ok (.iload_n 2, 1) := by decide +kernel
theorem dX10_deficit__48 : decode cX10_deficit_ 48 = .ok (.isub, 1) := by decide +kernel
theorem dX10_deficit__49 : decode cX10_deficit_ 49 = .ok (.iconst 2, 1) := by decide +kernel
theorem dX10_deficit__50 : decode cX10_deficit_ 50 = .ok (.idiv, 1) := by decide +kernel
theorem dX10_deficit__51 : decode cX10_deficit_ 51 = .ok (.iadd, 1) := by decide +kernel
theorem dX10_deficit__52 : decode cX10_deficit_ 52 = .ok (.invokestatic 116, 3) := by decide +kernel
theorem dX10_deficit__55 : decode cX10_deficit_ 55 = .ok (.ireturn, 1) := by decide +kernel
theorem wfRX10_43 : zFl RX10 43 9 7 := ⟨_, rfl, by decide, zm_f 981 (by decide +kernel) rfl⟩
theorem wcRX10_109 : Cond.methodLink RX10 109 yX10_wake ∈ zTg ∧ Cond.instanceMethod yX10_wake ∈ zTg ∧ Cond.selects RX10 yX10_wake yX10_wake ∈ zTg ∧ Cond.initialized RX10 ∈ zTg ∧ Cond.code yX10_wake cX10_wake 5 (some .int) ∈ zTg := ⟨zm_f 1130 (by decide +kernel) rfl, zm_f 1131 (by decide +kernel) rfl, zm_f 1132 (by decide +kernel) rfl, zm_f 47 (by decide +kernel) rfl, zm_f 1133 (by decide +kernel) rfl⟩
theorem wy_yX10_wake : yX10_wake.cls = RX10 ∧ yX10_wake.cls ≠ "java/lang/invoke/MethodHandle" ∧ yX10_wake.cls ≠ "java/lang/invoke/VarHandle" ∧ (parseMethodDescriptor yX10_wake.desc).map (fun d => d.parameters.length) = some 2 := by decide +kernel
theorem wmRX10_113 : Cond.methodLink RX10 113 Lib.Math.max.name ∈ zTg := zm_f 1141 (by decide +kernel) rfl
theorem wmRX10_116 : Cond.methodLink RX10 116 Lib.Math.min.name ∈ zTg := zm_f 1142 (by decide +kernel) rfl
def fMS_deficit_l7 (a1 : Int32) (s0 : zM) (q1 : Int32 × Int32 × Int32) : Option ((Int32 × Int32 × Int32) ⊕ ((Int32 × Int32))) :=
  if (s0 0 0 7) ≤ q1.2.2 then
  some (.inr (q1.1, q1.2.1))
else
  Option.bind (fMS_wake a1 q1.2.2 s0) fun q3 =>
    zlet ((q1.2.1 + q3)) fun v4 =>
    zlet ((zmax q1.1 q3)) fun v5 =>
    zlet (q1.2.2 + 1) fun v6 =>
    some (.inl (v5, v4, v6))
def fMS_deficit (a1 : Int32) (s0 : zM) : Option (Int32) :=
  Option.bind (ziter (fMS_deficit_l7 a1 s0) 1000 ((0 : Int32), (0 : Int32), (0 : Int32))) fun q2 =>
  some (zmin (60 : Int32) (q2.1 + ((q2.2 - q2.1) / (2 : Int32))))
set_option maxHeartbeats 4000000 in
set_option maxRecDepth 20000 in
theorem bfMS_deficit_l7 {X : zX} (F : zFr X cX10_deficit_ 6 RX10 (some .int)) (a1 : Int32) (s0 : zM)  {ψ : (Int32 × Int32 × Int32) ⊕ ((Int32 × Int32)) → Option zO} (h1 : ∀ q1 : Int32 × Int32 × Int32, zZ X [(3, [])] 3 76 6 7 [some (zr 0 0 0), some (zi a1), some (zi q1.1), some (zi q1.2.1), some (zi q1.2.2), none] [] [s0] (ψ (.inl q1))) (h2 : ∀ q2 : Int32 × Int32, zZ X [(3, [])] 3 76 6 43 [none, none, some (zi q2.1), some (zi q2.2), none, none] [] [s0] (ψ (.inr q2))) (q1 : Int32 × Int32 × Int32) : zZ X [(3, [])] 3 76 6 7 [some (zr 0 0 0), some (zi a1), some (zi q1.1), some (zi q1.2.1), some (zi q1.2.2), none] [] [s0] (Option.bind (fMS_deficit_l7 a1 s0 q1) ψ) := by
  unfold fMS_deficit_l7
  refine zz_iload F (i := 4) dX10_deficit__7 rfl ?_
  refine zz_aload_n F (i := 0) dX10_deficit__9 rfl rfl ?_
  refine zz_getf F dX10_deficit__10 wfRX10_43 zCl_9 rfl (⟨zlb rfl, zlb rfl, zlb rfl⟩) rfl (by decide) rfl rfl ?_
  refine zz_icmp_ge F (tgt := 43) dX10_deficit__13 (by decide) (fun h => zz_t h ?_) (fun h => zz_f h ?_)
  · exact zz_sub (zs_n (zs_n (zs_k (zs_k (zs_n (zs_k zs_z)))))) (h2 (q1.1, q1.2.1))
  · refine zz_aload_n F (i := 0) dX10_deficit__16 rfl rfl ?_
    refine zz_iload_n F (i := 1) dX10_deficit__17 rfl rfl ?_
    refine zz_iload F (i := 4) dX10_deficit__18 rfl ?_
    refine zz_bind ?_
    refine zz_callVr F (ρ := [0]) (so := fun q3 => [zi q3]) (Mo := fun q3 => [s0]) (zfMS_wake a1 q1.2.2 s0) dX10_deficit__20 wcRX10_109 wy_yX10_wake rfl ⟨rel18, rfl, rfl, Nat.le_of_ble_eq_true rfl, Nat.le_of_ble_eq_true rfl, Nat.le_of_ble_eq_true rfl⟩ (⟨zlb rfl, zlb rfl, zlb rfl⟩) rfl rfl rfl (fun _ => rfl) (fun _ => rfl) fun q3 => ?_
    refine zz_istore F (i := 5) (L' := [some (zr 0 0 0), some (zi a1), some (zi q1.1), some (zi q1.2.1), some (zi q1.2.2), some (zi q3)]) dX10_deficit__23 (by decide) rfl rfl ?_
    refine zz_iload_n F (i := 3) dX10_deficit__25 rfl rfl ?_
    refine zz_iload F (i := 5) dX10_deficit__26 rfl ?_
    refine zz_iadd F dX10_deficit__28 ?_
    refine zz_istore_n F (i := 3) (L' := [some (zr 0 0 0), some (zi a1), some (zi q1.1), some (zi (q1.2.1 + q3)), some (zi q1.2.2), some (zi q3)]) dX10_deficit__29 rfl (by decide) rfl rfl ?_
    refine zz_letl (Lf := fun v4 => [some (zr 0 0 0), some (zi a1), some (zi q1.1), some (zi v4), some (zi q1.2.2), some (zi q3)]) fun v4 => ?_
    refine zz_iload_n F (i := 2) dX10_deficit__30 rfl rfl ?_
    refine zz_iload F (i := 5) dX10_deficit__31 rfl ?_
    refine zz_max F dX10_deficit__33 wmRX10_113 wMath_max (Nat.le_of_ble_eq_true rfl) (Nat.le_of_ble_eq_true rfl) ?_
    refine zz_istore_n F (i := 2) (L' := [some (zr 0 0 0), some (zi a1), some (zi (zmax q1.1 q3)), some (zi v4), some (zi q1.2.2), some (zi q3)]) dX10_deficit__36 rfl (by decide) rfl rfl ?_
    refine zz_letl (Lf := fun v5 => [some (zr 0 0 0), some (zi a1), some (zi v5), some (zi v4), some (zi q1.2.2), some (zi q3)]) fun v5 => ?_
    refine zz_iinc F (i := 4) (v := q1.2.2 + 1) (L' := [some (zr 0 0 0), some (zi a1), some (zi v5), some (zi v4), some (zi (q1.2.2 + 1)), some (zi q3)]) dX10_deficit__37 rfl (by first | rfl | decide) (by decide) rfl rfl ?_
    refine zz_letl (Lf := fun v6 => [some (zr 0 0 0), some (zi a1), some (zi v5), some (zi v4), some (zi v6), some (zi q3)]) fun v6 => ?_
    refine zz_goto F (tgt := 7) dX10_deficit__40 (by decide) ?_
    exact zz_sub (zs_k (zs_k (zs_k (zs_k (zs_k (zs_n zs_z)))))) (h1 (v5, v4, v6))
set_option maxHeartbeats 4000000 in
set_option maxRecDepth 20000 in
theorem bfMS_deficit {X : zX} (F : zFr X cX10_deficit_ 6 RX10 (some .int)) (a1 : Int32)  (s0 : zM) {κ : Int32 → Option zO} (hκ : ∀ a, κ a = some ((fun a => ((.inl ((fun q => some (zi q)) a), (fun _ => [s0]) a) : zO)) a)) : zZ X [(3, [])] 3 76 6 0 [some (zr 0 0 0), some (zi a1), none, none, none, none] [] [s0] (Option.bind (fMS_deficit a1 s0) κ) := by
  unfold fMS_deficit
  refine zz_iconst F (v := (0 : Int32)) dX10_deficit__0 (by decide) ?_
  refine zz_istore_n F (i := 2) (L' := [some (zr 0 0 0), some (zi a1), some (zi (0 : Int32)), none, none, none]) dX10_deficit__1 rfl (by decide) rfl rfl ?_
  refine zz_iconst F (v := (0 : Int32)) dX10_deficit__2 (by decide) ?_
  refine zz_istore_n F (i := 3) (L' := [some (zr 0 0 0), some (zi a1), some (zi (0 : Int32)), some (zi (0 : Int32)), none, none]) dX10_deficit__3 rfl (by decide) rfl rfl ?_
  refine zz_iconst F (v := (0 : Int32)) dX10_deficit__4 (by decide) ?_
  refine zz_istore F (i := 4) (L' := [some (zr 0 0 0), some (zi a1), some (zi (0 : Int32)), some (zi (0 : Int32)), some (zi (0 : Int32)), none]) dX10_deficit__5 (by decide) rfl rfl ?_
  refine zz_sub (zs_k (zs_k (zs_k (zs_k (zs_k (zs_k zs_z)))))) ?_
  refine zz_bind ?_
  refine zz_iter (Lf := fun q1 => [some (zr 0 0 0), some (zi a1), some (zi q1.1), some (zi q1.2.1), some (zi q1.2.2), none]) (Mf := fun q1 => [s0]) (fun q1 _ e7 e8 => bfMS_deficit_l7 F a1 s0  e7 (fun q2 => ?_)  q1) 1000 ((0 : Int32), (0 : Int32), (0 : Int32))
  rw [e8]
  refine zz_bipush F (v := (60 : Int32)) dX10_deficit__43 (by decide) ?_
  refine zz_iload_n F (i := 2) dX10_deficit__45 rfl rfl ?_
  refine zz_iload_n F (i := 3) dX10_deficit__46 rfl rfl ?_
  refine zz_iload_n F (i := 2) dX10_deficit__47 rfl rfl ?_
  refine zz_isub F dX10_deficit__48 ?_
  refine zz_iconst F (v := (2 : Int32)) dX10_deficit__49 (by decide) ?_
  refine zz_idiv F dX10_deficit__50 (by decide) ?_
  refine zz_iadd F dX10_deficit__51 ?_
  refine zz_min F dX10_deficit__52 wmRX10_116 wMath_min (Nat.le_of_ble_eq_true rfl) (Nat.le_of_ble_eq_true rfl) ?_
  exact zz_ireturn F dX10_deficit__55 rfl (hκ _)
theorem zfMS_deficit (a1 : Int32)  (s0 : zM) : ∀ a, fMS_deficit a1 s0 = some a → zMet yX10_deficit_ cX10_deficit_ 6 (some .int) 3 76 [(3, [])] [zr 0 0 0, zi a1] [s0] ((fun a => ((.inl ((fun q => some (zi q)) a), (fun _ => [s0]) a) : zO)) a) := fun a ha => zMet_of (L0 := [some (zr 0 0 0), some (zi a1), none, none, none, none]) (φ := Option.bind (fMS_deficit a1 s0) (fun a => some ((fun a => ((.inl ((fun q => some (zi q)) a), (fun _ => [s0]) a) : zO)) a))) (by decide) (fun _ => Nat.le_of_ble_eq_true rfl) (zl0 4 rfl) (fun X F => bfMS_deficit F a1 s0 (fun _ => rfl)) (by rw [ha]; rfl)
