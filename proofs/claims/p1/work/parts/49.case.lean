theorem ycRL_90 : Cond.methodLink RL 90 yL_string ∈ zTg ∧ Cond.static yL_string ∈ zTg ∧ Cond.initialized yL_string.cls ∈ zTg ∧ Cond.codeWith yL_string cL_string 4 (some .int) [(0, 9, 12, 13), (0, 9, 15, 15)] ∈ zTg := ⟨zm_f 747 (by decide +kernel) rfl, zm_f 748 (by decide +kernel) rfl, zm_f 36 (by decide +kernel) rfl, zm_f 749 (by decide +kernel) rfl⟩
theorem yyyL_string : yL_string.cls ≠ "java/lang/invoke/MethodHandle" ∧ yL_string.cls ≠ "java/lang/invoke/VarHandle" ∧ (parseMethodDescriptor yL_string.desc).map (fun d => d.parameters.length) = some 3 := by decide +kernel
theorem ycRL_95 : Cond.methodLink RL 95 yX11_string ∈ zTg ∧ Cond.instanceMethod yX11_string ∈ zTg ∧ Cond.selects "WakeBanksModel" yX11_string yX11_string ∈ zTg ∧ Cond.initialized "WakeBanksModel" ∈ zTg ∧ Cond.code yX11_string cX11_string 2 (some .int) ∈ zTg := ⟨zm_f 1071 (by decide +kernel) rfl, zm_f 1072 (by decide +kernel) rfl, zm_f 1073 (by decide +kernel) rfl, zm_f 46 (by decide +kernel) rfl, zm_f 1074 (by decide +kernel) rfl⟩
theorem yzyX11_string : yX11_string.cls = "WakeBanksModel" ∧ yX11_string.cls ≠ "java/lang/invoke/MethodHandle" ∧ yX11_string.cls ≠ "java/lang/invoke/VarHandle" ∧ (parseMethodDescriptor yX11_string.desc).map (fun d => d.parameters.length) = some 1 := by decide +kernel
theorem ycRL_96 : Cond.methodLink RL 96 yX11_thrown ∈ zTg ∧ Cond.instanceMethod yX11_thrown ∈ zTg ∧ Cond.selects "WakeBanksModel" yX11_thrown yX11_thrown ∈ zTg ∧ Cond.initialized "WakeBanksModel" ∈ zTg ∧ Cond.code yX11_thrown cX11_thrown 1 (some .int) ∈ zTg := ⟨zm_f 1067 (by decide +kernel) rfl, zm_f 1068 (by decide +kernel) rfl, zm_f 1069 (by decide +kernel) rfl, zm_f 46 (by decide +kernel) rfl, zm_f 1070 (by decide +kernel) rfl⟩
theorem yzyX11_thrown : yX11_thrown.cls = "WakeBanksModel" ∧ yX11_thrown.cls ≠ "java/lang/invoke/MethodHandle" ∧ yX11_thrown.cls ≠ "java/lang/invoke/VarHandle" ∧ (parseMethodDescriptor yX11_thrown.desc).map (fun d => d.parameters.length) = some 0 := by decide +kernel
theorem ycRL_100 : Cond.methodLink RL 100 yL_turbine ∈ zTg ∧ Cond.static yL_turbine ∈ zTg ∧ Cond.initialized yL_turbine.cls ∈ zTg ∧ Cond.codeWith yL_turbine cL_turbine 6 (some .int) [(0, 12, 15, 21), (0, 12, 19, 13), (0, 12, 23, 15)] ∈ zTg := ⟨zm_f 777 (by decide +kernel) rfl, zm_f 778 (by decide +kernel) rfl, zm_f 36 (by decide +kernel) rfl, zm_f 779 (by decide +kernel) rfl⟩
theorem yyyL_turbine : yL_turbine.cls ≠ "java/lang/invoke/MethodHandle" ∧ yL_turbine.cls ≠ "java/lang/invoke/VarHandle" ∧ (parseMethodDescriptor yL_turbine.desc).map (fun d => d.parameters.length) = some 5 := by decide +kernel
theorem ycRL_103 : Cond.methodLink RL 103 yX11_turbine ∈ zTg ∧ Cond.instanceMethod yX11_turbine ∈ zTg ∧ Cond.selects "WakeBanksModel" yX11_turbine yX11_turbine ∈ zTg ∧ Cond.initialized "WakeBanksModel" ∈ zTg ∧ Cond.code yX11_turbine cX11_turbine 5 (some .int) ∈ zTg := ⟨zm_f 1082 (by decide +kernel) rfl, zm_f 1083 (by decide +kernel) rfl, zm_f 1084 (by decide +kernel) rfl, zm_f 46 (by decide +kernel) rfl, zm_f 1085 (by decide +kernel) rfl⟩
theorem yzyX11_turbine : yX11_turbine.cls = "WakeBanksModel" ∧ yX11_turbine.cls ≠ "java/lang/invoke/MethodHandle" ∧ yX11_turbine.cls ≠ "java/lang/invoke/VarHandle" ∧ (parseMethodDescriptor yX11_turbine.desc).map (fun d => d.parameters.length) = some 3 := by decide +kernel
theorem ycRL_104 : Cond.methodLink RL 104 yL_vessel ∈ zTg ∧ Cond.static yL_vessel ∈ zTg ∧ Cond.initialized yL_vessel.cls ∈ zTg ∧ Cond.codeWith yL_vessel cL_vessel 4 (some .int) [(0, 9, 12, 13), (0, 9, 15, 15)] ∈ zTg := ⟨zm_f 792 (by decide +kernel) rfl, zm_f 793 (by decide +kernel) rfl, zm_f 36 (by decide +kernel) rfl, zm_f 794 (by decide +kernel) rfl⟩
theorem yyyL_vessel : yL_vessel.cls ≠ "java/lang/invoke/MethodHandle" ∧ yL_vessel.cls ≠ "java/lang/invoke/VarHandle" ∧ (parseMethodDescriptor yL_vessel.desc).map (fun d => d.parameters.length) = some 3 := by decide +kernel
theorem ycRL_106 : Cond.methodLink RL 106 yX11_vessel ∈ zTg ∧ Cond.instanceMethod yX11_vessel ∈ zTg ∧ Cond.selects "WakeBanksModel" yX11_vessel yX11_vessel ∈ zTg ∧ Cond.initialized "WakeBanksModel" ∈ zTg ∧ Cond.code yX11_vessel cX11_vessel 3 (some .int) ∈ zTg := ⟨zm_f 1090 (by decide +kernel) rfl, zm_f 1091 (by decide +kernel) rfl, zm_f 1092 (by decide +kernel) rfl, zm_f 46 (by decide +kernel) rfl, zm_f 1093 (by decide +kernel) rfl⟩
theorem yzyX11_vessel : yX11_vessel.cls = "WakeBanksModel" ∧ yX11_vessel.cls ≠ "java/lang/invoke/MethodHandle" ∧ yX11_vessel.cls ≠ "java/lang/invoke/VarHandle" ∧ (parseMethodDescriptor yX11_vessel.desc).map (fun d => d.parameters.length) = some 1 := by decide +kernel
theorem ycRL_107 : Cond.methodLink RL 107 yL_nominate ∈ zTg ∧ Cond.static yL_nominate ∈ zTg ∧ Cond.initialized yL_nominate.cls ∈ zTg ∧ Cond.codeWith yL_nominate cL_nominate 5 (some .int) [(0, 10, 13, 13)] ∈ zTg := ⟨zm_f 805 (by decide +kernel) rfl, zm_f 806 (by decide +kernel) rfl, zm_f 36 (by decide +kernel) rfl, zm_f 807 (by decide +kernel) rfl⟩
theorem yyyL_nominate : yL_nominate.cls ≠ "java/lang/invoke/MethodHandle" ∧ yL_nominate.cls ≠ "java/lang/invoke/VarHandle" ∧ (parseMethodDescriptor yL_nominate.desc).map (fun d => d.parameters.length) = some 4 := by decide +kernel
theorem ycRL_110 : Cond.methodLink RL 110 yX11_nominate ∈ zTg ∧ Cond.instanceMethod yX11_nominate ∈ zTg ∧ Cond.selects "WakeBanksModel" yX11_nominate yX11_nominate ∈ zTg ∧ Cond.initialized "WakeBanksModel" ∈ zTg ∧ Cond.code yX11_nominate cX11_nominate 3 (some .int) ∈ zTg := ⟨zm_f 1095 (by decide +kernel) rfl, zm_f 1096 (by decide +kernel) rfl, zm_f 1097 (by decide +kernel) rfl, zm_f 46 (by decide +kernel) rfl, zm_f 1098 (by decide +kernel) rfl⟩
theorem yzyX11_nominate : yX11_nominate.cls = "WakeBanksModel" ∧ yX11_nominate.cls ≠ "java/lang/invoke/MethodHandle" ∧ yX11_nominate.cls ≠ "java/lang/invoke/VarHandle" ∧ (parseMethodDescriptor yX11_nominate.desc).map (fun d => d.parameters.length) = some 2 := by decide +kernel
theorem ycRL_111 : Cond.methodLink RL 111 yL_blow ∈ zTg ∧ Cond.static yL_blow ∈ zTg ∧ Cond.initialized yL_blow.cls ∈ zTg ∧ Cond.codeWith yL_blow cL_blow 9 (some .int) [(0, 18, 21, 13)] ∈ zTg := ⟨zm_f 817 (by decide +kernel) rfl, zm_f 818 (by decide +kernel) rfl, zm_f 36 (by decide +kernel) rfl, zm_f 819 (by decide +kernel) rfl⟩
theorem yyyL_blow : yL_blow.cls ≠ "java/lang/invoke/MethodHandle" ∧ yL_blow.cls ≠ "java/lang/invoke/VarHandle" ∧ (parseMethodDescriptor yL_blow.desc).map (fun d => d.parameters.length) = some 8 := by decide +kernel
theorem ycRL_114 : Cond.methodLink RL 114 yX11_blow ∈ zTg ∧ Cond.instanceMethod yX11_blow ∈ zTg ∧ Cond.selects "WakeBanksModel" yX11_blow yX11_blow ∈ zTg ∧ Cond.initialized "WakeBanksModel" ∈ zTg ∧ Cond.code yX11_blow cX11_blow 7 (some .int) ∈ zTg := ⟨zm_f 1103 (by decide +kernel) rfl, zm_f 1104 (by decide +kernel) rfl, zm_f 1105 (by decide +kernel) rfl, zm_f 46 (by decide +kernel) rfl, zm_f 1106 (by decide +kernel) rfl⟩
theorem yzyX11_blow : yX11_blow.cls = "WakeBanksModel" ∧ yX11_blow.cls ≠ "java/lang/invoke/MethodHandle" ∧ yX11_blow.cls ≠ "java/lang/invoke/VarHandle" ∧ (parseMethodDescriptor yX11_blow.desc).map (fun d => d.parameters.length) = some 6 := by decide +kernel
theorem ycRL_115 : Cond.methodLink RL 115 yL_turn ∈ zTg ∧ Cond.static yL_turn ∈ zTg ∧ Cond.initialized yL_turn.cls ∈ zTg ∧ Cond.codeWith yL_turn cL_turn 5 (some .int) [(0, 10, 13, 21), (0, 10, 17, 13)] ∈ zTg := ⟨zm_f 826 (by decide +kernel) rfl, zm_f 827 (by decide +kernel) rfl, zm_f 36 (by decide +kernel) rfl, zm_f 828 (by decide +kernel) rfl⟩
theorem yyyL_turn : yL_turn.cls ≠ "java/lang/invoke/MethodHandle" ∧ yL_turn.cls ≠ "java/lang/invoke/VarHandle" ∧ (parseMethodDescriptor yL_turn.desc).map (fun d => d.parameters.length) = some 4 := by decide +kernel
theorem ycRL_117 : Cond.methodLink RL 117 yX11_turn ∈ zTg ∧ Cond.instanceMethod yX11_turn ∈ zTg ∧ Cond.selects "WakeBanksModel" yX11_turn yX11_turn ∈ zTg ∧ Cond.initialized "WakeBanksModel" ∈ zTg ∧ Cond.code yX11_turn cX11_turn 4 (some .int) ∈ zTg := ⟨zm_f 1182 (by decide +kernel) rfl, zm_f 1183 (by decide +kernel) rfl, zm_f 1184 (by decide +kernel) rfl, zm_f 46 (by decide +kernel) rfl, zm_f 1185 (by decide +kernel) rfl⟩
theorem yzyX11_turn : yX11_turn.cls = "WakeBanksModel" ∧ yX11_turn.cls ≠ "java/lang/invoke/MethodHandle" ∧ yX11_turn.cls ≠ "java/lang/invoke/VarHandle" ∧ (parseMethodDescriptor yX11_turn.desc).map (fun d => d.parameters.length) = some 2 := by decide +kernel
theorem ycRL_118 : Cond.methodLink RL 118 yL_call ∈ zTg ∧ Cond.static yL_call ∈ zTg ∧ Cond.initialized yL_call.cls ∈ zTg ∧ Cond.codeWith yL_call cL_call 5 (some .int) [(0, 10, 13, 21), (0, 10, 17, 15)] ∈ zTg := ⟨zm_f 834 (by decide +kernel) rfl, zm_f 835 (by decide +kernel) rfl, zm_f 36 (by decide +kernel) rfl, zm_f 836 (by decide +kernel) rfl⟩
theorem yyyL_call : yL_call.cls ≠ "java/lang/invoke/MethodHandle" ∧ yL_call.cls ≠ "java/lang/invoke/VarHandle" ∧ (parseMethodDescriptor yL_call.desc).map (fun d => d.parameters.length) = some 4 := by decide +kernel
theorem ycRL_121 : Cond.methodLink RL 121 yX11_call ∈ zTg ∧ Cond.instanceMethod yX11_call ∈ zTg ∧ Cond.selects "WakeBanksModel" yX11_call yX11_call ∈ zTg ∧ Cond.initialized "WakeBanksModel" ∈ zTg ∧ Cond.code yX11_call cX11_call 6 (some .int) ∈ zTg := ⟨zm_f 1190 (by decide +kernel) rfl, zm_f 1191 (by decide +kernel) rfl, zm_f 1192 (by decide +kernel) rfl, zm_f 46 (by decide +kernel) rfl, zm_f 1193 (by decide +kernel) rfl⟩
theorem yzyX11_call : yX11_call.cls = "WakeBanksModel" ∧ yX11_call.cls ≠ "java/lang/invoke/MethodHandle" ∧ yX11_call.cls ≠ "java/lang/invoke/VarHandle" ∧ (parseMethodDescriptor yX11_call.desc).map (fun d => d.parameters.length) = some 2 := by decide +kernel
theorem ycRL_122 : Cond.methodLink RL 122 yL_floor ∈ zTg ∧ Cond.static yL_floor ∈ zTg ∧ Cond.initialized yL_floor.cls ∈ zTg ∧ Cond.codeWith yL_floor cL_floor 4 (some .int) [(0, 9, 12, 13)] ∈ zTg := ⟨zm_f 848 (by decide +kernel) rfl, zm_f 849 (by decide +kernel) rfl, zm_f 36 (by decide +kernel) rfl, zm_f 850 (by decide +kernel) rfl⟩
theorem yyyL_floor : yL_floor.cls ≠ "java/lang/invoke/MethodHandle" ∧ yL_floor.cls ≠ "java/lang/invoke/VarHandle" ∧ (parseMethodDescriptor yL_floor.desc).map (fun d => d.parameters.length) = some 3 := by decide +kernel
theorem ycRL_124 : Cond.methodLink RL 124 yX11_floor ∈ zTg ∧ Cond.instanceMethod yX11_floor ∈ zTg ∧ Cond.selects "WakeBanksModel" yX11_floor yX11_floor ∈ zTg ∧ Cond.initialized "WakeBanksModel" ∈ zTg ∧ Cond.code yX11_floor cX11_floor 3 (some .int) ∈ zTg := ⟨zm_f 1196 (by decide +kernel) rfl, zm_f 1197 (by decide +kernel) rfl, zm_f 1198 (by decide +kernel) rfl, zm_f 46 (by decide +kernel) rfl, zm_f 1199 (by decide +kernel) rfl⟩
theorem yzyX11_floor : yX11_floor.cls = "WakeBanksModel" ∧ yX11_floor.cls ≠ "java/lang/invoke/MethodHandle" ∧ yX11_floor.cls ≠ "java/lang/invoke/VarHandle" ∧ (parseMethodDescriptor yX11_floor.desc).map (fun d => d.parameters.length) = some 1 := by decide +kernel
theorem ycRL_125 : Cond.methodLink RL 125 yL_sail ∈ zTg ∧ Cond.static yL_sail ∈ zTg ∧ Cond.initialized yL_sail.cls ∈ zTg ∧ Cond.codeWith yL_sail cL_sail 5 (some .int) [(0, 10, 13, 21), (0, 10, 17, 15)] ∈ zTg := ⟨zm_f 856 (by decide +kernel) rfl, zm_f 857 (by decide +kernel) rfl, zm_f 36 (by decide +kernel) rfl, zm_f 858 (by decide +kernel) rfl⟩
theorem yyyL_sail : yL_sail.cls ≠ "java/lang/invoke/MethodHandle" ∧ yL_sail.cls ≠ "java/lang/invoke/VarHandle" ∧ (parseMethodDescriptor yL_sail.desc).map (fun d => d.parameters.length) = some 4 := by decide +kernel
theorem ycRL_127 : Cond.methodLink RL 127 yX11_sail ∈ zTg ∧ Cond.instanceMethod yX11_sail ∈ zTg ∧ Cond.selects "WakeBanksModel" yX11_sail yX11_sail ∈ zTg ∧ Cond.initialized "WakeBanksModel" ∈ zTg ∧ Cond.code yX11_sail cX11_sail 6 (some .int) ∈ zTg := ⟨zm_f 1200 (by decide +kernel) rfl, zm_f 1201 (by decide +kernel) rfl, zm_f 1202 (by decide +kernel) rfl, zm_f 46 (by decide +kernel) rfl, zm_f 1203 (by decide +kernel) rfl⟩
theorem yzyX11_sail : yX11_sail.cls = "WakeBanksModel" ∧ yX11_sail.cls ≠ "java/lang/invoke/MethodHandle" ∧ yX11_sail.cls ≠ "java/lang/invoke/VarHandle" ∧ (parseMethodDescriptor yX11_sail.desc).map (fun d => d.parameters.length) = some 2 := by decide +kernel
theorem ycRL_128 : Cond.methodLink RL 128 yL_lock ∈ zTg ∧ Cond.static yL_lock ∈ zTg ∧ Cond.initialized yL_lock.cls ∈ zTg ∧ Cond.codeWith yL_lock cL_lock 5 (some .int) [(0, 10, 13, 21), (0, 10, 17, 15)] ∈ zTg := ⟨zm_f 868 (by decide +kernel) rfl, zm_f 869 (by decide +kernel) rfl, zm_f 36 (by decide +kernel) rfl, zm_f 870 (by decide +kernel) rfl⟩
theorem yyyL_lock : yL_lock.cls ≠ "java/lang/invoke/MethodHandle" ∧ yL_lock.cls ≠ "java/lang/invoke/VarHandle" ∧ (parseMethodDescriptor yL_lock.desc).map (fun d => d.parameters.length) = some 4 := by decide +kernel
theorem ycRL_130 : Cond.methodLink RL 130 yX11_lock ∈ zTg ∧ Cond.instanceMethod yX11_lock ∈ zTg ∧ Cond.selects "WakeBanksModel" yX11_lock yX11_lock ∈ zTg ∧ Cond.initialized "WakeBanksModel" ∈ zTg ∧ Cond.code yX11_lock cX11_lock 5 (some .int) ∈ zTg := ⟨zm_f 1208 (by decide +kernel) rfl, zm_f 1209 (by decide +kernel) rfl, zm_f 1210 (by decide +kernel) rfl, zm_f 46 (by decide +kernel) rfl, zm_f 1211 (by decide +kernel) rfl⟩
theorem yzyX11_lock : yX11_lock.cls = "WakeBanksModel" ∧ yX11_lock.cls ≠ "java/lang/invoke/MethodHandle" ∧ yX11_lock.cls ≠ "java/lang/invoke/VarHandle" ∧ (parseMethodDescriptor yX11_lock.desc).map (fun d => d.parameters.length) = some 2 := by decide +kernel
theorem ycRL_131 : Cond.methodLink RL 131 yL_climb ∈ zTg ∧ Cond.static yL_climb ∈ zTg ∧ Cond.initialized yL_climb.cls ∈ zTg ∧ Cond.codeWith yL_climb cL_climb 5 (some .int) [(0, 10, 13, 21)] ∈ zTg := ⟨zm_f 885 (by decide +kernel) rfl, zm_f 886 (by decide +kernel) rfl, zm_f 36 (by decide +kernel) rfl, zm_f 887 (by decide +kernel) rfl⟩
theorem yyyL_climb : yL_climb.cls ≠ "java/lang/invoke/MethodHandle" ∧ yL_climb.cls ≠ "java/lang/invoke/VarHandle" ∧ (parseMethodDescriptor yL_climb.desc).map (fun d => d.parameters.length) = some 4 := by decide +kernel
theorem ycRL_133 : Cond.methodLink RL 133 yX11_climb ∈ zTg ∧ Cond.instanceMethod yX11_climb ∈ zTg ∧ Cond.selects "WakeBanksModel" yX11_climb yX11_climb ∈ zTg ∧ Cond.initialized "WakeBanksModel" ∈ zTg ∧ Cond.code yX11_climb cX11_climb 4 (some .int) ∈ zTg := ⟨zm_f 1212 (by decide +kernel) rfl, zm_f 1213 (by decide +kernel) rfl, zm_f 1214 (by decide +kernel) rfl, zm_f 46 (by decide +kernel) rfl, zm_f 1215 (by decide +kernel) rfl⟩
theorem yzyX11_climb : yX11_climb.cls = "WakeBanksModel" ∧ yX11_climb.cls ≠ "java/lang/invoke/MethodHandle" ∧ yX11_climb.cls ≠ "java/lang/invoke/VarHandle" ∧ (parseMethodDescriptor yX11_climb.desc).map (fun d => d.parameters.length) = some 2 := by decide +kernel
theorem ycRL_134 : Cond.methodLink RL 134 yL_down ∈ zTg ∧ Cond.static yL_down ∈ zTg ∧ Cond.initialized yL_down.cls ∈ zTg ∧ Cond.codeWith yL_down cL_down 4 (some .int) [(0, 9, 12, 21), (0, 9, 15, 15)] ∈ zTg := ⟨zm_f 902 (by decide +kernel) rfl, zm_f 903 (by decide +kernel) rfl, zm_f 36 (by decide +kernel) rfl, zm_f 904 (by decide +kernel) rfl⟩
theorem yyyL_down : yL_down.cls ≠ "java/lang/invoke/MethodHandle" ∧ yL_down.cls ≠ "java/lang/invoke/VarHandle" ∧ (parseMethodDescriptor yL_down.desc).map (fun d => d.parameters.length) = some 3 := by decide +kernel
theorem ycRL_136 : Cond.methodLink RL 136 yX11_down ∈ zTg ∧ Cond.instanceMethod yX11_down ∈ zTg ∧ Cond.selects "WakeBanksModel" yX11_down yX11_down ∈ zTg ∧ Cond.initialized "WakeBanksModel" ∈ zTg ∧ Cond.code yX11_down cX11_down 4 (some .int) ∈ zTg := ⟨zm_f 1216 (by decide +kernel) rfl, zm_f 1217 (by decide +kernel) rfl, zm_f 1218 (by decide +kernel) rfl, zm_f 46 (by decide +kernel) rfl, zm_f 1219 (by decide +kernel) rfl⟩
theorem yzyX11_down : yX11_down.cls = "WakeBanksModel" ∧ yX11_down.cls ≠ "java/lang/invoke/MethodHandle" ∧ yX11_down.cls ≠ "java/lang/invoke/VarHandle" ∧ (parseMethodDescriptor yX11_down.desc).map (fun d => d.parameters.length) = some 1 := by decide +kernel
theorem ycRL_137 : Cond.methodLink RL 137 yL_ofTurbine ∈ zTg ∧ Cond.static yL_ofTurbine ∈ zTg ∧ Cond.initialized yL_ofTurbine.cls ∈ zTg ∧ Cond.codeWith yL_ofTurbine cL_ofTurbine 5 (some .int) [(0, 10, 13, 21), (0, 10, 17, 13)] ∈ zTg := ⟨zm_f 914 (by decide +kernel) rfl, zm_f 915 (by decide +kernel) rfl, zm_f 36 (by decide +kernel) rfl, zm_f 916 (by decide +kernel) rfl⟩
theorem yyyL_ofTurbine : yL_ofTurbine.cls ≠ "java/lang/invoke/MethodHandle" ∧ yL_ofTurbine.cls ≠ "java/lang/invoke/VarHandle" ∧ (parseMethodDescriptor yL_ofTurbine.desc).map (fun d => d.parameters.length) = some 4 := by decide +kernel
theorem ycRL_139 : Cond.methodLink RL 139 yX11_ofTurbine ∈ zTg ∧ Cond.instanceMethod yX11_ofTurbine ∈ zTg ∧ Cond.selects "WakeBanksModel" yX11_ofTurbine yX11_ofTurbine ∈ zTg ∧ Cond.initialized "WakeBanksModel" ∈ zTg ∧ Cond.code yX11_ofTurbine cX11_ofTurbine 3 (some .int) ∈ zTg := ⟨zm_f 1220 (by decide +kernel) rfl, zm_f 1221 (by decide +kernel) rfl, zm_f 1222 (by decide +kernel) rfl, zm_f 46 (by decide +kernel) rfl, zm_f 1223 (by decide +kernel) rfl⟩
theorem yzyX11_ofTurbine : yX11_ofTurbine.cls = "WakeBanksModel" ∧ yX11_ofTurbine.cls ≠ "java/lang/invoke/MethodHandle" ∧ yX11_ofTurbine.cls ≠ "java/lang/invoke/VarHandle" ∧ (parseMethodDescriptor yX11_ofTurbine.desc).map (fun d => d.parameters.length) = some 2 := by decide +kernel
theorem ycRL_140 : Cond.methodLink RL 140 yL_wear ∈ zTg ∧ Cond.static yL_wear ∈ zTg ∧ Cond.initialized yL_wear.cls ∈ zTg ∧ Cond.codeWith yL_wear cL_wear 5 (some .int) [(0, 10, 13, 21)] ∈ zTg := ⟨zm_f 918 (by decide +kernel) rfl, zm_f 919 (by decide +kernel) rfl, zm_f 36 (by decide +kernel) rfl, zm_f 920 (by decide +kernel) rfl⟩
theorem yyyL_wear : yL_wear.cls ≠ "java/lang/invoke/MethodHandle" ∧ yL_wear.cls ≠ "java/lang/invoke/VarHandle" ∧ (parseMethodDescriptor yL_wear.desc).map (fun d => d.parameters.length) = some 4 := by decide +kernel
theorem ycRL_142 : Cond.methodLink RL 142 yX11_wear ∈ zTg ∧ Cond.instanceMethod yX11_wear ∈ zTg ∧ Cond.selects "WakeBanksModel" yX11_wear yX11_wear ∈ zTg ∧ Cond.initialized "WakeBanksModel" ∈ zTg ∧ Cond.code yX11_wear cX11_wear 3 (some .int) ∈ zTg := ⟨zm_f 1230 (by decide +kernel) rfl, zm_f 1231 (by decide +kernel) rfl, zm_f 1232 (by decide +kernel) rfl, zm_f 46 (by decide +kernel) rfl, zm_f 1233 (by decide +kernel) rfl⟩
theorem yzyX11_wear : yX11_wear.cls = "WakeBanksModel" ∧ yX11_wear.cls ≠ "java/lang/invoke/MethodHandle" ∧ yX11_wear.cls ≠ "java/lang/invoke/VarHandle" ∧ (parseMethodDescriptor yX11_wear.desc).map (fun d => d.parameters.length) = some 2 := by decide +kernel
theorem ycRL_143 : Cond.methodLink RL 143 yL_lost ∈ zTg ∧ Cond.static yL_lost ∈ zTg ∧ Cond.initialized yL_lost.cls ∈ zTg ∧ Cond.codeWith yL_lost cL_lost 5 (some .int) [(0, 10, 13, 21)] ∈ zTg := ⟨zm_f 922 (by decide +kernel) rfl, zm_f 923 (by decide +kernel) rfl, zm_f 36 (by decide +kernel) rfl, zm_f 924 (by decide +kernel) rfl⟩
theorem yyyL_lost : yL_lost.cls ≠ "java/lang/invoke/MethodHandle" ∧ yL_lost.cls ≠ "java/lang/invoke/VarHandle" ∧ (parseMethodDescriptor yL_lost.desc).map (fun d => d.parameters.length) = some 4 := by decide +kernel
theorem ycRL_145 : Cond.methodLink RL 145 yX11_lost ∈ zTg ∧ Cond.instanceMethod yX11_lost ∈ zTg ∧ Cond.selects "WakeBanksModel" yX11_lost yX11_lost ∈ zTg ∧ Cond.initialized "WakeBanksModel" ∈ zTg ∧ Cond.code yX11_lost cX11_lost 3 (some .int) ∈ zTg := ⟨zm_f 1234 (by decide +kernel) rfl, zm_f 1235 (by decide +kernel) rfl, zm_f 1236 (by decide +kernel) rfl, zm_f 46 (by decide +kernel) rfl, zm_f 1237 (by decide +kernel) rfl⟩
theorem yzyX11_lost : yX11_lost.cls = "WakeBanksModel" ∧ yX11_lost.cls ≠ "java/lang/invoke/MethodHandle" ∧ yX11_lost.cls ≠ "java/lang/invoke/VarHandle" ∧ (parseMethodDescriptor yX11_lost.desc).map (fun d => d.parameters.length) = some 2 := by decide +kernel
theorem ycRL_146 : Cond.methodLink RL 146 yL_wake ∈ zTg ∧ Cond.static yL_wake ∈ zTg ∧ Cond.initialized yL_wake.cls ∈ zTg ∧ Cond.codeWith yL_wake cL_wake 5 (some .int) [(0, 10, 13, 21)] ∈ zTg := ⟨zm_f 926 (by decide +kernel) rfl, zm_f 927 (by decide +kernel) rfl, zm_f 36 (by decide +kernel) rfl, zm_f 928 (by decide +kernel) rfl⟩
theorem yyyL_wake : yL_wake.cls ≠ "java/lang/invoke/MethodHandle" ∧ yL_wake.cls ≠ "java/lang/invoke/VarHandle" ∧ (parseMethodDescriptor yL_wake.desc).map (fun d => d.parameters.length) = some 4 := by decide +kernel
theorem ycRL_148 : Cond.methodLink RL 148 yX11_wake ∈ zTg ∧ Cond.instanceMethod yX11_wake ∈ zTg ∧ Cond.selects "WakeBanksModel" yX11_wake yX11_wake ∈ zTg ∧ Cond.initialized "WakeBanksModel" ∈ zTg ∧ Cond.code yX11_wake cX11_wake 3 (some .int) ∈ zTg := ⟨zm_f 1238 (by decide +kernel) rfl, zm_f 1239 (by decide +kernel) rfl, zm_f 1240 (by decide +kernel) rfl, zm_f 46 (by decide +kernel) rfl, zm_f 1241 (by decide +kernel) rfl⟩
theorem yzyX11_wake : yX11_wake.cls = "WakeBanksModel" ∧ yX11_wake.cls ≠ "java/lang/invoke/MethodHandle" ∧ yX11_wake.cls ≠ "java/lang/invoke/VarHandle" ∧ (parseMethodDescriptor yX11_wake.desc).map (fun d => d.parameters.length) = some 2 := by decide +kernel
theorem ycRL_149 : Cond.methodLink RL 149 yL_extreme ∈ zTg ∧ Cond.static yL_extreme ∈ zTg ∧ Cond.initialized yL_extreme.cls ∈ zTg ∧ Cond.codeWith yL_extreme cL_extreme 5 (some .int) [(0, 10, 13, 21)] ∈ zTg := ⟨zm_f 930 (by decide +kernel) rfl, zm_f 931 (by decide +kernel) rfl, zm_f 36 (by decide +kernel) rfl, zm_f 932 (by decide +kernel) rfl⟩
theorem yyyL_extreme : yL_extreme.cls ≠ "java/lang/invoke/MethodHandle" ∧ yL_extreme.cls ≠ "java/lang/invoke/VarHandle" ∧ (parseMethodDescriptor yL_extreme.desc).map (fun d => d.parameters.length) = some 4 := by decide +kernel
theorem ycRL_151 : Cond.methodLink RL 151 yX11_extreme ∈ zTg ∧ Cond.instanceMethod yX11_extreme ∈ zTg ∧ Cond.selects "WakeBanksModel" yX11_extreme yX11_extreme ∈ zTg ∧ Cond.initialized "WakeBanksModel" ∈ zTg ∧ Cond.code yX11_extreme cX11_extreme 3 (some .int) ∈ zTg := ⟨zm_f 1243 (by decide +kernel) rfl, zm_f 1244 (by decide +kernel) rfl, zm_f 1245 (by decide +kernel) rfl, zm_f 46 (by decide +kernel) rfl, zm_f 1246 (by decide +kernel) rfl⟩
theorem yzyX11_extreme : yX11_extreme.cls = "WakeBanksModel" ∧ yX11_extreme.cls ≠ "java/lang/invoke/MethodHandle" ∧ yX11_extreme.cls ≠ "java/lang/invoke/VarHandle" ∧ (parseMethodDescriptor yX11_extreme.desc).map (fun d => d.parameters.length) = some 2 := by decide +kernel
theorem ycRL_152 : Cond.methodLink RL 152 yL_ofString ∈ zTg ∧ Cond.static yL_ofString ∈ zTg ∧ Cond.initialized yL_ofString.cls ∈ zTg ∧ Cond.codeWith yL_ofString cL_ofString 5 (some .int) [(0, 10, 13, 21), (0, 10, 17, 13)] ∈ zTg := ⟨zm_f 934 (by decide +kernel) rfl, zm_f 935 (by decide +kernel) rfl, zm_f 36 (by decide +kernel) rfl, zm_f 936 (by decide +kernel) rfl⟩
theorem yyyL_ofString : yL_ofString.cls ≠ "java/lang/invoke/MethodHandle" ∧ yL_ofString.cls ≠ "java/lang/invoke/VarHandle" ∧ (parseMethodDescriptor yL_ofString.desc).map (fun d => d.parameters.length) = some 4 := by decide +kernel
theorem ycRL_154 : Cond.methodLink RL 154 yX11_ofString ∈ zTg ∧ Cond.instanceMethod yX11_ofString ∈ zTg ∧ Cond.selects "WakeBanksModel" yX11_ofString yX11_ofString ∈ zTg ∧ Cond.initialized "WakeBanksModel" ∈ zTg ∧ Cond.code yX11_ofString cX11_ofString 3 (some .int) ∈ zTg := ⟨zm_f 1247 (by decide +kernel) rfl, zm_f 1248 (by decide +kernel) rfl, zm_f 1249 (by decide +kernel) rfl, zm_f 46 (by decide +kernel) rfl, zm_f 1250 (by decide +kernel) rfl⟩
theorem yzyX11_ofString : yX11_ofString.cls = "WakeBanksModel" ∧ yX11_ofString.cls ≠ "java/lang/invoke/MethodHandle" ∧ yX11_ofString.cls ≠ "java/lang/invoke/VarHandle" ∧ (parseMethodDescriptor yX11_ofString.desc).map (fun d => d.parameters.length) = some 2 := by decide +kernel
theorem ycRL_155 : Cond.methodLink RL 155 yL_ofVessel ∈ zTg ∧ Cond.static yL_ofVessel ∈ zTg ∧ Cond.initialized yL_ofVessel.cls ∈ zTg ∧ Cond.codeWith yL_ofVessel cL_ofVessel 5 (some .int) [(0, 10, 13, 21), (0, 10, 17, 13)] ∈ zTg := ⟨zm_f 938 (by decide +kernel) rfl, zm_f 939 (by decide +kernel) rfl, zm_f 36 (by decide +kernel) rfl, zm_f 940 (by decide +kernel) rfl⟩
theorem yyyL_ofVessel : yL_ofVessel.cls ≠ "java/lang/invoke/MethodHandle" ∧ yL_ofVessel.cls ≠ "java/lang/invoke/VarHandle" ∧ (parseMethodDescriptor yL_ofVessel.desc).map (fun d => d.parameters.length) = some 4 := by decide +kernel
theorem ycRL_157 : Cond.methodLink RL 157 yX11_ofVessel ∈ zTg ∧ Cond.instanceMethod yX11_ofVessel ∈ zTg ∧ Cond.selects "WakeBanksModel" yX11_ofVessel yX11_ofVessel ∈ zTg ∧ Cond.initialized "WakeBanksModel" ∈ zTg ∧ Cond.code yX11_ofVessel cX11_ofVessel 3 (some .int) ∈ zTg := ⟨zm_f 1255 (by decide +kernel) rfl, zm_f 1256 (by decide +kernel) rfl, zm_f 1257 (by decide +kernel) rfl, zm_f 46 (by decide +kernel) rfl, zm_f 1258 (by decide +kernel) rfl⟩
theorem yzyX11_ofVessel : yX11_ofVessel.cls = "WakeBanksModel" ∧ yX11_ofVessel.cls ≠ "java/lang/invoke/MethodHandle" ∧ yX11_ofVessel.cls ≠ "java/lang/invoke/VarHandle" ∧ (parseMethodDescriptor yX11_ofVessel.desc).map (fun d => d.parameters.length) = some 2 := by decide +kernel
theorem ycRL_158 : Cond.methodLink RL 158 yL_many ∈ zTg ∧ Cond.static yL_many ∈ zTg ∧ Cond.initialized yL_many.cls ∈ zTg ∧ Cond.codeWith yL_many cL_many 4 (some .int) [(0, 9, 12, 13)] ∈ zTg := ⟨zm_f 942 (by decide +kernel) rfl, zm_f 943 (by decide +kernel) rfl, zm_f 36 (by decide +kernel) rfl, zm_f 944 (by decide +kernel) rfl⟩
theorem yyyL_many : yL_many.cls ≠ "java/lang/invoke/MethodHandle" ∧ yL_many.cls ≠ "java/lang/invoke/VarHandle" ∧ (parseMethodDescriptor yL_many.desc).map (fun d => d.parameters.length) = some 3 := by decide +kernel
theorem ycRL_160 : Cond.methodLink RL 160 yX11_many ∈ zTg ∧ Cond.instanceMethod yX11_many ∈ zTg ∧ Cond.selects "WakeBanksModel" yX11_many yX11_many ∈ zTg ∧ Cond.initialized "WakeBanksModel" ∈ zTg ∧ Cond.code yX11_many cX11_many 2 (some .int) ∈ zTg := ⟨zm_f 1259 (by decide +kernel) rfl, zm_f 1260 (by decide +kernel) rfl, zm_f 1261 (by decide +kernel) rfl, zm_f 46 (by decide +kernel) rfl, zm_f 1262 (by decide +kernel) rfl⟩
theorem yzyX11_many : yX11_many.cls = "WakeBanksModel" ∧ yX11_many.cls ≠ "java/lang/invoke/MethodHandle" ∧ yX11_many.cls ≠ "java/lang/invoke/VarHandle" ∧ (parseMethodDescriptor yX11_many.desc).map (fun d => d.parameters.length) = some 1 := by decide +kernel
theorem ycRL_166 : Cond.methodLink RL 166 yL_wouldDeliver ∈ zTg ∧ Cond.static yL_wouldDeliver ∈ zTg ∧ Cond.initialized yL_wouldDeliver.cls ∈ zTg ∧ Cond.codeWith yL_wouldDeliver cL_wouldDeliver 4 (some .int) [(0, 9, 12, 13)] ∈ zTg := ⟨zm_f 946 (by decide +kernel) rfl, zm_f 947 (by decide +kernel) rfl, zm_f 36 (by decide +kernel) rfl, zm_f 948 (by decide +kernel) rfl⟩
theorem yyyL_wouldDeliver : yL_wouldDeliver.cls ≠ "java/lang/invoke/MethodHandle" ∧ yL_wouldDeliver.cls ≠ "java/lang/invoke/VarHandle" ∧ (parseMethodDescriptor yL_wouldDeliver.desc).map (fun d => d.parameters.length) = some 3 := by decide +kernel
theorem ycRL_168 : Cond.methodLink RL 168 yX11_wouldDeliver ∈ zTg ∧ Cond.instanceMethod yX11_wouldDeliver ∈ zTg ∧ Cond.selects "WakeBanksModel" yX11_wouldDeliver yX11_wouldDeliver ∈ zTg ∧ Cond.initialized "WakeBanksModel" ∈ zTg ∧ Cond.code yX11_wouldDeliver cX11_wouldDeliver 2 (some .int) ∈ zTg := ⟨zm_f 1275 (by decide +kernel) rfl, zm_f 1276 (by decide +kernel) rfl, zm_f 1277 (by decide +kernel) rfl, zm_f 46 (by decide +kernel) rfl, zm_f 1278 (by decide +kernel) rfl⟩
theorem yzyX11_wouldDeliver : yX11_wouldDeliver.cls = "WakeBanksModel" ∧ yX11_wouldDeliver.cls ≠ "java/lang/invoke/MethodHandle" ∧ yX11_wouldDeliver.cls ≠ "java/lang/invoke/VarHandle" ∧ (parseMethodDescriptor yX11_wouldDeliver.desc).map (fun d => d.parameters.length) = some 1 := by decide +kernel
theorem ycRL_169 : Cond.methodLink RL 169 yL_bestTurn ∈ zTg ∧ Cond.static yL_bestTurn ∈ zTg ∧ Cond.initialized yL_bestTurn.cls ∈ zTg ∧ Cond.codeWith yL_bestTurn cL_bestTurn 4 (some .int) [(0, 9, 12, 21)] ∈ zTg := ⟨zm_f 950 (by decide +kernel) rfl, zm_f 951 (by decide +kernel) rfl, zm_f 36 (by decide +kernel) rfl, zm_f 952 (by decide +kernel) rfl⟩
theorem yyyL_bestTurn : yL_bestTurn.cls ≠ "java/lang/invoke/MethodHandle" ∧ yL_bestTurn.cls ≠ "java/lang/invoke/VarHandle" ∧ (parseMethodDescriptor yL_bestTurn.desc).map (fun d => d.parameters.length) = some 3 := by decide +kernel
theorem ycRL_171 : Cond.methodLink RL 171 yX11_bestTurn ∈ zTg ∧ Cond.instanceMethod yX11_bestTurn ∈ zTg ∧ Cond.selects "WakeBanksModel" yX11_bestTurn yX11_bestTurn ∈ zTg ∧ Cond.initialized "WakeBanksModel" ∈ zTg ∧ Cond.code yX11_bestTurn cX11_bestTurn 2 (some .int) ∈ zTg := ⟨zm_f 1285 (by decide +kernel) rfl, zm_f 1286 (by decide +kernel) rfl, zm_f 1287 (by decide +kernel) rfl, zm_f 46 (by decide +kernel) rfl, zm_f 1288 (by decide +kernel) rfl⟩
theorem yzyX11_bestTurn : yX11_bestTurn.cls = "WakeBanksModel" ∧ yX11_bestTurn.cls ≠ "java/lang/invoke/MethodHandle" ∧ yX11_bestTurn.cls ≠ "java/lang/invoke/VarHandle" ∧ (parseMethodDescriptor yX11_bestTurn.desc).map (fun d => d.parameters.length) = some 1 := by decide +kernel
set_option maxHeartbeats 4000000 in
set_option maxRecDepth 20000 in
theorem zlc_string {X : zX} (F : zLr X cL_law 9 RL) {b0 q h0 mc ms fr lo : Nat} {xs : Nat → Int32} {B : State → Prop} (f : Nat → Int64) (ad1 : zR → Nat) (l : List Nat) (hX : zScr X b0 7 xs) (hr : 12 ≤ fr ∧ 440 ≤ lo ∧ 1000 ≤ mc ∧ 5000 ≤ ms) (T : zN X mc ms fr lo B 9 1730 [(4, .int 0), (0, .ref b0)] [] [] 1000 5000) : zN X mc ms fr lo B 9 156 [(4, .int 0), (3, .ref q), (2, .ref h0), (1, .ref (ad1 (0, 0, 0))), (0, .ref b0)] [] (zwl (zcA X) ad1 [(2, [1, 2, 3]), (0, []), (0, []), (1, [])] [zm0, zfr0, zfr0, zm0] ++ [(q, .inl (zcA X 5, 1, .inr (.inl f)))] ++ zwl (zcA X) (zadM h0 l) [(4, [1]), (3, [])] [zm0, zfr3]) 200 2000 := by
  obtain ⟨k, b, mcc, msc, BL, fb, lb, mcr, msr, BR, ⟨n1, n2, n3, n4, n5, n6⟩, hL, hBL, hR, hBR⟩ := zag_string ((xs 1)) q f ad1 h0 l
  refine zn_aload_n F (i := 1) (k := 3) dL_law_156 rfl rfl ?_
  refine zn_aload_n F (i := 0) (k := 4) dL_law_157 rfl rfl ?_
  refine zn_iload F (i := 4) (k := 0) dL_law_158 rfl ?_
  refine zn_iconst F (v := 1) dL_law_160 (by decide) ?_
  refine zn_iaddv F (v := 1) dL_law_161 (by decide) ?_
  refine zn_sld F hX (jn := 1) dL_law_162 (zvi (by decide)) (by decide) ?_
  refine zn_aload_n F (i := 3) (k := 1) dL_law_163 rfl rfl ?_
  refine zn_callW F (as := .ref (ad1 (0, 0, 0)) :: ([.int (xs 1)] ++ [.ref q])) (st := []) hL dL_law_164 ycRL_90 yyyL_string rfl (wsB := zwl (zcA X) (zadM h0 l) [(4, [1]), (3, [])] [zm0, zfr3]) rfl rfl (Nat.le_of_ble_eq_true rfl) (Nat.le_trans (Nat.le_of_ble_eq_true rfl) hr.1) (Nat.le_trans (Nat.le_of_ble_eq_true rfl) hr.2.1) (by omega) (by omega) fun v w1 hB => ?_
  obtain ⟨rfl, w', f', rfl, h0b⟩ := hBL _ _ _ hB
  refine zn_istore F (i := 5) (lv' := [(5, .int k), (4, .int 0), (3, .ref q), (2, .ref h0), (1, .ref (ad1 (0, 0, 0))), (0, .ref b0)]) dL_law_167 (by decide) rfl ?_
  refine zn_aload_n F (i := 2) (k := 3) dL_law_169 rfl rfl ?_
  refine zn_aload_n F (i := 0) (k := 5) dL_law_170 rfl rfl ?_
  refine zn_iload F (i := 4) (k := 1) dL_law_171 rfl ?_
  refine zn_iconst F (v := 1) dL_law_173 (by decide) ?_
  refine zn_iaddv F (v := 1) dL_law_174 (by decide) ?_
  refine zn_sld F hX (jn := 1) dL_law_175 (zvi (by decide)) (by decide) ?_
  refine zn_perm List.perm_append_comm ?_
  refine zn_callV F (as := [.int (xs 1)]) (st := []) (j0 := 0) hR dL_law_176 ycRL_95 yzyX11_string rfl (wsB := w' ++ [(q, .inl (zcA X 5, 1, .inr (.inl f')))]) rfl (ci := 10) rfl rfl rfl (Nat.le_of_ble_eq_true rfl) (by omega) (by omega) (by omega) (by omega) fun v w2 hB2 => ?_
  obtain ⟨rfl, s, tl, rfl⟩ := hBR _ _ _ hB2
  refine zn_istore F (i := 6) (lv' := [(6, .int b), (5, .int k), (4, .int 0), (3, .ref q), (2, .ref h0), (1, .ref (ad1 (0, 0, 0))), (0, .ref b0)]) dL_law_179 (by decide) rfl ?_
  refine zn_aload_n F (i := 2) (k := 4) dL_law_181 rfl rfl ?_
  refine zn_callV F (as := []) (st := []) (j0 := 0) (zrM_thrown h0 k s) dL_law_182 ycRL_96 yzyX11_thrown rfl (wsB := tl ++ (w' ++ [(q, .inl (zcA X 5, 1, .inr (.inl f')))])) rfl (ci := 10) rfl rfl rfl (Nat.le_of_ble_eq_true rfl) (by omega) (by omega) (by omega) (by omega) fun v w3 hB3 => ?_
  obtain ⟨rfl, rfl⟩ := hB3
  refine zn_iload F (i := 5) (k := 1) dL_law_185 rfl ?_
  refine zn_icmp_eq F (tgt := 192) dL_law_187 (by decide) (fun _ => ?_) (fun z => absurd rfl z)
  refine zn_iload F (i := 5) (k := 1) dL_law_192 rfl ?_
  have kj : ∀ (wz : va_W), zN X mc ms fr lo B 9 209 [(6, .int b), (5, .int k), (4, .int 0), (3, .ref q), (2, .ref h0), (1, .ref (ad1 (0, 0, 0))), (0, .ref b0)] [] wz (200 + mcc + mcr + 0) (2000 + msc + msr + 0) := fun wz => zn_goto F (tgt := 1730) dL_law_209 (by decide) (zn_pick [2, 6] rfl (zn_sub [] (ws' := []) rfl rfl (zn_wid (by omega) (by omega) T)))
  refine zn_if_ne F (tgt := 209) dL_law_194 (by decide) (fun _ => kj _) (fun hk => ?_)
  refine zn_ws (ws' := ([(h0, .inr (10, [.int k, .ref s]))] ++ (tl ++ w')) ++ [(q, .inl (zcA X 5, 1, .inr (.inl f')))]) (by simp only [List.append_assoc, List.cons_append, List.nil_append]) ?_
  refine zn_aload_n F (i := 3) (k := 3) dL_law_197 rfl rfl ?_
  refine zn_iconst F (v := 0) dL_law_198 (by decide) ?_
  refine zn_laldE F dL_law_199 (by decide) rfl (zvi (by decide)) (jn := 0) (by decide) (h0b hk) ?_
  refine zn_iload F (i := 6) (k := 0) dL_law_200 rfl ?_
  refine zn_i2l F dL_law_202 ?_
  refine zn_lcmp F dL_law_203 ?_
  exact zn_if_eq F (tgt := 209) dL_law_204 (by decide) (fun _ => kj _) (fun z => absurd ((lg_cmp_eq _ _).mpr rfl) z)

set_option maxHeartbeats 4000000 in
set_option maxRecDepth 20000 in
theorem zlc_turbine {X : zX} (F : zLr X cL_law 9 RL) {b0 q h0 mc ms fr lo : Nat} {xs : Nat → Int32} {B : State → Prop} (f : Nat → Int64) (ad1 : zR → Nat) (l : List Nat) (hX : zScr X b0 7 xs) (hr : 12 ≤ fr ∧ 440 ≤ lo ∧ 1000 ≤ mc ∧ 5000 ≤ ms) (T : zN X mc ms fr lo B 9 1730 [(4, .int 0), (0, .ref b0)] [] [] 1000 5000) : zN X mc ms fr lo B 9 212 [(4, .int 0), (3, .ref q), (2, .ref h0), (1, .ref (ad1 (0, 0, 0))), (0, .ref b0)] [] (zwl (zcA X) ad1 [(2, [1, 2, 3]), (0, []), (0, []), (1, [])] [zm0, zfr0, zfr0, zm0] ++ [(q, .inl (zcA X 5, 1, .inr (.inl f)))] ++ zwl (zcA X) (zadM h0 l) [(4, [1]), (3, [])] [zm0, zfr3]) 200 2000 := by
  obtain ⟨k, b, mcc, msc, BL, fb, lb, mcr, msr, BR, ⟨n1, n2, n3, n4, n5, n6⟩, hL, hBL, hR, hBR⟩ := zag_turbine ((xs 1)) ((xs 2)) ((xs 3)) q f ad1 h0 l
  refine zn_aload_n F (i := 1) (k := 3) dL_law_212 rfl rfl ?_
  refine zn_aload_n F (i := 0) (k := 4) dL_law_213 rfl rfl ?_
  refine zn_iload F (i := 4) (k := 0) dL_law_214 rfl ?_
  refine zn_iconst F (v := 1) dL_law_216 (by decide) ?_
  refine zn_iaddv F (v := 1) dL_law_217 (by decide) ?_
  refine zn_sld F hX (jn := 1) dL_law_218 (zvi (by decide)) (by decide) ?_
  refine zn_aload_n F (i := 0) (k := 4) dL_law_219 rfl rfl ?_
  refine zn_iload F (i := 4) (k := 0) dL_law_220 rfl ?_
  refine zn_iconst F (v := 2) dL_law_222 (by decide) ?_
  refine zn_iaddv F (v := 2) dL_law_223 (by decide) ?_
  refine zn_sld F hX (jn := 2) dL_law_224 (zvi (by decide)) (by decide) ?_
  refine zn_aload_n F (i := 0) (k := 4) dL_law_225 rfl rfl ?_
  refine zn_iload F (i := 4) (k := 0) dL_law_226 rfl ?_
  refine zn_iconst F (v := 3) dL_law_228 (by decide) ?_
  refine zn_iaddv F (v := 3) dL_law_229 (by decide) ?_
  refine zn_sld F hX (jn := 3) dL_law_230 (zvi (by decide)) (by decide) ?_
  refine zn_aload_n F (i := 3) (k := 1) dL_law_231 rfl rfl ?_
  refine zn_callW F (as := .ref (ad1 (0, 0, 0)) :: ([.int (xs 1), .int (xs 2), .int (xs 3)] ++ [.ref q])) (st := []) hL dL_law_232 ycRL_100 yyyL_turbine rfl (wsB := zwl (zcA X) (zadM h0 l) [(4, [1]), (3, [])] [zm0, zfr3]) rfl rfl (Nat.le_of_ble_eq_true rfl) (Nat.le_trans (Nat.le_of_ble_eq_true rfl) hr.1) (Nat.le_trans (Nat.le_of_ble_eq_true rfl) hr.2.1) (by omega) (by omega) fun v w1 hB => ?_
  obtain ⟨rfl, w', f', rfl, h0b⟩ := hBL _ _ _ hB
  refine zn_istore F (i := 5) (lv' := [(5, .int k), (4, .int 0), (3, .ref q), (2, .ref h0), (1, .ref (ad1 (0, 0, 0))), (0, .ref b0)]) dL_law_235 (by decide) rfl ?_
  refine zn_aload_n F (i := 2) (k := 3) dL_law_237 rfl rfl ?_
  refine zn_aload_n F (i := 0) (k := 5) dL_law_238 rfl rfl ?_
  refine zn_iload F (i := 4) (k := 1) dL_law_239 rfl ?_
  refine zn_iconst F (v := 1) dL_law_241 (by decide) ?_
  refine zn_iaddv F (v := 1) dL_law_242 (by decide) ?_
  refine zn_sld F hX (jn := 1) dL_law_243 (zvi (by decide)) (by decide) ?_
  refine zn_aload_n F (i := 0) (k := 5) dL_law_244 rfl rfl ?_
  refine zn_iload F (i := 4) (k := 1) dL_law_245 rfl ?_
  refine zn_iconst F (v := 2) dL_law_247 (by decide) ?_
  refine zn_iaddv F (v := 2) dL_law_248 (by decide) ?_
  refine zn_sld F hX (jn := 2) dL_law_249 (zvi (by decide)) (by decide) ?_
  refine zn_aload_n F (i := 0) (k := 5) dL_law_250 rfl rfl ?_
  refine zn_iload F (i := 4) (k := 1) dL_law_251 rfl ?_
  refine zn_iconst F (v := 3) dL_law_253 (by decide) ?_
  refine zn_iaddv F (v := 3) dL_law_254 (by decide) ?_
  refine zn_sld F hX (jn := 3) dL_law_255 (zvi (by decide)) (by decide) ?_
  refine zn_perm List.perm_append_comm ?_
  refine zn_callV F (as := [.int (xs 1), .int (xs 2), .int (xs 3)]) (st := []) (j0 := 0) hR dL_law_256 ycRL_103 yzyX11_turbine rfl (wsB := w' ++ [(q, .inl (zcA X 5, 1, .inr (.inl f')))]) rfl (ci := 10) rfl rfl rfl (Nat.le_of_ble_eq_true rfl) (by omega) (by omega) (by omega) (by omega) fun v w2 hB2 => ?_
  obtain ⟨rfl, s, tl, rfl⟩ := hBR _ _ _ hB2
  refine zn_istore F (i := 6) (lv' := [(6, .int b), (5, .int k), (4, .int 0), (3, .ref q), (2, .ref h0), (1, .ref (ad1 (0, 0, 0))), (0, .ref b0)]) dL_law_259 (by decide) rfl ?_
  refine zn_aload_n F (i := 2) (k := 4) dL_law_261 rfl rfl ?_
  refine zn_callV F (as := []) (st := []) (j0 := 0) (zrM_thrown h0 k s) dL_law_262 ycRL_96 yzyX11_thrown rfl (wsB := tl ++ (w' ++ [(q, .inl (zcA X 5, 1, .inr (.inl f')))])) rfl (ci := 10) rfl rfl rfl (Nat.le_of_ble_eq_true rfl) (by omega) (by omega) (by omega) (by omega) fun v w3 hB3 => ?_
  obtain ⟨rfl, rfl⟩ := hB3
  refine zn_iload F (i := 5) (k := 1) dL_law_265 rfl ?_
  refine zn_icmp_eq F (tgt := 272) dL_law_267 (by decide) (fun _ => ?_) (fun z => absurd rfl z)
  refine zn_iload F (i := 5) (k := 1) dL_law_272 rfl ?_
  have kj : ∀ (wz : va_W), zN X mc ms fr lo B 9 289 [(6, .int b), (5, .int k), (4, .int 0), (3, .ref q), (2, .ref h0), (1, .ref (ad1 (0, 0, 0))), (0, .ref b0)] [] wz (200 + mcc + mcr + 0) (2000 + msc + msr + 0) := fun wz => zn_goto F (tgt := 1730) dL_law_289 (by decide) (zn_pick [2, 6] rfl (zn_sub [] (ws' := []) rfl rfl (zn_wid (by omega) (by omega) T)))
  refine zn_if_ne F (tgt := 289) dL_law_274 (by decide) (fun _ => kj _) (fun hk => ?_)
  refine zn_ws (ws' := ([(h0, .inr (10, [.int k, .ref s]))] ++ (tl ++ w')) ++ [(q, .inl (zcA X 5, 1, .inr (.inl f')))]) (by simp only [List.append_assoc, List.cons_append, List.nil_append]) ?_
  refine zn_aload_n F (i := 3) (k := 3) dL_law_277 rfl rfl ?_
  refine zn_iconst F (v := 0) dL_law_278 (by decide) ?_
  refine zn_laldE F dL_law_279 (by decide) rfl (zvi (by decide)) (jn := 0) (by decide) (h0b hk) ?_
  refine zn_iload F (i := 6) (k := 0) dL_law_280 rfl ?_
  refine zn_i2l F dL_law_282 ?_
  refine zn_lcmp F dL_law_283 ?_
  exact zn_if_eq F (tgt := 289) dL_law_284 (by decide) (fun _ => kj _) (fun z => absurd ((lg_cmp_eq _ _).mpr rfl) z)

set_option maxHeartbeats 4000000 in
set_option maxRecDepth 20000 in
theorem zlc_vessel {X : zX} (F : zLr X cL_law 9 RL) {b0 q h0 mc ms fr lo : Nat} {xs : Nat → Int32} {B : State → Prop} (f : Nat → Int64) (ad1 : zR → Nat) (l : List Nat) (hX : zScr X b0 7 xs) (hr : 12 ≤ fr ∧ 440 ≤ lo ∧ 1000 ≤ mc ∧ 5000 ≤ ms) (T : zN X mc ms fr lo B 9 1730 [(4, .int 0), (0, .ref b0)] [] [] 1000 5000) : zN X mc ms fr lo B 9 292 [(4, .int 0), (3, .ref q), (2, .ref h0), (1, .ref (ad1 (0, 0, 0))), (0, .ref b0)] [] (zwl (zcA X) ad1 [(2, [1, 2, 3]), (0, []), (0, []), (1, [])] [zm0, zfr0, zfr0, zm0] ++ [(q, .inl (zcA X 5, 1, .inr (.inl f)))] ++ zwl (zcA X) (zadM h0 l) [(4, [1]), (3, [])] [zm0, zfr3]) 200 2000 := by
  obtain ⟨k, b, mcc, msc, BL, fb, lb, mcr, msr, BR, ⟨n1, n2, n3, n4, n5, n6⟩, hL, hBL, hR, hBR⟩ := zag_vessel ((xs 1)) q f ad1 h0 l
  refine zn_aload_n F (i := 1) (k := 3) dL_law_292 rfl rfl ?_
  refine zn_aload_n F (i := 0) (k := 4) dL_law_293 rfl rfl ?_
  refine zn_iload F (i := 4) (k := 0) dL_law_294 rfl ?_
  refine zn_iconst F (v := 1) dL_law_296 (by decide) ?_
  refine zn_iaddv F (v := 1) dL_law_297 (by decide) ?_
  refine zn_sld F hX (jn := 1) dL_law_298 (zvi (by decide)) (by decide) ?_
  refine zn_aload_n F (i := 3) (k := 1) dL_law_299 rfl rfl ?_
  refine zn_callW F (as := .ref (ad1 (0, 0, 0)) :: ([.int (xs 1)] ++ [.ref q])) (st := []) hL dL_law_300 ycRL_104 yyyL_vessel rfl (wsB := zwl (zcA X) (zadM h0 l) [(4, [1]), (3, [])] [zm0, zfr3]) rfl rfl (Nat.le_of_ble_eq_true rfl) (Nat.le_trans (Nat.le_of_ble_eq_true rfl) hr.1) (Nat.le_trans (Nat.le_of_ble_eq_true rfl) hr.2.1) (by omega) (by omega) fun v w1 hB => ?_
  obtain ⟨rfl, w', f', rfl, h0b⟩ := hBL _ _ _ hB
  refine zn_istore F (i := 5) (lv' := [(5, .int k), (4, .int 0), (3, .ref q), (2, .ref h0), (1, .ref (ad1 (0, 0, 0))), (0, .ref b0)]) dL_law_303 (by decide) rfl ?_
  refine zn_aload_n F (i := 2) (k := 3) dL_law_305 rfl rfl ?_
  refine zn_aload_n F (i := 0) (k := 5) dL_law_306 rfl rfl ?_
  refine zn_iload F (i := 4) (k := 1) dL_law_307 rfl ?_
  refine zn_iconst F (v := 1) dL_law_309 (by decide) ?_
  refine zn_iaddv F (v := 1) dL_law_310 (by decide) ?_
  refine zn_sld F hX (jn := 1) dL_law_311 (zvi (by decide)) (by decide) ?_
  refine zn_perm List.perm_append_comm ?_
  refine zn_callV F (as := [.int (xs 1)]) (st := []) (j0 := 0) hR dL_law_312 ycRL_106 yzyX11_vessel rfl (wsB := w' ++ [(q, .inl (zcA X 5, 1, .inr (.inl f')))]) rfl (ci := 10) rfl rfl rfl (Nat.le_of_ble_eq_true rfl) (by omega) (by omega) (by omega) (by omega) fun v w2 hB2 => ?_
  obtain ⟨rfl, s, tl, rfl⟩ := hBR _ _ _ hB2
  refine zn_istore F (i := 6) (lv' := [(6, .int b), (5, .int k), (4, .int 0), (3, .ref q), (2, .ref h0), (1, .ref (ad1 (0, 0, 0))), (0, .ref b0)]) dL_law_315 (by decide) rfl ?_
  refine zn_aload_n F (i := 2) (k := 4) dL_law_317 rfl rfl ?_
  refine zn_callV F (as := []) (st := []) (j0 := 0) (zrM_thrown h0 k s) dL_law_318 ycRL_96 yzyX11_thrown rfl (wsB := tl ++ (w' ++ [(q, .inl (zcA X 5, 1, .inr (.inl f')))])) rfl (ci := 10) rfl rfl rfl (Nat.le_of_ble_eq_true rfl) (by omega) (by omega) (by omega) (by omega) fun v w3 hB3 => ?_
  obtain ⟨rfl, rfl⟩ := hB3
  refine zn_iload F (i := 5) (k := 1) dL_law_321 rfl ?_
  refine zn_icmp_eq F (tgt := 328) dL_law_323 (by decide) (fun _ => ?_) (fun z => absurd rfl z)
  refine zn_iload F (i := 5) (k := 1) dL_law_328 rfl ?_
  have kj : ∀ (wz : va_W), zN X mc ms fr lo B 9 345 [(6, .int b), (5, .int k), (4, .int 0), (3, .ref q), (2, .ref h0), (1, .ref (ad1 (0, 0, 0))), (0, .ref b0)] [] wz (200 + mcc + mcr + 0) (2000 + msc + msr + 0) := fun wz => zn_goto F (tgt := 1730) dL_law_345 (by decide) (zn_pick [2, 6] rfl (zn_sub [] (ws' := []) rfl rfl (zn_wid (by omega) (by omega) T)))
  refine zn_if_ne F (tgt := 345) dL_law_330 (by decide) (fun _ => kj _) (fun hk => ?_)
  refine zn_ws (ws' := ([(h0, .inr (10, [.int k, .ref s]))] ++ (tl ++ w')) ++ [(q, .inl (zcA X 5, 1, .inr (.inl f')))]) (by simp only [List.append_assoc, List.cons_append, List.nil_append]) ?_
  refine zn_aload_n F (i := 3) (k := 3) dL_law_333 rfl rfl ?_
  refine zn_iconst F (v := 0) dL_law_334 (by decide) ?_
  refine zn_laldE F dL_law_335 (by decide) rfl (zvi (by decide)) (jn := 0) (by decide) (h0b hk) ?_
  refine zn_iload F (i := 6) (k := 0) dL_law_336 rfl ?_
  refine zn_i2l F dL_law_338 ?_
  refine zn_lcmp F dL_law_339 ?_
  exact zn_if_eq F (tgt := 345) dL_law_340 (by decide) (fun _ => kj _) (fun z => absurd ((lg_cmp_eq _ _).mpr rfl) z)

set_option maxHeartbeats 4000000 in
set_option maxRecDepth 20000 in
theorem zlc_nominate {X : zX} (F : zLr X cL_law 9 RL) {b0 q h0 mc ms fr lo : Nat} {xs : Nat → Int32} {B : State → Prop} (f : Nat → Int64) (ad1 : zR → Nat) (l : List Nat) (hX : zScr X b0 7 xs) (hr : 12 ≤ fr ∧ 440 ≤ lo ∧ 1000 ≤ mc ∧ 5000 ≤ ms) (T : zN X mc ms fr lo B 9 1730 [(4, .int 0), (0, .ref b0)] [] [] 1000 5000) : zN X mc ms fr lo B 9 348 [(4, .int 0), (3, .ref q), (2, .ref h0), (1, .ref (ad1 (0, 0, 0))), (0, .ref b0)] [] (zwl (zcA X) ad1 [(2, [1, 2, 3]), (0, []), (0, []), (1, [])] [zm0, zfr0, zfr0, zm0] ++ [(q, .inl (zcA X 5, 1, .inr (.inl f)))] ++ zwl (zcA X) (zadM h0 l) [(4, [1]), (3, [])] [zm0, zfr3]) 200 2000 := by
  obtain ⟨k, b, mcc, msc, BL, fb, lb, mcr, msr, BR, ⟨n1, n2, n3, n4, n5, n6⟩, hL, hBL, hR, hBR⟩ := zag_nominate ((xs 1)) ((xs 2)) q f ad1 h0 l
  refine zn_aload_n F (i := 1) (k := 3) dL_law_348 rfl rfl ?_
  refine zn_aload_n F (i := 0) (k := 4) dL_law_349 rfl rfl ?_
  refine zn_iload F (i := 4) (k := 0) dL_law_350 rfl ?_
  refine zn_iconst F (v := 1) dL_law_352 (by decide) ?_
  refine zn_iaddv F (v := 1) dL_law_353 (by decide) ?_
  refine zn_sld F hX (jn := 1) dL_law_354 (zvi (by decide)) (by decide) ?_
  refine zn_aload_n F (i := 0) (k := 4) dL_law_355 rfl rfl ?_
  refine zn_iload F (i := 4) (k := 0) dL_law_356 rfl ?_
  refine zn_iconst F (v := 2) dL_law_358 (by decide) ?_
  refine zn_iaddv F (v := 2) dL_law_359 (by decide) ?_
  refine zn_sld F hX (jn := 2) dL_law_360 (zvi (by decide)) (by decide) ?_
  refine zn_aload_n F (i := 3) (k := 1) dL_law_361 rfl rfl ?_
  refine zn_callW F (as := .ref (ad1 (0, 0, 0)) :: ([.int (xs 1), .int (xs 2)] ++ [.ref q])) (st := []) hL dL_law_362 ycRL_107 yyyL_nominate rfl (wsB := zwl (zcA X) (zadM h0 l) [(4, [1]), (3, [])] [zm0, zfr3]) rfl rfl (Nat.le_of_ble_eq_true rfl) (Nat.le_trans (Nat.le_of_ble_eq_true rfl) hr.1) (Nat.le_trans (Nat.le_of_ble_eq_true rfl) hr.2.1) (by omega) (by omega) fun v w1 hB => ?_
  obtain ⟨rfl, w', f', rfl, h0b⟩ := hBL _ _ _ hB
  refine zn_istore F (i := 5) (lv' := [(5, .int k), (4, .int 0), (3, .ref q), (2, .ref h0), (1, .ref (ad1 (0, 0, 0))), (0, .ref b0)]) dL_law_365 (by decide) rfl ?_
  refine zn_aload_n F (i := 2) (k := 3) dL_law_367 rfl rfl ?_
  refine zn_aload_n F (i := 0) (k := 5) dL_law_368 rfl rfl ?_
  refine zn_iload F (i := 4) (k := 1) dL_law_369 rfl ?_
  refine zn_iconst F (v := 1) dL_law_371 (by decide) ?_
  refine zn_iaddv F (v := 1) dL_law_372 (by decide) ?_
  refine zn_sld F hX (jn := 1) dL_law_373 (zvi (by decide)) (by decide) ?_
  refine zn_aload_n F (i := 0) (k := 5) dL_law_374 rfl rfl ?_
  refine zn_iload F (i := 4) (k := 1) dL_law_375 rfl ?_
  refine zn_iconst F (v := 2) dL_law_377 (by decide) ?_
  refine zn_iaddv F (v := 2) dL_law_378 (by decide) ?_
  refine zn_sld F hX (jn := 2) dL_law_379 (zvi (by decide)) (by decide) ?_
  refine zn_perm List.perm_append_comm ?_
  refine zn_callV F (as := [.int (xs 1), .int (xs 2)]) (st := []) (j0 := 0) hR dL_law_380 ycRL_110 yzyX11_nominate rfl (wsB := w' ++ [(q, .inl (zcA X 5, 1, .inr (.inl f')))]) rfl (ci := 10) rfl rfl rfl (Nat.le_of_ble_eq_true rfl) (by omega) (by omega) (by omega) (by omega) fun v w2 hB2 => ?_
  obtain ⟨rfl, s, tl, rfl⟩ := hBR _ _ _ hB2
  refine zn_istore F (i := 6) (lv' := [(6, .int b), (5, .int k), (4, .int 0), (3, .ref q), (2, .ref h0), (1, .ref (ad1 (0, 0, 0))), (0, .ref b0)]) dL_law_383 (by decide) rfl ?_
  refine zn_aload_n F (i := 2) (k := 4) dL_law_385 rfl rfl ?_
  refine zn_callV F (as := []) (st := []) (j0 := 0) (zrM_thrown h0 k s) dL_law_386 ycRL_96 yzyX11_thrown rfl (wsB := tl ++ (w' ++ [(q, .inl (zcA X 5, 1, .inr (.inl f')))])) rfl (ci := 10) rfl rfl rfl (Nat.le_of_ble_eq_true rfl) (by omega) (by omega) (by omega) (by omega) fun v w3 hB3 => ?_
  obtain ⟨rfl, rfl⟩ := hB3
  refine zn_iload F (i := 5) (k := 1) dL_law_389 rfl ?_
  refine zn_icmp_eq F (tgt := 396) dL_law_391 (by decide) (fun _ => ?_) (fun z => absurd rfl z)
  refine zn_iload F (i := 5) (k := 1) dL_law_396 rfl ?_
  have kj : ∀ (wz : va_W), zN X mc ms fr lo B 9 413 [(6, .int b), (5, .int k), (4, .int 0), (3, .ref q), (2, .ref h0), (1, .ref (ad1 (0, 0, 0))), (0, .ref b0)] [] wz (200 + mcc + mcr + 0) (2000 + msc + msr + 0) := fun wz => zn_goto F (tgt := 1730) dL_law_413 (by decide) (zn_pick [2, 6] rfl (zn_sub [] (ws' := []) rfl rfl (zn_wid (by omega) (by omega) T)))
  refine zn_if_ne F (tgt := 413) dL_law_398 (by decide) (fun _ => kj _) (fun hk => ?_)
  refine zn_ws (ws' := ([(h0, .inr (10, [.int k, .ref s]))] ++ (tl ++ w')) ++ [(q, .inl (zcA X 5, 1, .inr (.inl f')))]) (by simp only [List.append_assoc, List.cons_append, List.nil_append]) ?_
  refine zn_aload_n F (i := 3) (k := 3) dL_law_401 rfl rfl ?_
  refine zn_iconst F (v := 0) dL_law_402 (by decide) ?_
  refine zn_laldE F dL_law_403 (by decide) rfl (zvi (by decide)) (jn := 0) (by decide) (h0b hk) ?_
  refine zn_iload F (i := 6) (k := 0) dL_law_404 rfl ?_
  refine zn_i2l F dL_law_406 ?_
  refine zn_lcmp F dL_law_407 ?_
  exact zn_if_eq F (tgt := 413) dL_law_408 (by decide) (fun _ => kj _) (fun z => absurd ((lg_cmp_eq _ _).mpr rfl) z)

set_option maxHeartbeats 4000000 in
set_option maxRecDepth 20000 in
theorem zlc_blow {X : zX} (F : zLr X cL_law 9 RL) {b0 q h0 mc ms fr lo : Nat} {xs : Nat → Int32} {B : State → Prop} (f : Nat → Int64) (ad1 : zR → Nat) (l : List Nat) (hX : zScr X b0 7 xs) (hr : 12 ≤ fr ∧ 440 ≤ lo ∧ 1000 ≤ mc ∧ 5000 ≤ ms) (T : zN X mc ms fr lo B 9 1730 [(4, .int 0), (0, .ref b0)] [] [] 1000 5000) : zN X mc ms fr lo B 9 416 [(4, .int 0), (3, .ref q), (2, .ref h0), (1, .ref (ad1 (0, 0, 0))), (0, .ref b0)] [] (zwl (zcA X) ad1 [(2, [1, 2, 3]), (0, []), (0, []), (1, [])] [zm0, zfr0, zfr0, zm0] ++ [(q, .inl (zcA X 5, 1, .inr (.inl f)))] ++ zwl (zcA X) (zadM h0 l) [(4, [1]), (3, [])] [zm0, zfr3]) 200 2000 := by
  obtain ⟨k, b, mcc, msc, BL, fb, lb, mcr, msr, BR, ⟨n1, n2, n3, n4, n5, n6⟩, hL, hBL, hR, hBR⟩ := zag_blow ((xs 1)) ((xs 2)) ((xs 3)) ((xs 4)) ((xs 5)) ((xs 6)) q f ad1 h0 l
  refine zn_aload_n F (i := 1) (k := 3) dL_law_416 rfl rfl ?_
  refine zn_aload_n F (i := 0) (k := 4) dL_law_417 rfl rfl ?_
  refine zn_iload F (i := 4) (k := 0) dL_law_418 rfl ?_
  refine zn_iconst F (v := 1) dL_law_420 (by decide) ?_
  refine zn_iaddv F (v := 1) dL_law_421 (by decide) ?_
  refine zn_sld F hX (jn := 1) dL_law_422 (zvi (by decide)) (by decide) ?_
  refine zn_aload_n F (i := 0) (k := 4) dL_law_423 rfl rfl ?_
  refine zn_iload F (i := 4) (k := 0) dL_law_424 rfl ?_
  refine zn_iconst F (v := 2) dL_law_426 (by decide) ?_
  refine zn_iaddv F (v := 2) dL_law_427 (by decide) ?_
  refine zn_sld F hX (jn := 2) dL_law_428 (zvi (by decide)) (by decide) ?_
  refine zn_aload_n F (i := 0) (k := 4) dL_law_429 rfl rfl ?_
  refine zn_iload F (i := 4) (k := 0) dL_law_430 rfl ?_
  refine zn_iconst F (v := 3) dL_law_432 (by decide) ?_
  refine zn_iaddv F (v := 3) dL_law_433 (by decide) ?_
  refine zn_sld F hX (jn := 3) dL_law_434 (zvi (by decide)) (by decide) ?_
  refine zn_aload_n F (i := 0) (k := 4) dL_law_435 rfl rfl ?_
  refine zn_iload F (i := 4) (k := 0) dL_law_436 rfl ?_
  refine zn_iconst F (v := 4) dL_law_438 (by decide) ?_
  refine zn_iaddv F (v := 4) dL_law_439 (by decide) ?_
  refine zn_sld F hX (jn := 4) dL_law_440 (zvi (by decide)) (by decide) ?_
  refine zn_aload_n F (i := 0) (k := 4) dL_law_441 rfl rfl ?_
  refine zn_iload F (i := 4) (k := 0) dL_law_442 rfl ?_
  refine zn_iconst F (v := 5) dL_law_444 (by decide) ?_
  refine zn_iaddv F (v := 5) dL_law_445 (by decide) ?_
  refine zn_sld F hX (jn := 5) dL_law_446 (zvi (by decide)) (by decide) ?_
  refine zn_aload_n F (i := 0) (k := 4) dL_law_447 rfl rfl ?_
  refine zn_iload F (i := 4) (k := 0) dL_law_448 rfl ?_
  refine zn_bipush F (v := 6) dL_law_450 (by decide) ?_
  refine zn_iaddv F (v := 6) dL_law_452 (by decide) ?_
  refine zn_sld F hX (jn := 6) dL_law_453 (zvi (by decide)) (by decide) ?_
  refine zn_aload_n F (i := 3) (k := 1) dL_law_454 rfl rfl ?_
  refine zn_callW F (as := .ref (ad1 (0, 0, 0)) :: ([.int (xs 1), .int (xs 2), .int (xs 3), .int (xs 4), .int (xs 5), .int (xs 6)] ++ [.ref q])) (st := []) hL dL_law_455 ycRL_111 yyyL_blow rfl (wsB := zwl (zcA X) (zadM h0 l) [(4, [1]), (3, [])] [zm0, zfr3]) rfl rfl (Nat.le_of_ble_eq_true rfl) (Nat.le_trans (Nat.le_of_ble_eq_true rfl) hr.1) (Nat.le_trans (Nat.le_of_ble_eq_true rfl) hr.2.1) (by omega) (by omega) fun v w1 hB => ?_
  obtain ⟨rfl, w', f', rfl, h0b⟩ := hBL _ _ _ hB
  refine zn_istore F (i := 5) (lv' := [(5, .int k), (4, .int 0), (3, .ref q), (2, .ref h0), (1, .ref (ad1 (0, 0, 0))), (0, .ref b0)]) dL_law_458 (by decide) rfl ?_
  refine zn_aload_n F (i := 2) (k := 3) dL_law_460 rfl rfl ?_
  refine zn_aload_n F (i := 0) (k := 5) dL_law_461 rfl rfl ?_
  refine zn_iload F (i := 4) (k := 1) dL_law_462 rfl ?_
  refine zn_iconst F (v := 1) dL_law_464 (by decide) ?_
  refine zn_iaddv F (v := 1) dL_law_465 (by decide) ?_
  refine zn_sld F hX (jn := 1) dL_law_466 (zvi (by decide)) (by decide) ?_
  refine zn_aload_n F (i := 0) (k := 5) dL_law_467 rfl rfl ?_
  refine zn_iload F (i := 4) (k := 1) dL_law_468 rfl ?_
  refine zn_iconst F (v := 2) dL_law_470 (by decide) ?_
  refine zn_iaddv F (v := 2) dL_law_471 (by decide) ?_
  refine zn_sld F hX (jn := 2) dL_law_472 (zvi (by decide)) (by decide) ?_
  refine zn_aload_n F (i := 0) (k := 5) dL_law_473 rfl rfl ?_
  refine zn_iload F (i := 4) (k := 1) dL_law_474 rfl ?_
  refine zn_iconst F (v := 3) dL_law_476 (by decide) ?_
  refine zn_iaddv F (v := 3) dL_law_477 (by decide) ?_
  refine zn_sld F hX (jn := 3) dL_law_478 (zvi (by decide)) (by decide) ?_
  refine zn_aload_n F (i := 0) (k := 5) dL_law_479 rfl rfl ?_
  refine zn_iload F (i := 4) (k := 1) dL_law_480 rfl ?_
  refine zn_iconst F (v := 4) dL_law_482 (by decide) ?_
  refine zn_iaddv F (v := 4) dL_law_483 (by decide) ?_
  refine zn_sld F hX (jn := 4) dL_law_484 (zvi (by decide)) (by decide) ?_
  refine zn_aload_n F (i := 0) (k := 5) dL_law_485 rfl rfl ?_
  refine zn_iload F (i := 4) (k := 1) dL_law_486 rfl ?_
  refine zn_iconst F (v := 5) dL_law_488 (by decide) ?_
  refine zn_iaddv F (v := 5) dL_law_489 (by decide) ?_
  refine zn_sld F hX (jn := 5) dL_law_490 (zvi (by decide)) (by decide) ?_
  refine zn_aload_n F (i := 0) (k := 5) dL_law_491 rfl rfl ?_
  refine zn_iload F (i := 4) (k := 1) dL_law_492 rfl ?_
  refine zn_bipush F (v := 6) dL_law_494 (by decide) ?_
  refine zn_iaddv F (v := 6) dL_law_496 (by decide) ?_
  refine zn_sld F hX (jn := 6) dL_law_497 (zvi (by decide)) (by decide) ?_
  refine zn_perm List.perm_append_comm ?_
  refine zn_callV F (as := [.int (xs 1), .int (xs 2), .int (xs 3), .int (xs 4), .int (xs 5), .int (xs 6)]) (st := []) (j0 := 0) hR dL_law_498 ycRL_114 yzyX11_blow rfl (wsB := w' ++ [(q, .inl (zcA X 5, 1, .inr (.inl f')))]) rfl (ci := 10) rfl rfl rfl (Nat.le_of_ble_eq_true rfl) (by omega) (by omega) (by omega) (by omega) fun v w2 hB2 => ?_
  obtain ⟨rfl, s, tl, rfl⟩ := hBR _ _ _ hB2
  refine zn_istore F (i := 6) (lv' := [(6, .int b), (5, .int k), (4, .int 0), (3, .ref q), (2, .ref h0), (1, .ref (ad1 (0, 0, 0))), (0, .ref b0)]) dL_law_501 (by decide) rfl ?_
  refine zn_aload_n F (i := 2) (k := 4) dL_law_503 rfl rfl ?_
  refine zn_callV F (as := []) (st := []) (j0 := 0) (zrM_thrown h0 k s) dL_law_504 ycRL_96 yzyX11_thrown rfl (wsB := tl ++ (w' ++ [(q, .inl (zcA X 5, 1, .inr (.inl f')))])) rfl (ci := 10) rfl rfl rfl (Nat.le_of_ble_eq_true rfl) (by omega) (by omega) (by omega) (by omega) fun v w3 hB3 => ?_
  obtain ⟨rfl, rfl⟩ := hB3
  refine zn_iload F (i := 5) (k := 1) dL_law_507 rfl ?_
  refine zn_icmp_eq F (tgt := 514) dL_law_509 (by decide) (fun _ => ?_) (fun z => absurd rfl z)
  refine zn_iload F (i := 5) (k := 1) dL_law_514 rfl ?_
  have kj : ∀ (wz : va_W), zN X mc ms fr lo B 9 531 [(6, .int b), (5, .int k), (4, .int 0), (3, .ref q), (2, .ref h0), (1, .ref (ad1 (0, 0, 0))), (0, .ref b0)] [] wz (200 + mcc + mcr + 0) (2000 + msc + msr + 0) := fun wz => zn_goto F (tgt := 1730) dL_law_531 (by decide) (zn_pick [2, 6] rfl (zn_sub [] (ws' := []) rfl rfl (zn_wid (by omega) (by omega) T)))
  refine zn_if_ne F (tgt := 531) dL_law_516 (by decide) (fun _ => kj _) (fun hk => ?_)
  refine zn_ws (ws' := ([(h0, .inr (10, [.int k, .ref s]))] ++ (tl ++ w')) ++ [(q, .inl (zcA X 5, 1, .inr (.inl f')))]) (by simp only [List.append_assoc, List.cons_append, List.nil_append]) ?_
  refine zn_aload_n F (i := 3) (k := 3) dL_law_519 rfl rfl ?_
  refine zn_iconst F (v := 0) dL_law_520 (by decide) ?_
  refine zn_laldE F dL_law_521 (by decide) rfl (zvi (by decide)) (jn := 0) (by decide) (h0b hk) ?_
  refine zn_iload F (i := 6) (k := 0) dL_law_522 rfl ?_
  refine zn_i2l F dL_law_524 ?_
  refine zn_lcmp F dL_law_525 ?_
  exact zn_if_eq F (tgt := 531) dL_law_526 (by decide) (fun _ => kj _) (fun z => absurd ((lg_cmp_eq _ _).mpr rfl) z)

set_option maxHeartbeats 4000000 in
set_option maxRecDepth 20000 in
theorem zlc_turn {X : zX} (F : zLr X cL_law 9 RL) {b0 q h0 mc ms fr lo : Nat} {xs : Nat → Int32} {B : State → Prop} (f : Nat → Int64) (ad1 : zR → Nat) (l : List Nat) (hX : zScr X b0 7 xs) (hr : 12 ≤ fr ∧ 440 ≤ lo ∧ 1000 ≤ mc ∧ 5000 ≤ ms) (T : zN X mc ms fr lo B 9 1730 [(4, .int 0), (0, .ref b0)] [] [] 1000 5000) : zN X mc ms fr lo B 9 534 [(4, .int 0), (3, .ref q), (2, .ref h0), (1, .ref (ad1 (0, 0, 0))), (0, .ref b0)] [] (zwl (zcA X) ad1 [(2, [1, 2, 3]), (0, []), (0, []), (1, [])] [zm0, zfr0, zfr0, zm0] ++ [(q, .inl (zcA X 5, 1, .inr (.inl f)))] ++ zwl (zcA X) (zadM h0 l) [(4, [1]), (3, [])] [zm0, zfr3]) 200 2000 := by
  obtain ⟨k, b, mcc, msc, BL, fb, lb, mcr, msr, BR, ⟨n1, n2, n3, n4, n5, n6⟩, hL, hBL, hR, hBR⟩ := zag_turn ((xs 1)) ((xs 2)) q f ad1 h0 l
  refine zn_aload_n F (i := 1) (k := 3) dL_law_534 rfl rfl ?_
  refine zn_aload_n F (i := 0) (k := 4) dL_law_535 rfl rfl ?_
  refine zn_iload F (i := 4) (k := 0) dL_law_536 rfl ?_
  refine zn_iconst F (v := 1) dL_law_538 (by decide) ?_
  refine zn_iaddv F (v := 1) dL_law_539 (by decide) ?_
  refine zn_sld F hX (jn := 1) dL_law_540 (zvi (by decide)) (by decide) ?_
  refine zn_aload_n F (i := 0) (k := 4) dL_law_541 rfl rfl ?_
  refine zn_iload F (i := 4) (k := 0) dL_law_542 rfl ?_
  refine zn_iconst F (v := 2) dL_law_544 (by decide) ?_
  refine zn_iaddv F (v := 2) dL_law_545 (by decide) ?_
  refine zn_sld F hX (jn := 2) dL_law_546 (zvi (by decide)) (by decide) ?_
  refine zn_aload_n F (i := 3) (k := 1) dL_law_547 rfl rfl ?_
  refine zn_callW F (as := .ref (ad1 (0, 0, 0)) :: ([.int (xs 1), .int (xs 2)] ++ [.ref q])) (st := []) hL dL_law_548 ycRL_115 yyyL_turn rfl (wsB := zwl (zcA X) (zadM h0 l) [(4, [1]), (3, [])] [zm0, zfr3]) rfl rfl (Nat.le_of_ble_eq_true rfl) (Nat.le_trans (Nat.le_of_ble_eq_true rfl) hr.1) (Nat.le_trans (Nat.le_of_ble_eq_true rfl) hr.2.1) (by omega) (by omega) fun v w1 hB => ?_
  obtain ⟨rfl, w', f', rfl, h0b⟩ := hBL _ _ _ hB
  refine zn_istore F (i := 5) (lv' := [(5, .int k), (4, .int 0), (3, .ref q), (2, .ref h0), (1, .ref (ad1 (0, 0, 0))), (0, .ref b0)]) dL_law_551 (by decide) rfl ?_
  refine zn_aload_n F (i := 2) (k := 3) dL_law_553 rfl rfl ?_
  refine zn_aload_n F (i := 0) (k := 5) dL_law_554 rfl rfl ?_
  refine zn_iload F (i := 4) (k := 1) dL_law_555 rfl ?_
  refine zn_iconst F (v := 1) dL_law_557 (by decide) ?_
  refine zn_iaddv F (v := 1) dL_law_558 (by decide) ?_
  refine zn_sld F hX (jn := 1) dL_law_559 (zvi (by decide)) (by decide) ?_
  refine zn_aload_n F (i := 0) (k := 5) dL_law_560 rfl rfl ?_
  refine zn_iload F (i := 4) (k := 1) dL_law_561 rfl ?_
  refine zn_iconst F (v := 2) dL_law_563 (by decide) ?_
  refine zn_iaddv F (v := 2) dL_law_564 (by decide) ?_
  refine zn_sld F hX (jn := 2) dL_law_565 (zvi (by decide)) (by decide) ?_
  refine zn_perm List.perm_append_comm ?_
  refine zn_callV F (as := [.int (xs 1), .int (xs 2)]) (st := []) (j0 := 0) hR dL_law_566 ycRL_117 yzyX11_turn rfl (wsB := w' ++ [(q, .inl (zcA X 5, 1, .inr (.inl f')))]) rfl (ci := 10) rfl rfl rfl (Nat.le_of_ble_eq_true rfl) (by omega) (by omega) (by omega) (by omega) fun v w2 hB2 => ?_
  obtain ⟨rfl, s, tl, rfl⟩ := hBR _ _ _ hB2
  refine zn_istore F (i := 6) (lv' := [(6, .int b), (5, .int k), (4, .int 0), (3, .ref q), (2, .ref h0), (1, .ref (ad1 (0, 0, 0))), (0, .ref b0)]) dL_law_569 (by decide) rfl ?_
  refine zn_aload_n F (i := 2) (k := 4) dL_law_571 rfl rfl ?_
  refine zn_callV F (as := []) (st := []) (j0 := 0) (zrM_thrown h0 k s) dL_law_572 ycRL_96 yzyX11_thrown rfl (wsB := tl ++ (w' ++ [(q, .inl (zcA X 5, 1, .inr (.inl f')))])) rfl (ci := 10) rfl rfl rfl (Nat.le_of_ble_eq_true rfl) (by omega) (by omega) (by omega) (by omega) fun v w3 hB3 => ?_
  obtain ⟨rfl, rfl⟩ := hB3
  refine zn_iload F (i := 5) (k := 1) dL_law_575 rfl ?_
  refine zn_icmp_eq F (tgt := 582) dL_law_577 (by decide) (fun _ => ?_) (fun z => absurd rfl z)
  refine zn_iload F (i := 5) (k := 1) dL_law_582 rfl ?_
  have kj : ∀ (wz : va_W), zN X mc ms fr lo B 9 599 [(6, .int b), (5, .int k), (4, .int 0), (3, .ref q), (2, .ref h0), (1, .ref (ad1 (0, 0, 0))), (0, .ref b0)] [] wz (200 + mcc + mcr + 0) (2000 + msc + msr + 0) := fun wz => zn_goto F (tgt := 1730) dL_law_599 (by decide) (zn_pick [2, 6] rfl (zn_sub [] (ws' := []) rfl rfl (zn_wid (by omega) (by omega) T)))
  refine zn_if_ne F (tgt := 599) dL_law_584 (by decide) (fun _ => kj _) (fun hk => ?_)
  refine zn_ws (ws' := ([(h0, .inr (10, [.int k, .ref s]))] ++ (tl ++ w')) ++ [(q, .inl (zcA X 5, 1, .inr (.inl f')))]) (by simp only [List.append_assoc, List.cons_append, List.nil_append]) ?_
  refine zn_aload_n F (i := 3) (k := 3) dL_law_587 rfl rfl ?_
  refine zn_iconst F (v := 0) dL_law_588 (by decide) ?_
  refine zn_laldE F dL_law_589 (by decide) rfl (zvi (by decide)) (jn := 0) (by decide) (h0b hk) ?_
  refine zn_iload F (i := 6) (k := 0) dL_law_590 rfl ?_
  refine zn_i2l F dL_law_592 ?_
  refine zn_lcmp F dL_law_593 ?_
  exact zn_if_eq F (tgt := 599) dL_law_594 (by decide) (fun _ => kj _) (fun z => absurd ((lg_cmp_eq _ _).mpr rfl) z)

set_option maxHeartbeats 4000000 in
set_option maxRecDepth 20000 in
theorem zlc_call {X : zX} (F : zLr X cL_law 9 RL) {b0 q h0 mc ms fr lo : Nat} {xs : Nat → Int32} {B : State → Prop} (f : Nat → Int64) (ad1 : zR → Nat) (l : List Nat) (hX : zScr X b0 7 xs) (hr : 12 ≤ fr ∧ 440 ≤ lo ∧ 1000 ≤ mc ∧ 5000 ≤ ms) (T : zN X mc ms fr lo B 9 1730 [(4, .int 0), (0, .ref b0)] [] [] 1000 5000) : zN X mc ms fr lo B 9 602 [(4, .int 0), (3, .ref q), (2, .ref h0), (1, .ref (ad1 (0, 0, 0))), (0, .ref b0)] [] (zwl (zcA X) ad1 [(2, [1, 2, 3]), (0, []), (0, []), (1, [])] [zm0, zfr0, zfr0, zm0] ++ [(q, .inl (zcA X 5, 1, .inr (.inl f)))] ++ zwl (zcA X) (zadM h0 l) [(4, [1]), (3, [])] [zm0, zfr3]) 200 2000 := by
  obtain ⟨k, b, mcc, msc, BL, fb, lb, mcr, msr, BR, ⟨n1, n2, n3, n4, n5, n6⟩, hL, hBL, hR, hBR⟩ := zag_call ((xs 1)) ((zbl (xs 2))) q f ad1 h0 l
  refine zn_aload_n F (i := 1) (k := 3) dL_law_602 rfl rfl ?_
  refine zn_aload_n F (i := 0) (k := 4) dL_law_603 rfl rfl ?_
  refine zn_iload F (i := 4) (k := 0) dL_law_604 rfl ?_
  refine zn_iconst F (v := 1) dL_law_606 (by decide) ?_
  refine zn_iaddv F (v := 1) dL_law_607 (by decide) ?_
  refine zn_sld F hX (jn := 1) dL_law_608 (zvi (by decide)) (by decide) ?_
  refine zn_aload_n F (i := 0) (k := 4) dL_law_609 rfl rfl ?_
  refine zn_iload F (i := 4) (k := 0) dL_law_610 rfl ?_
  refine zn_iconst F (v := 2) dL_law_612 (by decide) ?_
  refine zn_iaddv F (v := 2) dL_law_613 (by decide) ?_
  refine zn_sld F hX (jn := 2) dL_law_614 (zvi (by decide)) (by decide) ?_
  refine zn_bool F dL_law_615 dL_law_618 dL_law_619 dL_law_622 ⟨rfl, rfl, rfl, rfl⟩ ?_
  refine zn_aload_n F (i := 3) (k := 1) dL_law_623 rfl rfl ?_
  refine zn_callW F (as := .ref (ad1 (0, 0, 0)) :: ([.int (xs 1), .int (zbl (xs 2))] ++ [.ref q])) (st := []) hL dL_law_624 ycRL_118 yyyL_call rfl (wsB := zwl (zcA X) (zadM h0 l) [(4, [1]), (3, [])] [zm0, zfr3]) rfl rfl (Nat.le_of_ble_eq_true rfl) (Nat.le_trans (Nat.le_of_ble_eq_true rfl) hr.1) (Nat.le_trans (Nat.le_of_ble_eq_true rfl) hr.2.1) (by omega) (by omega) fun v w1 hB => ?_
  obtain ⟨rfl, w', f', rfl, h0b⟩ := hBL _ _ _ hB
  refine zn_istore F (i := 5) (lv' := [(5, .int k), (4, .int 0), (3, .ref q), (2, .ref h0), (1, .ref (ad1 (0, 0, 0))), (0, .ref b0)]) dL_law_627 (by decide) rfl ?_
  refine zn_aload_n F (i := 2) (k := 3) dL_law_629 rfl rfl ?_
  refine zn_aload_n F (i := 0) (k := 5) dL_law_630 rfl rfl ?_
  refine zn_iload F (i := 4) (k := 1) dL_law_631 rfl ?_
  refine zn_iconst F (v := 1) dL_law_633 (by decide) ?_
  refine zn_iaddv F (v := 1) dL_law_634 (by decide) ?_
  refine zn_sld F hX (jn := 1) dL_law_635 (zvi (by decide)) (by decide) ?_
  refine zn_aload_n F (i := 0) (k := 5) dL_law_636 rfl rfl ?_
  refine zn_iload F (i := 4) (k := 1) dL_law_637 rfl ?_
  refine zn_iconst F (v := 2) dL_law_639 (by decide) ?_
  refine zn_iaddv F (v := 2) dL_law_640 (by decide) ?_
  refine zn_sld F hX (jn := 2) dL_law_641 (zvi (by decide)) (by decide) ?_
  refine zn_bool F dL_law_642 dL_law_645 dL_law_646 dL_law_649 ⟨rfl, rfl, rfl, rfl⟩ ?_
  refine zn_perm List.perm_append_comm ?_
  refine zn_callV F (as := [.int (xs 1), .int (zbl (xs 2))]) (st := []) (j0 := 0) hR dL_law_650 ycRL_121 yzyX11_call rfl (wsB := w' ++ [(q, .inl (zcA X 5, 1, .inr (.inl f')))]) rfl (ci := 10) rfl rfl rfl (Nat.le_of_ble_eq_true rfl) (by omega) (by omega) (by omega) (by omega) fun v w2 hB2 => ?_
  obtain ⟨rfl, s, tl, rfl⟩ := hBR _ _ _ hB2
  refine zn_istore F (i := 6) (lv' := [(6, .int b), (5, .int k), (4, .int 0), (3, .ref q), (2, .ref h0), (1, .ref (ad1 (0, 0, 0))), (0, .ref b0)]) dL_law_653 (by decide) rfl ?_
  refine zn_aload_n F (i := 2) (k := 4) dL_law_655 rfl rfl ?_
  refine zn_callV F (as := []) (st := []) (j0 := 0) (zrM_thrown h0 k s) dL_law_656 ycRL_96 yzyX11_thrown rfl (wsB := tl ++ (w' ++ [(q, .inl (zcA X 5, 1, .inr (.inl f')))])) rfl (ci := 10) rfl rfl rfl (Nat.le_of_ble_eq_true rfl) (by omega) (by omega) (by omega) (by omega) fun v w3 hB3 => ?_
  obtain ⟨rfl, rfl⟩ := hB3
  refine zn_iload F (i := 5) (k := 1) dL_law_659 rfl ?_
  refine zn_icmp_eq F (tgt := 666) dL_law_661 (by decide) (fun _ => ?_) (fun z => absurd rfl z)
  refine zn_iload F (i := 5) (k := 1) dL_law_666 rfl ?_
  have kj : ∀ (wz : va_W), zN X mc ms fr lo B 9 683 [(6, .int b), (5, .int k), (4, .int 0), (3, .ref q), (2, .ref h0), (1, .ref (ad1 (0, 0, 0))), (0, .ref b0)] [] wz (200 + mcc + mcr + 0) (2000 + msc + msr + 0) := fun wz => zn_goto F (tgt := 1730) dL_law_683 (by decide) (zn_pick [2, 6] rfl (zn_sub [] (ws' := []) rfl rfl (zn_wid (by omega) (by omega) T)))
  refine zn_if_ne F (tgt := 683) dL_law_668 (by decide) (fun _ => kj _) (fun hk => ?_)
  refine zn_ws (ws' := ([(h0, .inr (10, [.int k, .ref s]))] ++ (tl ++ w')) ++ [(q, .inl (zcA X 5, 1, .inr (.inl f')))]) (by simp only [List.append_assoc, List.cons_append, List.nil_append]) ?_
  refine zn_aload_n F (i := 3) (k := 3) dL_law_671 rfl rfl ?_
  refine zn_iconst F (v := 0) dL_law_672 (by decide) ?_
  refine zn_laldE F dL_law_673 (by decide) rfl (zvi (by decide)) (jn := 0) (by decide) (h0b hk) ?_
  refine zn_iload F (i := 6) (k := 0) dL_law_674 rfl ?_
  refine zn_i2l F dL_law_676 ?_
  refine zn_lcmp F dL_law_677 ?_
  exact zn_if_eq F (tgt := 683) dL_law_678 (by decide) (fun _ => kj _) (fun z => absurd ((lg_cmp_eq _ _).mpr rfl) z)

set_option maxHeartbeats 4000000 in
set_option maxRecDepth 20000 in
theorem zlc_floor {X : zX} (F : zLr X cL_law 9 RL) {b0 q h0 mc ms fr lo : Nat} {xs : Nat → Int32} {B : State → Prop} (f : Nat → Int64) (ad1 : zR → Nat) (l : List Nat) (hX : zScr X b0 7 xs) (hr : 12 ≤ fr ∧ 440 ≤ lo ∧ 1000 ≤ mc ∧ 5000 ≤ ms) (T : zN X mc ms fr lo B 9 1730 [(4, .int 0), (0, .ref b0)] [] [] 1000 5000) : zN X mc ms fr lo B 9 686 [(4, .int 0), (3, .ref q), (2, .ref h0), (1, .ref (ad1 (0, 0, 0))), (0, .ref b0)] [] (zwl (zcA X) ad1 [(2, [1, 2, 3]), (0, []), (0, []), (1, [])] [zm0, zfr0, zfr0, zm0] ++ [(q, .inl (zcA X 5, 1, .inr (.inl f)))] ++ zwl (zcA X) (zadM h0 l) [(4, [1]), (3, [])] [zm0, zfr3]) 200 2000 := by
  obtain ⟨k, b, mcc, msc, BL, fb, lb, mcr, msr, BR, ⟨n1, n2, n3, n4, n5, n6⟩, hL, hBL, hR, hBR⟩ := zag_floor ((xs 1)) q f ad1 h0 l
  refine zn_aload_n F (i := 1) (k := 3) dL_law_686 rfl rfl ?_
  refine zn_aload_n F (i := 0) (k := 4) dL_law_687 rfl rfl ?_
  refine zn_iload F (i := 4) (k := 0) dL_law_688 rfl ?_
  refine zn_iconst F (v := 1) dL_law_690 (by decide) ?_
  refine zn_iaddv F (v := 1) dL_law_691 (by decide) ?_
  refine zn_sld F hX (jn := 1) dL_law_692 (zvi (by decide)) (by decide) ?_
  refine zn_aload_n F (i := 3) (k := 1) dL_law_693 rfl rfl ?_
  refine zn_callW F (as := .ref (ad1 (0, 0, 0)) :: ([.int (xs 1)] ++ [.ref q])) (st := []) hL dL_law_694 ycRL_122 yyyL_floor rfl (wsB := zwl (zcA X) (zadM h0 l) [(4, [1]), (3, [])] [zm0, zfr3]) rfl rfl (Nat.le_of_ble_eq_true rfl) (Nat.le_trans (Nat.le_of_ble_eq_true rfl) hr.1) (Nat.le_trans (Nat.le_of_ble_eq_true rfl) hr.2.1) (by omega) (by omega) fun v w1 hB => ?_
  obtain ⟨rfl, w', f', rfl, h0b⟩ := hBL _ _ _ hB
  refine zn_istore F (i := 5) (lv' := [(5, .int k), (4, .int 0), (3, .ref q), (2, .ref h0), (1, .ref (ad1 (0, 0, 0))), (0, .ref b0)]) dL_law_697 (by decide) rfl ?_
  refine zn_aload_n F (i := 2) (k := 3) dL_law_699 rfl rfl ?_
  refine zn_aload_n F (i := 0) (k := 5) dL_law_700 rfl rfl ?_
  refine zn_iload F (i := 4) (k := 1) dL_law_701 rfl ?_
  refine zn_iconst F (v := 1) dL_law_703 (by decide) ?_
  refine zn_iaddv F (v := 1) dL_law_704 (by decide) ?_
  refine zn_sld F hX (jn := 1) dL_law_705 (zvi (by decide)) (by decide) ?_
  refine zn_perm List.perm_append_comm ?_
  refine zn_callV F (as := [.int (xs 1)]) (st := []) (j0 := 0) hR dL_law_706 ycRL_124 yzyX11_floor rfl (wsB := w' ++ [(q, .inl (zcA X 5, 1, .inr (.inl f')))]) rfl (ci := 10) rfl rfl rfl (Nat.le_of_ble_eq_true rfl) (by omega) (by omega) (by omega) (by omega) fun v w2 hB2 => ?_
  obtain ⟨rfl, s, tl, rfl⟩ := hBR _ _ _ hB2
  refine zn_istore F (i := 6) (lv' := [(6, .int b), (5, .int k), (4, .int 0), (3, .ref q), (2, .ref h0), (1, .ref (ad1 (0, 0, 0))), (0, .ref b0)]) dL_law_709 (by decide) rfl ?_
  refine zn_aload_n F (i := 2) (k := 4) dL_law_711 rfl rfl ?_
  refine zn_callV F (as := []) (st := []) (j0 := 0) (zrM_thrown h0 k s) dL_law_712 ycRL_96 yzyX11_thrown rfl (wsB := tl ++ (w' ++ [(q, .inl (zcA X 5, 1, .inr (.inl f')))])) rfl (ci := 10) rfl rfl rfl (Nat.le_of_ble_eq_true rfl) (by omega) (by omega) (by omega) (by omega) fun v w3 hB3 => ?_
  obtain ⟨rfl, rfl⟩ := hB3
  refine zn_iload F (i := 5) (k := 1) dL_law_715 rfl ?_
  refine zn_icmp_eq F (tgt := 722) dL_law_717 (by decide) (fun _ => ?_) (fun z => absurd rfl z)
  refine zn_iload F (i := 5) (k := 1) dL_law_722 rfl ?_
  have kj : ∀ (wz : va_W), zN X mc ms fr lo B 9 739 [(6, .int b), (5, .int k), (4, .int 0), (3, .ref q), (2, .ref h0), (1, .ref (ad1 (0, 0, 0))), (0, .ref b0)] [] wz (200 + mcc + mcr + 0) (2000 + msc + msr + 0) := fun wz => zn_goto F (tgt := 1730) dL_law_739 (by decide) (zn_pick [2, 6] rfl (zn_sub [] (ws' := []) rfl rfl (zn_wid (by omega) (by omega) T)))
  refine zn_if_ne F (tgt := 739) dL_law_724 (by decide) (fun _ => kj _) (fun hk => ?_)
  refine zn_ws (ws' := ([(h0, .inr (10, [.int k, .ref s]))] ++ (tl ++ w')) ++ [(q, .inl (zcA X 5, 1, .inr (.inl f')))]) (by simp only [List.append_assoc, List.cons_append, List.nil_append]) ?_
  refine zn_aload_n F (i := 3) (k := 3) dL_law_727 rfl rfl ?_
  refine zn_iconst F (v := 0) dL_law_728 (by decide) ?_
  refine zn_laldE F dL_law_729 (by decide) rfl (zvi (by decide)) (jn := 0) (by decide) (h0b hk) ?_
  refine zn_iload F (i := 6) (k := 0) dL_law_730 rfl ?_
  refine zn_i2l F dL_law_732 ?_
  refine zn_lcmp F dL_law_733 ?_
  exact zn_if_eq F (tgt := 739) dL_law_734 (by decide) (fun _ => kj _) (fun z => absurd ((lg_cmp_eq _ _).mpr rfl) z)

set_option maxHeartbeats 4000000 in
set_option maxRecDepth 20000 in
theorem zlc_sail {X : zX} (F : zLr X cL_law 9 RL) {b0 q h0 mc ms fr lo : Nat} {xs : Nat → Int32} {B : State → Prop} (f : Nat → Int64) (ad1 : zR → Nat) (l : List Nat) (hX : zScr X b0 7 xs) (hr : 12 ≤ fr ∧ 440 ≤ lo ∧ 1000 ≤ mc ∧ 5000 ≤ ms) (T : zN X mc ms fr lo B 9 1730 [(4, .int 0), (0, .ref b0)] [] [] 1000 5000) : zN X mc ms fr lo B 9 742 [(4, .int 0), (3, .ref q), (2, .ref h0), (1, .ref (ad1 (0, 0, 0))), (0, .ref b0)] [] (zwl (zcA X) ad1 [(2, [1, 2, 3]), (0, []), (0, []), (1, [])] [zm0, zfr0, zfr0, zm0] ++ [(q, .inl (zcA X 5, 1, .inr (.inl f)))] ++ zwl (zcA X) (zadM h0 l) [(4, [1]), (3, [])] [zm0, zfr3]) 200 2000 := by
  obtain ⟨k, b, mcc, msc, BL, fb, lb, mcr, msr, BR, ⟨n1, n2, n3, n4, n5, n6⟩, hL, hBL, hR, hBR⟩ := zag_sail ((xs 1)) ((xs 2)) q f ad1 h0 l
  refine zn_aload_n F (i := 1) (k := 3) dL_law_742 rfl rfl ?_
  refine zn_aload_n F (i := 0) (k := 4) dL_law_743 rfl rfl ?_
  refine zn_iload F (i := 4) (k := 0) dL_law_744 rfl ?_
  refine zn_iconst F (v := 1) dL_law_746 (by decide) ?_
  refine zn_iaddv F (v := 1) dL_law_747 (by decide) ?_
  refine zn_sld F hX (jn := 1) dL_law_748 (zvi (by decide)) (by decide) ?_
  refine zn_aload_n F (i := 0) (k := 4) dL_law_749 rfl rfl ?_
  refine zn_iload F (i := 4) (k := 0) dL_law_750 rfl ?_
  refine zn_iconst F (v := 2) dL_law_752 (by decide) ?_
  refine zn_iaddv F (v := 2) dL_law_753 (by decide) ?_
  refine zn_sld F hX (jn := 2) dL_law_754 (zvi (by decide)) (by decide) ?_
  refine zn_aload_n F (i := 3) (k := 1) dL_law_755 rfl rfl ?_
  refine zn_callW F (as := .ref (ad1 (0, 0, 0)) :: ([.int (xs 1), .int (xs 2)] ++ [.ref q])) (st := []) hL dL_law_756 ycRL_125 yyyL_sail rfl (wsB := zwl (zcA X) (zadM h0 l) [(4, [1]), (3, [])] [zm0, zfr3]) rfl rfl (Nat.le_of_ble_eq_true rfl) (Nat.le_trans (Nat.le_of_ble_eq_true rfl) hr.1) (Nat.le_trans (Nat.le_of_ble_eq_true rfl) hr.2.1) (by omega) (by omega) fun v w1 hB => ?_
  obtain ⟨rfl, w', f', rfl, h0b⟩ := hBL _ _ _ hB
  refine zn_istore F (i := 5) (lv' := [(5, .int k), (4, .int 0), (3, .ref q), (2, .ref h0), (1, .ref (ad1 (0, 0, 0))), (0, .ref b0)]) dL_law_759 (by decide) rfl ?_
  refine zn_aload_n F (i := 2) (k := 3) dL_law_761 rfl rfl ?_
  refine zn_aload_n F (i := 0) (k := 5) dL_law_762 rfl rfl ?_
  refine zn_iload F (i := 4) (k := 1) dL_law_763 rfl ?_
  refine zn_iconst F (v := 1) dL_law_765 (by decide) ?_
  refine zn_iaddv F (v := 1) dL_law_766 (by decide) ?_
  refine zn_sld F hX (jn := 1) dL_law_767 (zvi (by decide)) (by decide) ?_
  refine zn_aload_n F (i := 0) (k := 5) dL_law_768 rfl rfl ?_
  refine zn_iload F (i := 4) (k := 1) dL_law_769 rfl ?_
  refine zn_iconst F (v := 2) dL_law_771 (by decide) ?_
  refine zn_iaddv F (v := 2) dL_law_772 (by decide) ?_
  refine zn_sld F hX (jn := 2) dL_law_773 (zvi (by decide)) (by decide) ?_
  refine zn_perm List.perm_append_comm ?_
  refine zn_callV F (as := [.int (xs 1), .int (xs 2)]) (st := []) (j0 := 0) hR dL_law_774 ycRL_127 yzyX11_sail rfl (wsB := w' ++ [(q, .inl (zcA X 5, 1, .inr (.inl f')))]) rfl (ci := 10) rfl rfl rfl (Nat.le_of_ble_eq_true rfl) (by omega) (by omega) (by omega) (by omega) fun v w2 hB2 => ?_
  obtain ⟨rfl, s, tl, rfl⟩ := hBR _ _ _ hB2
  refine zn_istore F (i := 6) (lv' := [(6, .int b), (5, .int k), (4, .int 0), (3, .ref q), (2, .ref h0), (1, .ref (ad1 (0, 0, 0))), (0, .ref b0)]) dL_law_777 (by decide) rfl ?_
  refine zn_aload_n F (i := 2) (k := 4) dL_law_779 rfl rfl ?_
  refine zn_callV F (as := []) (st := []) (j0 := 0) (zrM_thrown h0 k s) dL_law_780 ycRL_96 yzyX11_thrown rfl (wsB := tl ++ (w' ++ [(q, .inl (zcA X 5, 1, .inr (.inl f')))])) rfl (ci := 10) rfl rfl rfl (Nat.le_of_ble_eq_true rfl) (by omega) (by omega) (by omega) (by omega) fun v w3 hB3 => ?_
  obtain ⟨rfl, rfl⟩ := hB3
  refine zn_iload F (i := 5) (k := 1) dL_law_783 rfl ?_
  refine zn_icmp_eq F (tgt := 790) dL_law_785 (by decide) (fun _ => ?_) (fun z => absurd rfl z)
  refine zn_iload F (i := 5) (k := 1) dL_law_790 rfl ?_
  have kj : ∀ (wz : va_W), zN X mc ms fr lo B 9 807 [(6, .int b), (5, .int k), (4, .int 0), (3, .ref q), (2, .ref h0), (1, .ref (ad1 (0, 0, 0))), (0, .ref b0)] [] wz (200 + mcc + mcr + 0) (2000 + msc + msr + 0) := fun wz => zn_goto F (tgt := 1730) dL_law_807 (by decide) (zn_pick [2, 6] rfl (zn_sub [] (ws' := []) rfl rfl (zn_wid (by omega) (by omega) T)))
  refine zn_if_ne F (tgt := 807) dL_law_792 (by decide) (fun _ => kj _) (fun hk => ?_)
  refine zn_ws (ws' := ([(h0, .inr (10, [.int k, .ref s]))] ++ (tl ++ w')) ++ [(q, .inl (zcA X 5, 1, .inr (.inl f')))]) (by simp only [List.append_assoc, List.cons_append, List.nil_append]) ?_
  refine zn_aload_n F (i := 3) (k := 3) dL_law_795 rfl rfl ?_
  refine zn_iconst F (v := 0) dL_law_796 (by decide) ?_
  refine zn_laldE F dL_law_797 (by decide) rfl (zvi (by decide)) (jn := 0) (by decide) (h0b hk) ?_
  refine zn_iload F (i := 6) (k := 0) dL_law_798 rfl ?_
  refine zn_i2l F dL_law_800 ?_
  refine zn_lcmp F dL_law_801 ?_
  exact zn_if_eq F (tgt := 807) dL_law_802 (by decide) (fun _ => kj _) (fun z => absurd ((lg_cmp_eq _ _).mpr rfl) z)

set_option maxHeartbeats 4000000 in
set_option maxRecDepth 20000 in
theorem zlc_lock {X : zX} (F : zLr X cL_law 9 RL) {b0 q h0 mc ms fr lo : Nat} {xs : Nat → Int32} {B : State → Prop} (f : Nat → Int64) (ad1 : zR → Nat) (l : List Nat) (hX : zScr X b0 7 xs) (hr : 12 ≤ fr ∧ 440 ≤ lo ∧ 1000 ≤ mc ∧ 5000 ≤ ms) (T : zN X mc ms fr lo B 9 1730 [(4, .int 0), (0, .ref b0)] [] [] 1000 5000) : zN X mc ms fr lo B 9 810 [(4, .int 0), (3, .ref q), (2, .ref h0), (1, .ref (ad1 (0, 0, 0))), (0, .ref b0)] [] (zwl (zcA X) ad1 [(2, [1, 2, 3]), (0, []), (0, []), (1, [])] [zm0, zfr0, zfr0, zm0] ++ [(q, .inl (zcA X 5, 1, .inr (.inl f)))] ++ zwl (zcA X) (zadM h0 l) [(4, [1]), (3, [])] [zm0, zfr3]) 200 2000 := by
  obtain ⟨k, b, mcc, msc, BL, fb, lb, mcr, msr, BR, ⟨n1, n2, n3, n4, n5, n6⟩, hL, hBL, hR, hBR⟩ := zag_lock ((xs 1)) ((zbl (xs 2))) q f ad1 h0 l
  refine zn_aload_n F (i := 1) (k := 3) dL_law_810 rfl rfl ?_
  refine zn_aload_n F (i := 0) (k := 4) dL_law_811 rfl rfl ?_
  refine zn_iload F (i := 4) (k := 0) dL_law_812 rfl ?_
  refine zn_iconst F (v := 1) dL_law_814 (by decide) ?_
  refine zn_iaddv F (v := 1) dL_law_815 (by decide) ?_
  refine zn_sld F hX (jn := 1) dL_law_816 (zvi (by decide)) (by decide) ?_
  refine zn_aload_n F (i := 0) (k := 4) dL_law_817 rfl rfl ?_
  refine zn_iload F (i := 4) (k := 0) dL_law_818 rfl ?_
  refine zn_iconst F (v := 2) dL_law_820 (by decide) ?_
  refine zn_iaddv F (v := 2) dL_law_821 (by decide) ?_
  refine zn_sld F hX (jn := 2) dL_law_822 (zvi (by decide)) (by decide) ?_
  refine zn_bool F dL_law_823 dL_law_826 dL_law_827 dL_law_830 ⟨rfl, rfl, rfl, rfl⟩ ?_
  refine zn_aload_n F (i := 3) (k := 1) dL_law_831 rfl rfl ?_
  refine zn_callW F (as := .ref (ad1 (0, 0, 0)) :: ([.int (xs 1), .int (zbl (xs 2))] ++ [.ref q])) (st := []) hL dL_law_832 ycRL_128 yyyL_lock rfl (wsB := zwl (zcA X) (zadM h0 l) [(4, [1]), (3, [])] [zm0, zfr3]) rfl rfl (Nat.le_of_ble_eq_true rfl) (Nat.le_trans (Nat.le_of_ble_eq_true rfl) hr.1) (Nat.le_trans (Nat.le_of_ble_eq_true rfl) hr.2.1) (by omega) (by omega) fun v w1 hB => ?_
  obtain ⟨rfl, w', f', rfl, h0b⟩ := hBL _ _ _ hB
  refine zn_istore F (i := 5) (lv' := [(5, .int k), (4, .int 0), (3, .ref q), (2, .ref h0), (1, .ref (ad1 (0, 0, 0))), (0, .ref b0)]) dL_law_835 (by decide) rfl ?_
  refine zn_aload_n F (i := 2) (k := 3) dL_law_837 rfl rfl ?_
  refine zn_aload_n F (i := 0) (k := 5) dL_law_838 rfl rfl ?_
  refine zn_iload F (i := 4) (k := 1) dL_law_839 rfl ?_
  refine zn_iconst F (v := 1) dL_law_841 (by decide) ?_
  refine zn_iaddv F (v := 1) dL_law_842 (by decide) ?_
  refine zn_sld F hX (jn := 1) dL_law_843 (zvi (by decide)) (by decide) ?_
  refine zn_aload_n F (i := 0) (k := 5) dL_law_844 rfl rfl ?_
  refine zn_iload F (i := 4) (k := 1) dL_law_845 rfl ?_
  refine zn_iconst F (v := 2) dL_law_847 (by decide) ?_
  refine zn_iaddv F (v := 2) dL_law_848 (by decide) ?_
  refine zn_sld F hX (jn := 2) dL_law_849 (zvi (by decide)) (by decide) ?_
  refine zn_bool F dL_law_850 dL_law_853 dL_law_854 dL_law_857 ⟨rfl, rfl, rfl, rfl⟩ ?_
  refine zn_perm List.perm_append_comm ?_
  refine zn_callV F (as := [.int (xs 1), .int (zbl (xs 2))]) (st := []) (j0 := 0) hR dL_law_858 ycRL_130 yzyX11_lock rfl (wsB := w' ++ [(q, .inl (zcA X 5, 1, .inr (.inl f')))]) rfl (ci := 10) rfl rfl rfl (Nat.le_of_ble_eq_true rfl) (by omega) (by omega) (by omega) (by omega) fun v w2 hB2 => ?_
  obtain ⟨rfl, s, tl, rfl⟩ := hBR _ _ _ hB2
  refine zn_istore F (i := 6) (lv' := [(6, .int b), (5, .int k), (4, .int 0), (3, .ref q), (2, .ref h0), (1, .ref (ad1 (0, 0, 0))), (0, .ref b0)]) dL_law_861 (by decide) rfl ?_
  refine zn_aload_n F (i := 2) (k := 4) dL_law_863 rfl rfl ?_
  refine zn_callV F (as := []) (st := []) (j0 := 0) (zrM_thrown h0 k s) dL_law_864 ycRL_96 yzyX11_thrown rfl (wsB := tl ++ (w' ++ [(q, .inl (zcA X 5, 1, .inr (.inl f')))])) rfl (ci := 10) rfl rfl rfl (Nat.le_of_ble_eq_true rfl) (by omega) (by omega) (by omega) (by omega) fun v w3 hB3 => ?_
  obtain ⟨rfl, rfl⟩ := hB3
  refine zn_iload F (i := 5) (k := 1) dL_law_867 rfl ?_
  refine zn_icmp_eq F (tgt := 874) dL_law_869 (by decide) (fun _ => ?_) (fun z => absurd rfl z)
  refine zn_iload F (i := 5) (k := 1) dL_law_874 rfl ?_
  have kj : ∀ (wz : va_W), zN X mc ms fr lo B 9 891 [(6, .int b), (5, .int k), (4, .int 0), (3, .ref q), (2, .ref h0), (1, .ref (ad1 (0, 0, 0))), (0, .ref b0)] [] wz (200 + mcc + mcr + 0) (2000 + msc + msr + 0) := fun wz => zn_goto F (tgt := 1730) dL_law_891 (by decide) (zn_pick [2, 6] rfl (zn_sub [] (ws' := []) rfl rfl (zn_wid (by omega) (by omega) T)))
  refine zn_if_ne F (tgt := 891) dL_law_876 (by decide) (fun _ => kj _) (fun hk => ?_)
  refine zn_ws (ws' := ([(h0, .inr (10, [.int k, .ref s]))] ++ (tl ++ w')) ++ [(q, .inl (zcA X 5, 1, .inr (.inl f')))]) (by simp only [List.append_assoc, List.cons_append, List.nil_append]) ?_
  refine zn_aload_n F (i := 3) (k := 3) dL_law_879 rfl rfl ?_
  refine zn_iconst F (v := 0) dL_law_880 (by decide) ?_
  refine zn_laldE F dL_law_881 (by decide) rfl (zvi (by decide)) (jn := 0) (by decide) (h0b hk) ?_
  refine zn_iload F (i := 6) (k := 0) dL_law_882 rfl ?_
  refine zn_i2l F dL_law_884 ?_
  refine zn_lcmp F dL_law_885 ?_
  exact zn_if_eq F (tgt := 891) dL_law_886 (by decide) (fun _ => kj _) (fun z => absurd ((lg_cmp_eq _ _).mpr rfl) z)

set_option maxHeartbeats 4000000 in
set_option maxRecDepth 20000 in
theorem zlc_climb {X : zX} (F : zLr X cL_law 9 RL) {b0 q h0 mc ms fr lo : Nat} {xs : Nat → Int32} {B : State → Prop} (f : Nat → Int64) (ad1 : zR → Nat) (l : List Nat) (hX : zScr X b0 7 xs) (hr : 12 ≤ fr ∧ 440 ≤ lo ∧ 1000 ≤ mc ∧ 5000 ≤ ms) (T : zN X mc ms fr lo B 9 1730 [(4, .int 0), (0, .ref b0)] [] [] 1000 5000) : zN X mc ms fr lo B 9 894 [(4, .int 0), (3, .ref q), (2, .ref h0), (1, .ref (ad1 (0, 0, 0))), (0, .ref b0)] [] (zwl (zcA X) ad1 [(2, [1, 2, 3]), (0, []), (0, []), (1, [])] [zm0, zfr0, zfr0, zm0] ++ [(q, .inl (zcA X 5, 1, .inr (.inl f)))] ++ zwl (zcA X) (zadM h0 l) [(4, [1]), (3, [])] [zm0, zfr3]) 200 2000 := by
  obtain ⟨k, b, mcc, msc, BL, fb, lb, mcr, msr, BR, ⟨n1, n2, n3, n4, n5, n6⟩, hL, hBL, hR, hBR⟩ := zag_climb ((xs 1)) ((xs 2)) q f ad1 h0 l
  refine zn_aload_n F (i := 1) (k := 3) dL_law_894 rfl rfl ?_
  refine zn_aload_n F (i := 0) (k := 4) dL_law_895 rfl rfl ?_
  refine zn_iload F (i := 4) (k := 0) dL_law_896 rfl ?_
  refine zn_iconst F (v := 1) dL_law_898 (by decide) ?_
  refine zn_iaddv F (v := 1) dL_law_899 (by decide) ?_
  refine zn_sld F hX (jn := 1) dL_law_900 (zvi (by decide)) (by decide) ?_
  refine zn_aload_n F (i := 0) (k := 4) dL_law_901 rfl rfl ?_
  refine zn_iload F (i := 4) (k := 0) dL_law_902 rfl ?_
  refine zn_iconst F (v := 2) dL_law_904 (by decide) ?_
  refine zn_iaddv F (v := 2) dL_law_905 (by decide) ?_
  refine zn_sld F hX (jn := 2) dL_law_906 (zvi (by decide)) (by decide) ?_
  refine zn_aload_n F (i := 3) (k := 1) dL_law_907 rfl rfl ?_
  refine zn_callW F (as := .ref (ad1 (0, 0, 0)) :: ([.int (xs 1), .int (xs 2)] ++ [.ref q])) (st := []) hL dL_law_908 ycRL_131 yyyL_climb rfl (wsB := zwl (zcA X) (zadM h0 l) [(4, [1]), (3, [])] [zm0, zfr3]) rfl rfl (Nat.le_of_ble_eq_true rfl) (Nat.le_trans (Nat.le_of_ble_eq_true rfl) hr.1) (Nat.le_trans (Nat.le_of_ble_eq_true rfl) hr.2.1) (by omega) (by omega) fun v w1 hB => ?_
  obtain ⟨rfl, w', f', rfl, h0b⟩ := hBL _ _ _ hB
  refine zn_istore F (i := 5) (lv' := [(5, .int k), (4, .int 0), (3, .ref q), (2, .ref h0), (1, .ref (ad1 (0, 0, 0))), (0, .ref b0)]) dL_law_911 (by decide) rfl ?_
  refine zn_aload_n F (i := 2) (k := 3) dL_law_913 rfl rfl ?_
  refine zn_aload_n F (i := 0) (k := 5) dL_law_914 rfl rfl ?_
  refine zn_iload F (i := 4) (k := 1) dL_law_915 rfl ?_
  refine zn_iconst F (v := 1) dL_law_917 (by decide) ?_
  refine zn_iaddv F (v := 1) dL_law_918 (by decide) ?_
  refine zn_sld F hX (jn := 1) dL_law_919 (zvi (by decide)) (by decide) ?_
  refine zn_aload_n F (i := 0) (k := 5) dL_law_920 rfl rfl ?_
  refine zn_iload F (i := 4) (k := 1) dL_law_921 rfl ?_
  refine zn_iconst F (v := 2) dL_law_923 (by decide) ?_
  refine zn_iaddv F (v := 2) dL_law_924 (by decide) ?_
  refine zn_sld F hX (jn := 2) dL_law_925 (zvi (by decide)) (by decide) ?_
  refine zn_perm List.perm_append_comm ?_
  refine zn_callV F (as := [.int (xs 1), .int (xs 2)]) (st := []) (j0 := 0) hR dL_law_926 ycRL_133 yzyX11_climb rfl (wsB := w' ++ [(q, .inl (zcA X 5, 1, .inr (.inl f')))]) rfl (ci := 10) rfl rfl rfl (Nat.le_of_ble_eq_true rfl) (by omega) (by omega) (by omega) (by omega) fun v w2 hB2 => ?_
  obtain ⟨rfl, s, tl, rfl⟩ := hBR _ _ _ hB2
  refine zn_istore F (i := 6) (lv' := [(6, .int b), (5, .int k), (4, .int 0), (3, .ref q), (2, .ref h0), (1, .ref (ad1 (0, 0, 0))), (0, .ref b0)]) dL_law_929 (by decide) rfl ?_
  refine zn_aload_n F (i := 2) (k := 4) dL_law_931 rfl rfl ?_
  refine zn_callV F (as := []) (st := []) (j0 := 0) (zrM_thrown h0 k s) dL_law_932 ycRL_96 yzyX11_thrown rfl (wsB := tl ++ (w' ++ [(q, .inl (zcA X 5, 1, .inr (.inl f')))])) rfl (ci := 10) rfl rfl rfl (Nat.le_of_ble_eq_true rfl) (by omega) (by omega) (by omega) (by omega) fun v w3 hB3 => ?_
  obtain ⟨rfl, rfl⟩ := hB3
  refine zn_iload F (i := 5) (k := 1) dL_law_935 rfl ?_
  refine zn_icmp_eq F (tgt := 942) dL_law_937 (by decide) (fun _ => ?_) (fun z => absurd rfl z)
  refine zn_iload F (i := 5) (k := 1) dL_law_942 rfl ?_
  have kj : ∀ (wz : va_W), zN X mc ms fr lo B 9 959 [(6, .int b), (5, .int k), (4, .int 0), (3, .ref q), (2, .ref h0), (1, .ref (ad1 (0, 0, 0))), (0, .ref b0)] [] wz (200 + mcc + mcr + 0) (2000 + msc + msr + 0) := fun wz => zn_goto F (tgt := 1730) dL_law_959 (by decide) (zn_pick [2, 6] rfl (zn_sub [] (ws' := []) rfl rfl (zn_wid (by omega) (by omega) T)))
  refine zn_if_ne F (tgt := 959) dL_law_944 (by decide) (fun _ => kj _) (fun hk => ?_)
  refine zn_ws (ws' := ([(h0, .inr (10, [.int k, .ref s]))] ++ (tl ++ w')) ++ [(q, .inl (zcA X 5, 1, .inr (.inl f')))]) (by simp only [List.append_assoc, List.cons_append, List.nil_append]) ?_
  refine zn_aload_n F (i := 3) (k := 3) dL_law_947 rfl rfl ?_
  refine zn_iconst F (v := 0) dL_law_948 (by decide) ?_
  refine zn_laldE F dL_law_949 (by decide) rfl (zvi (by decide)) (jn := 0) (by decide) (h0b hk) ?_
  refine zn_iload F (i := 6) (k := 0) dL_law_950 rfl ?_
  refine zn_i2l F dL_law_952 ?_
  refine zn_lcmp F dL_law_953 ?_
  exact zn_if_eq F (tgt := 959) dL_law_954 (by decide) (fun _ => kj _) (fun z => absurd ((lg_cmp_eq _ _).mpr rfl) z)

set_option maxHeartbeats 4000000 in
set_option maxRecDepth 20000 in
theorem zlc_down {X : zX} (F : zLr X cL_law 9 RL) {b0 q h0 mc ms fr lo : Nat} {xs : Nat → Int32} {B : State → Prop} (f : Nat → Int64) (ad1 : zR → Nat) (l : List Nat) (hX : zScr X b0 7 xs) (hr : 12 ≤ fr ∧ 440 ≤ lo ∧ 1000 ≤ mc ∧ 5000 ≤ ms) (T : zN X mc ms fr lo B 9 1730 [(4, .int 0), (0, .ref b0)] [] [] 1000 5000) : zN X mc ms fr lo B 9 962 [(4, .int 0), (3, .ref q), (2, .ref h0), (1, .ref (ad1 (0, 0, 0))), (0, .ref b0)] [] (zwl (zcA X) ad1 [(2, [1, 2, 3]), (0, []), (0, []), (1, [])] [zm0, zfr0, zfr0, zm0] ++ [(q, .inl (zcA X 5, 1, .inr (.inl f)))] ++ zwl (zcA X) (zadM h0 l) [(4, [1]), (3, [])] [zm0, zfr3]) 200 2000 := by
  obtain ⟨k, b, mcc, msc, BL, fb, lb, mcr, msr, BR, ⟨n1, n2, n3, n4, n5, n6⟩, hL, hBL, hR, hBR⟩ := zag_down ((xs 1)) q f ad1 h0 l
  refine zn_aload_n F (i := 1) (k := 3) dL_law_962 rfl rfl ?_
  refine zn_aload_n F (i := 0) (k := 4) dL_law_963 rfl rfl ?_
  refine zn_iload F (i := 4) (k := 0) dL_law_964 rfl ?_
  refine zn_iconst F (v := 1) dL_law_966 (by decide) ?_
  refine zn_iaddv F (v := 1) dL_law_967 (by decide) ?_
  refine zn_sld F hX (jn := 1) dL_law_968 (zvi (by decide)) (by decide) ?_
  refine zn_aload_n F (i := 3) (k := 1) dL_law_969 rfl rfl ?_
  refine zn_callW F (as := .ref (ad1 (0, 0, 0)) :: ([.int (xs 1)] ++ [.ref q])) (st := []) hL dL_law_970 ycRL_134 yyyL_down rfl (wsB := zwl (zcA X) (zadM h0 l) [(4, [1]), (3, [])] [zm0, zfr3]) rfl rfl (Nat.le_of_ble_eq_true rfl) (Nat.le_trans (Nat.le_of_ble_eq_true rfl) hr.1) (Nat.le_trans (Nat.le_of_ble_eq_true rfl) hr.2.1) (by omega) (by omega) fun v w1 hB => ?_
  obtain ⟨rfl, w', f', rfl, h0b⟩ := hBL _ _ _ hB
  refine zn_istore F (i := 5) (lv' := [(5, .int k), (4, .int 0), (3, .ref q), (2, .ref h0), (1, .ref (ad1 (0, 0, 0))), (0, .ref b0)]) dL_law_973 (by decide) rfl ?_
  refine zn_aload_n F (i := 2) (k := 3) dL_law_975 rfl rfl ?_
  refine zn_aload_n F (i := 0) (k := 5) dL_law_976 rfl rfl ?_
  refine zn_iload F (i := 4) (k := 1) dL_law_977 rfl ?_
  refine zn_iconst F (v := 1) dL_law_979 (by decide) ?_
  refine zn_iaddv F (v := 1) dL_law_980 (by decide) ?_
  refine zn_sld F hX (jn := 1) dL_law_981 (zvi (by decide)) (by decide) ?_
  refine zn_perm List.perm_append_comm ?_
  refine zn_callV F (as := [.int (xs 1)]) (st := []) (j0 := 0) hR dL_law_982 ycRL_136 yzyX11_down rfl (wsB := w' ++ [(q, .inl (zcA X 5, 1, .inr (.inl f')))]) rfl (ci := 10) rfl rfl rfl (Nat.le_of_ble_eq_true rfl) (by omega) (by omega) (by omega) (by omega) fun v w2 hB2 => ?_
  obtain ⟨rfl, s, tl, rfl⟩ := hBR _ _ _ hB2
  refine zn_istore F (i := 6) (lv' := [(6, .int b), (5, .int k), (4, .int 0), (3, .ref q), (2, .ref h0), (1, .ref (ad1 (0, 0, 0))), (0, .ref b0)]) dL_law_985 (by decide) rfl ?_
  refine zn_aload_n F (i := 2) (k := 4) dL_law_987 rfl rfl ?_
  refine zn_callV F (as := []) (st := []) (j0 := 0) (zrM_thrown h0 k s) dL_law_988 ycRL_96 yzyX11_thrown rfl (wsB := tl ++ (w' ++ [(q, .inl (zcA X 5, 1, .inr (.inl f')))])) rfl (ci := 10) rfl rfl rfl (Nat.le_of_ble_eq_true rfl) (by omega) (by omega) (by omega) (by omega) fun v w3 hB3 => ?_
  obtain ⟨rfl, rfl⟩ := hB3
  refine zn_iload F (i := 5) (k := 1) dL_law_991 rfl ?_
  refine zn_icmp_eq F (tgt := 998) dL_law_993 (by decide) (fun _ => ?_) (fun z => absurd rfl z)
  refine zn_iload F (i := 5) (k := 1) dL_law_998 rfl ?_
  have kj : ∀ (wz : va_W), zN X mc ms fr lo B 9 1015 [(6, .int b), (5, .int k), (4, .int 0), (3, .ref q), (2, .ref h0), (1, .ref (ad1 (0, 0, 0))), (0, .ref b0)] [] wz (200 + mcc + mcr + 0) (2000 + msc + msr + 0) := fun wz => zn_goto F (tgt := 1730) dL_law_1015 (by decide) (zn_pick [2, 6] rfl (zn_sub [] (ws' := []) rfl rfl (zn_wid (by omega) (by omega) T)))
  refine zn_if_ne F (tgt := 1015) dL_law_1000 (by decide) (fun _ => kj _) (fun hk => ?_)
  refine zn_ws (ws' := ([(h0, .inr (10, [.int k, .ref s]))] ++ (tl ++ w')) ++ [(q, .inl (zcA X 5, 1, .inr (.inl f')))]) (by simp only [List.append_assoc, List.cons_append, List.nil_append]) ?_
  refine zn_aload_n F (i := 3) (k := 3) dL_law_1003 rfl rfl ?_
  refine zn_iconst F (v := 0) dL_law_1004 (by decide) ?_
  refine zn_laldE F dL_law_1005 (by decide) rfl (zvi (by decide)) (jn := 0) (by decide) (h0b hk) ?_
  refine zn_iload F (i := 6) (k := 0) dL_law_1006 rfl ?_
  refine zn_i2l F dL_law_1008 ?_
  refine zn_lcmp F dL_law_1009 ?_
  exact zn_if_eq F (tgt := 1015) dL_law_1010 (by decide) (fun _ => kj _) (fun z => absurd ((lg_cmp_eq _ _).mpr rfl) z)

set_option maxHeartbeats 4000000 in
set_option maxRecDepth 20000 in
theorem zlc_ofTurbine {X : zX} (F : zLr X cL_law 9 RL) {b0 q h0 mc ms fr lo : Nat} {xs : Nat → Int32} {B : State → Prop} (f : Nat → Int64) (ad1 : zR → Nat) (l : List Nat) (hX : zScr X b0 7 xs) (hr : 12 ≤ fr ∧ 440 ≤ lo ∧ 1000 ≤ mc ∧ 5000 ≤ ms) (T : zN X mc ms fr lo B 9 1730 [(4, .int 0), (0, .ref b0)] [] [] 1000 5000) : zN X mc ms fr lo B 9 1018 [(4, .int 0), (3, .ref q), (2, .ref h0), (1, .ref (ad1 (0, 0, 0))), (0, .ref b0)] [] (zwl (zcA X) ad1 [(2, [1, 2, 3]), (0, []), (0, []), (1, [])] [zm0, zfr0, zfr0, zm0] ++ [(q, .inl (zcA X 5, 1, .inr (.inl f)))] ++ zwl (zcA X) (zadM h0 l) [(4, [1]), (3, [])] [zm0, zfr3]) 200 2000 := by
  obtain ⟨k, b, mcc, msc, BL, fb, lb, mcr, msr, BR, ⟨n1, n2, n3, n4, n5, n6⟩, hL, hBL, hR, hBR⟩ := zag_ofTurbine ((xs 1)) ((xs 2)) q f ad1 h0 l
  refine zn_aload_n F (i := 1) (k := 3) dL_law_1018 rfl rfl ?_
  refine zn_aload_n F (i := 0) (k := 4) dL_law_1019 rfl rfl ?_
  refine zn_iload F (i := 4) (k := 0) dL_law_1020 rfl ?_
  refine zn_iconst F (v := 1) dL_law_1022 (by decide) ?_
  refine zn_iaddv F (v := 1) dL_law_1023 (by decide) ?_
  refine zn_sld F hX (jn := 1) dL_law_1024 (zvi (by decide)) (by decide) ?_
  refine zn_aload_n F (i := 0) (k := 4) dL_law_1025 rfl rfl ?_
  refine zn_iload F (i := 4) (k := 0) dL_law_1026 rfl ?_
  refine zn_iconst F (v := 2) dL_law_1028 (by decide) ?_
  refine zn_iaddv F (v := 2) dL_law_1029 (by decide) ?_
  refine zn_sld F hX (jn := 2) dL_law_1030 (zvi (by decide)) (by decide) ?_
  refine zn_aload_n F (i := 3) (k := 1) dL_law_1031 rfl rfl ?_
  refine zn_callW F (as := .ref (ad1 (0, 0, 0)) :: ([.int (xs 1), .int (xs 2)] ++ [.ref q])) (st := []) hL dL_law_1032 ycRL_137 yyyL_ofTurbine rfl (wsB := zwl (zcA X) (zadM h0 l) [(4, [1]), (3, [])] [zm0, zfr3]) rfl rfl (Nat.le_of_ble_eq_true rfl) (Nat.le_trans (Nat.le_of_ble_eq_true rfl) hr.1) (Nat.le_trans (Nat.le_of_ble_eq_true rfl) hr.2.1) (by omega) (by omega) fun v w1 hB => ?_
  obtain ⟨rfl, w', f', rfl, h0b⟩ := hBL _ _ _ hB
  refine zn_istore F (i := 5) (lv' := [(5, .int k), (4, .int 0), (3, .ref q), (2, .ref h0), (1, .ref (ad1 (0, 0, 0))), (0, .ref b0)]) dL_law_1035 (by decide) rfl ?_
  refine zn_aload_n F (i := 2) (k := 3) dL_law_1037 rfl rfl ?_
  refine zn_aload_n F (i := 0) (k := 5) dL_law_1038 rfl rfl ?_
  refine zn_iload F (i := 4) (k := 1) dL_law_1039 rfl ?_
  refine zn_iconst F (v := 1) dL_law_1041 (by decide) ?_
  refine zn_iaddv F (v := 1) dL_law_1042 (by decide) ?_
  refine zn_sld F hX (jn := 1) dL_law_1043 (zvi (by decide)) (by decide) ?_
  refine zn_aload_n F (i := 0) (k := 5) dL_law_1044 rfl rfl ?_
  refine zn_iload F (i := 4) (k := 1) dL_law_1045 rfl ?_
  refine zn_iconst F (v := 2) dL_law_1047 (by decide) ?_
  refine zn_iaddv F (v := 2) dL_law_1048 (by decide) ?_
  refine zn_sld F hX (jn := 2) dL_law_1049 (zvi (by decide)) (by decide) ?_
  refine zn_perm List.perm_append_comm ?_
  refine zn_callV F (as := [.int (xs 1), .int (xs 2)]) (st := []) (j0 := 0) hR dL_law_1050 ycRL_139 yzyX11_ofTurbine rfl (wsB := w' ++ [(q, .inl (zcA X 5, 1, .inr (.inl f')))]) rfl (ci := 10) rfl rfl rfl (Nat.le_of_ble_eq_true rfl) (by omega) (by omega) (by omega) (by omega) fun v w2 hB2 => ?_
  obtain ⟨rfl, s, tl, rfl⟩ := hBR _ _ _ hB2
  refine zn_istore F (i := 6) (lv' := [(6, .int b), (5, .int k), (4, .int 0), (3, .ref q), (2, .ref h0), (1, .ref (ad1 (0, 0, 0))), (0, .ref b0)]) dL_law_1053 (by decide) rfl ?_
  refine zn_aload_n F (i := 2) (k := 4) dL_law_1055 rfl rfl ?_
  refine zn_callV F (as := []) (st := []) (j0 := 0) (zrM_thrown h0 k s) dL_law_1056 ycRL_96 yzyX11_thrown rfl (wsB := tl ++ (w' ++ [(q, .inl (zcA X 5, 1, .inr (.inl f')))])) rfl (ci := 10) rfl rfl rfl (Nat.le_of_ble_eq_true rfl) (by omega) (by omega) (by omega) (by omega) fun v w3 hB3 => ?_
  obtain ⟨rfl, rfl⟩ := hB3
  refine zn_iload F (i := 5) (k := 1) dL_law_1059 rfl ?_
  refine zn_icmp_eq F (tgt := 1066) dL_law_1061 (by decide) (fun _ => ?_) (fun z => absurd rfl z)
  refine zn_iload F (i := 5) (k := 1) dL_law_1066 rfl ?_
  have kj : ∀ (wz : va_W), zN X mc ms fr lo B 9 1083 [(6, .int b), (5, .int k), (4, .int 0), (3, .ref q), (2, .ref h0), (1, .ref (ad1 (0, 0, 0))), (0, .ref b0)] [] wz (200 + mcc + mcr + 0) (2000 + msc + msr + 0) := fun wz => zn_goto F (tgt := 1730) dL_law_1083 (by decide) (zn_pick [2, 6] rfl (zn_sub [] (ws' := []) rfl rfl (zn_wid (by omega) (by omega) T)))
  refine zn_if_ne F (tgt := 1083) dL_law_1068 (by decide) (fun _ => kj _) (fun hk => ?_)
  refine zn_ws (ws' := ([(h0, .inr (10, [.int k, .ref s]))] ++ (tl ++ w')) ++ [(q, .inl (zcA X 5, 1, .inr (.inl f')))]) (by simp only [List.append_assoc, List.cons_append, List.nil_append]) ?_
  refine zn_aload_n F (i := 3) (k := 3) dL_law_1071 rfl rfl ?_
  refine zn_iconst F (v := 0) dL_law_1072 (by decide) ?_
  refine zn_laldE F dL_law_1073 (by decide) rfl (zvi (by decide)) (jn := 0) (by decide) (h0b hk) ?_
  refine zn_iload F (i := 6) (k := 0) dL_law_1074 rfl ?_
  refine zn_i2l F dL_law_1076 ?_
  refine zn_lcmp F dL_law_1077 ?_
  exact zn_if_eq F (tgt := 1083) dL_law_1078 (by decide) (fun _ => kj _) (fun z => absurd ((lg_cmp_eq _ _).mpr rfl) z)

set_option maxHeartbeats 4000000 in
set_option maxRecDepth 20000 in
theorem zlc_wear {X : zX} (F : zLr X cL_law 9 RL) {b0 q h0 mc ms fr lo : Nat} {xs : Nat → Int32} {B : State → Prop} (f : Nat → Int64) (ad1 : zR → Nat) (l : List Nat) (hX : zScr X b0 7 xs) (hr : 12 ≤ fr ∧ 440 ≤ lo ∧ 1000 ≤ mc ∧ 5000 ≤ ms) (T : zN X mc ms fr lo B 9 1730 [(4, .int 0), (0, .ref b0)] [] [] 1000 5000) : zN X mc ms fr lo B 9 1086 [(4, .int 0), (3, .ref q), (2, .ref h0), (1, .ref (ad1 (0, 0, 0))), (0, .ref b0)] [] (zwl (zcA X) ad1 [(2, [1, 2, 3]), (0, []), (0, []), (1, [])] [zm0, zfr0, zfr0, zm0] ++ [(q, .inl (zcA X 5, 1, .inr (.inl f)))] ++ zwl (zcA X) (zadM h0 l) [(4, [1]), (3, [])] [zm0, zfr3]) 200 2000 := by
  obtain ⟨k, b, mcc, msc, BL, fb, lb, mcr, msr, BR, ⟨n1, n2, n3, n4, n5, n6⟩, hL, hBL, hR, hBR⟩ := zag_wear ((xs 1)) ((xs 2)) q f ad1 h0 l
  refine zn_aload_n F (i := 1) (k := 3) dL_law_1086 rfl rfl ?_
  refine zn_aload_n F (i := 0) (k := 4) dL_law_1087 rfl rfl ?_
  refine zn_iload F (i := 4) (k := 0) dL_law_1088 rfl ?_
  refine zn_iconst F (v := 1) dL_law_1090 (by decide) ?_
  refine zn_iaddv F (v := 1) dL_law_1091 (by decide) ?_
  refine zn_sld F hX (jn := 1) dL_law_1092 (zvi (by decide)) (by decide) ?_
  refine zn_aload_n F (i := 0) (k := 4) dL_law_1093 rfl rfl ?_
  refine zn_iload F (i := 4) (k := 0) dL_law_1094 rfl ?_
  refine zn_iconst F (v := 2) dL_law_1096 (by decide) ?_
  refine zn_iaddv F (v := 2) dL_law_1097 (by decide) ?_
  refine zn_sld F hX (jn := 2) dL_law_1098 (zvi (by decide)) (by decide) ?_
  refine zn_aload_n F (i := 3) (k := 1) dL_law_1099 rfl rfl ?_
  refine zn_callW F (as := .ref (ad1 (0, 0, 0)) :: ([.int (xs 1), .int (xs 2)] ++ [.ref q])) (st := []) hL dL_law_1100 ycRL_140 yyyL_wear rfl (wsB := zwl (zcA X) (zadM h0 l) [(4, [1]), (3, [])] [zm0, zfr3]) rfl rfl (Nat.le_of_ble_eq_true rfl) (Nat.le_trans (Nat.le_of_ble_eq_true rfl) hr.1) (Nat.le_trans (Nat.le_of_ble_eq_true rfl) hr.2.1) (by omega) (by omega) fun v w1 hB => ?_
  obtain ⟨rfl, w', f', rfl, h0b⟩ := hBL _ _ _ hB
  refine zn_istore F (i := 5) (lv' := [(5, .int k), (4, .int 0), (3, .ref q), (2, .ref h0), (1, .ref (ad1 (0, 0, 0))), (0, .ref b0)]) dL_law_1103 (by decide) rfl ?_
  refine zn_aload_n F (i := 2) (k := 3) dL_law_1105 rfl rfl ?_
  refine zn_aload_n F (i := 0) (k := 5) dL_law_1106 rfl rfl ?_
  refine zn_iload F (i := 4) (k := 1) dL_law_1107 rfl ?_
  refine zn_iconst F (v := 1) dL_law_1109 (by decide) ?_
  refine zn_iaddv F (v := 1) dL_law_1110 (by decide) ?_
  refine zn_sld F hX (jn := 1) dL_law_1111 (zvi (by decide)) (by decide) ?_
  refine zn_aload_n F (i := 0) (k := 5) dL_law_1112 rfl rfl ?_
  refine zn_iload F (i := 4) (k := 1) dL_law_1113 rfl ?_
  refine zn_iconst F (v := 2) dL_law_1115 (by decide) ?_
  refine zn_iaddv F (v := 2) dL_law_1116 (by decide) ?_
  refine zn_sld F hX (jn := 2) dL_law_1117 (zvi (by decide)) (by decide) ?_
  refine zn_perm List.perm_append_comm ?_
  refine zn_callV F (as := [.int (xs 1), .int (xs 2)]) (st := []) (j0 := 0) hR dL_law_1118 ycRL_142 yzyX11_wear rfl (wsB := w' ++ [(q, .inl (zcA X 5, 1, .inr (.inl f')))]) rfl (ci := 10) rfl rfl rfl (Nat.le_of_ble_eq_true rfl) (by omega) (by omega) (by omega) (by omega) fun v w2 hB2 => ?_
  obtain ⟨rfl, s, tl, rfl⟩ := hBR _ _ _ hB2
  refine zn_istore F (i := 6) (lv' := [(6, .int b), (5, .int k), (4, .int 0), (3, .ref q), (2, .ref h0), (1, .ref (ad1 (0, 0, 0))), (0, .ref b0)]) dL_law_1121 (by decide) rfl ?_
  refine zn_aload_n F (i := 2) (k := 4) dL_law_1123 rfl rfl ?_
  refine zn_callV F (as := []) (st := []) (j0 := 0) (zrM_thrown h0 k s) dL_law_1124 ycRL_96 yzyX11_thrown rfl (wsB := tl ++ (w' ++ [(q, .inl (zcA X 5, 1, .inr (.inl f')))])) rfl (ci := 10) rfl rfl rfl (Nat.le_of_ble_eq_true rfl) (by omega) (by omega) (by omega) (by omega) fun v w3 hB3 => ?_
  obtain ⟨rfl, rfl⟩ := hB3
  refine zn_iload F (i := 5) (k := 1) dL_law_1127 rfl ?_
  refine zn_icmp_eq F (tgt := 1134) dL_law_1129 (by decide) (fun _ => ?_) (fun z => absurd rfl z)
  refine zn_iload F (i := 5) (k := 1) dL_law_1134 rfl ?_
  have kj : ∀ (wz : va_W), zN X mc ms fr lo B 9 1151 [(6, .int b), (5, .int k), (4, .int 0), (3, .ref q), (2, .ref h0), (1, .ref (ad1 (0, 0, 0))), (0, .ref b0)] [] wz (200 + mcc + mcr + 0) (2000 + msc + msr + 0) := fun wz => zn_goto F (tgt := 1730) dL_law_1151 (by decide) (zn_pick [2, 6] rfl (zn_sub [] (ws' := []) rfl rfl (zn_wid (by omega) (by omega) T)))
  refine zn_if_ne F (tgt := 1151) dL_law_1136 (by decide) (fun _ => kj _) (fun hk => ?_)
  refine zn_ws (ws' := ([(h0, .inr (10, [.int k, .ref s]))] ++ (tl ++ w')) ++ [(q, .inl (zcA X 5, 1, .inr (.inl f')))]) (by simp only [List.append_assoc, List.cons_append, List.nil_append]) ?_
  refine zn_aload_n F (i := 3) (k := 3) dL_law_1139 rfl rfl ?_
  refine zn_iconst F (v := 0) dL_law_1140 (by decide) ?_
  refine zn_laldE F dL_law_1141 (by decide) rfl (zvi (by decide)) (jn := 0) (by decide) (h0b hk) ?_
  refine zn_iload F (i := 6) (k := 0) dL_law_1142 rfl ?_
  refine zn_i2l F dL_law_1144 ?_
  refine zn_lcmp F dL_law_1145 ?_
  exact zn_if_eq F (tgt := 1151) dL_law_1146 (by decide) (fun _ => kj _) (fun z => absurd ((lg_cmp_eq _ _).mpr rfl) z)

set_option maxHeartbeats 4000000 in
set_option maxRecDepth 20000 in
theorem zlc_lost {X : zX} (F : zLr X cL_law 9 RL) {b0 q h0 mc ms fr lo : Nat} {xs : Nat → Int32} {B : State → Prop} (f : Nat → Int64) (ad1 : zR → Nat) (l : List Nat) (hX : zScr X b0 7 xs) (hr : 12 ≤ fr ∧ 440 ≤ lo ∧ 1000 ≤ mc ∧ 5000 ≤ ms) (T : zN X mc ms fr lo B 9 1730 [(4, .int 0), (0, .ref b0)] [] [] 1000 5000) : zN X mc ms fr lo B 9 1154 [(4, .int 0), (3, .ref q), (2, .ref h0), (1, .ref (ad1 (0, 0, 0))), (0, .ref b0)] [] (zwl (zcA X) ad1 [(2, [1, 2, 3]), (0, []), (0, []), (1, [])] [zm0, zfr0, zfr0, zm0] ++ [(q, .inl (zcA X 5, 1, .inr (.inl f)))] ++ zwl (zcA X) (zadM h0 l) [(4, [1]), (3, [])] [zm0, zfr3]) 200 2000 := by
  obtain ⟨k, b, mcc, msc, BL, fb, lb, mcr, msr, BR, ⟨n1, n2, n3, n4, n5, n6⟩, hL, hBL, hR, hBR⟩ := zag_lost ((xs 1)) ((xs 2)) q f ad1 h0 l
  refine zn_aload_n F (i := 1) (k := 3) dL_law_1154 rfl rfl ?_
  refine zn_aload_n F (i := 0) (k := 4) dL_law_1155 rfl rfl ?_
  refine zn_iload F (i := 4) (k := 0) dL_law_1156 rfl ?_
  refine zn_iconst F (v := 1) dL_law_1158 (by decide) ?_
  refine zn_iaddv F (v := 1) dL_law_1159 (by decide) ?_
  refine zn_sld F hX (jn := 1) dL_law_1160 (zvi (by decide)) (by decide) ?_
  refine zn_aload_n F (i := 0) (k := 4) dL_law_1161 rfl rfl ?_
  refine zn_iload F (i := 4) (k := 0) dL_law_1162 rfl ?_
  refine zn_iconst F (v := 2) dL_law_1164 (by decide) ?_
  refine zn_iaddv F (v := 2) dL_law_1165 (by decide) ?_
  refine zn_sld F hX (jn := 2) dL_law_1166 (zvi (by decide)) (by decide) ?_
  refine zn_aload_n F (i := 3) (k := 1) dL_law_1167 rfl rfl ?_
  refine zn_callW F (as := .ref (ad1 (0, 0, 0)) :: ([.int (xs 1), .int (xs 2)] ++ [.ref q])) (st := []) hL dL_law_1168 ycRL_143 yyyL_lost rfl (wsB := zwl (zcA X) (zadM h0 l) [(4, [1]), (3, [])] [zm0, zfr3]) rfl rfl (Nat.le_of_ble_eq_true rfl) (Nat.le_trans (Nat.le_of_ble_eq_true rfl) hr.1) (Nat.le_trans (Nat.le_of_ble_eq_true rfl) hr.2.1) (by omega) (by omega) fun v w1 hB => ?_
  obtain ⟨rfl, w', f', rfl, h0b⟩ := hBL _ _ _ hB
  refine zn_istore F (i := 5) (lv' := [(5, .int k), (4, .int 0), (3, .ref q), (2, .ref h0), (1, .ref (ad1 (0, 0, 0))), (0, .ref b0)]) dL_law_1171 (by decide) rfl ?_
  refine zn_aload_n F (i := 2) (k := 3) dL_law_1173 rfl rfl ?_
  refine zn_aload_n F (i := 0) (k := 5) dL_law_1174 rfl rfl ?_
  refine zn_iload F (i := 4) (k := 1) dL_law_1175 rfl ?_
  refine zn_iconst F (v := 1) dL_law_1177 (by decide) ?_
  refine zn_iaddv F (v := 1) dL_law_1178 (by decide) ?_
  refine zn_sld F hX (jn := 1) dL_law_1179 (zvi (by decide)) (by decide) ?_
  refine zn_aload_n F (i := 0) (k := 5) dL_law_1180 rfl rfl ?_
  refine zn_iload F (i := 4) (k := 1) dL_law_1181 rfl ?_
  refine zn_iconst F (v := 2) dL_law_1183 (by decide) ?_
  refine zn_iaddv F (v := 2) dL_law_1184 (by decide) ?_
  refine zn_sld F hX (jn := 2) dL_law_1185 (zvi (by decide)) (by decide) ?_
  refine zn_perm List.perm_append_comm ?_
  refine zn_callV F (as := [.int (xs 1), .int (xs 2)]) (st := []) (j0 := 0) hR dL_law_1186 ycRL_145 yzyX11_lost rfl (wsB := w' ++ [(q, .inl (zcA X 5, 1, .inr (.inl f')))]) rfl (ci := 10) rfl rfl rfl (Nat.le_of_ble_eq_true rfl) (by omega) (by omega) (by omega) (by omega) fun v w2 hB2 => ?_
  obtain ⟨rfl, s, tl, rfl⟩ := hBR _ _ _ hB2
  refine zn_istore F (i := 6) (lv' := [(6, .int b), (5, .int k), (4, .int 0), (3, .ref q), (2, .ref h0), (1, .ref (ad1 (0, 0, 0))), (0, .ref b0)]) dL_law_1189 (by decide) rfl ?_
  refine zn_aload_n F (i := 2) (k := 4) dL_law_1191 rfl rfl ?_
  refine zn_callV F (as := []) (st := []) (j0 := 0) (zrM_thrown h0 k s) dL_law_1192 ycRL_96 yzyX11_thrown rfl (wsB := tl ++ (w' ++ [(q, .inl (zcA X 5, 1, .inr (.inl f')))])) rfl (ci := 10) rfl rfl rfl (Nat.le_of_ble_eq_true rfl) (by omega) (by omega) (by omega) (by omega) fun v w3 hB3 => ?_
  obtain ⟨rfl, rfl⟩ := hB3
  refine zn_iload F (i := 5) (k := 1) dL_law_1195 rfl ?_
  refine zn_icmp_eq F (tgt := 1202) dL_law_1197 (by decide) (fun _ => ?_) (fun z => absurd rfl z)
  refine zn_iload F (i := 5) (k := 1) dL_law_1202 rfl ?_
  have kj : ∀ (wz : va_W), zN X mc ms fr lo B 9 1219 [(6, .int b), (5, .int k), (4, .int 0), (3, .ref q), (2, .ref h0), (1, .ref (ad1 (0, 0, 0))), (0, .ref b0)] [] wz (200 + mcc + mcr + 0) (2000 + msc + msr + 0) := fun wz => zn_goto F (tgt := 1730) dL_law_1219 (by decide) (zn_pick [2, 6] rfl (zn_sub [] (ws' := []) rfl rfl (zn_wid (by omega) (by omega) T)))
  refine zn_if_ne F (tgt := 1219) dL_law_1204 (by decide) (fun _ => kj _) (fun hk => ?_)
  refine zn_ws (ws' := ([(h0, .inr (10, [.int k, .ref s]))] ++ (tl ++ w')) ++ [(q, .inl (zcA X 5, 1, .inr (.inl f')))]) (by simp only [List.append_assoc, List.cons_append, List.nil_append]) ?_
  refine zn_aload_n F (i := 3) (k := 3) dL_law_1207 rfl rfl ?_
  refine zn_iconst F (v := 0) dL_law_1208 (by decide) ?_
  refine zn_laldE F dL_law_1209 (by decide) rfl (zvi (by decide)) (jn := 0) (by decide) (h0b hk) ?_
  refine zn_iload F (i := 6) (k := 0) dL_law_1210 rfl ?_
  refine zn_i2l F dL_law_1212 ?_
  refine zn_lcmp F dL_law_1213 ?_
  exact zn_if_eq F (tgt := 1219) dL_law_1214 (by decide) (fun _ => kj _) (fun z => absurd ((lg_cmp_eq _ _).mpr rfl) z)

set_option maxHeartbeats 4000000 in
set_option maxRecDepth 20000 in
theorem zlc_wake {X : zX} (F : zLr X cL_law 9 RL) {b0 q h0 mc ms fr lo : Nat} {xs : Nat → Int32} {B : State → Prop} (f : Nat → Int64) (ad1 : zR → Nat) (l : List Nat) (hX : zScr X b0 7 xs) (hr : 12 ≤ fr ∧ 440 ≤ lo ∧ 1000 ≤ mc ∧ 5000 ≤ ms) (T : zN X mc ms fr lo B 9 1730 [(4, .int 0), (0, .ref b0)] [] [] 1000 5000) : zN X mc ms fr lo B 9 1222 [(4, .int 0), (3, .ref q), (2, .ref h0), (1, .ref (ad1 (0, 0, 0))), (0, .ref b0)] [] (zwl (zcA X) ad1 [(2, [1, 2, 3]), (0, []), (0, []), (1, [])] [zm0, zfr0, zfr0, zm0] ++ [(q, .inl (zcA X 5, 1, .inr (.inl f)))] ++ zwl (zcA X) (zadM h0 l) [(4, [1]), (3, [])] [zm0, zfr3]) 200 2000 := by
  obtain ⟨k, b, mcc, msc, BL, fb, lb, mcr, msr, BR, ⟨n1, n2, n3, n4, n5, n6⟩, hL, hBL, hR, hBR⟩ := zag_wake ((xs 1)) ((xs 2)) q f ad1 h0 l
  refine zn_aload_n F (i := 1) (k := 3) dL_law_1222 rfl rfl ?_
  refine zn_aload_n F (i := 0) (k := 4) dL_law_1223 rfl rfl ?_
  refine zn_iload F (i := 4) (k := 0) dL_law_1224 rfl ?_
  refine zn_iconst F (v := 1) dL_law_1226 (by decide) ?_
  refine zn_iaddv F (v := 1) dL_law_1227 (by decide) ?_
  refine zn_sld F hX (jn := 1) dL_law_1228 (zvi (by decide)) (by decide) ?_
  refine zn_aload_n F (i := 0) (k := 4) dL_law_1229 rfl rfl ?_
  refine zn_iload F (i := 4) (k := 0) dL_law_1230 rfl ?_
  refine zn_iconst F (v := 2) dL_law_1232 (by decide) ?_
  refine zn_iaddv F (v := 2) dL_law_1233 (by decide) ?_
  refine zn_sld F hX (jn := 2) dL_law_1234 (zvi (by decide)) (by decide) ?_
  refine zn_aload_n F (i := 3) (k := 1) dL_law_1235 rfl rfl ?_
  refine zn_callW F (as := .ref (ad1 (0, 0, 0)) :: ([.int (xs 1), .int (xs 2)] ++ [.ref q])) (st := []) hL dL_law_1236 ycRL_146 yyyL_wake rfl (wsB := zwl (zcA X) (zadM h0 l) [(4, [1]), (3, [])] [zm0, zfr3]) rfl rfl (Nat.le_of_ble_eq_true rfl) (Nat.le_trans (Nat.le_of_ble_eq_true rfl) hr.1) (Nat.le_trans (Nat.le_of_ble_eq_true rfl) hr.2.1) (by omega) (by omega) fun v w1 hB => ?_
  obtain ⟨rfl, w', f', rfl, h0b⟩ := hBL _ _ _ hB
  refine zn_istore F (i := 5) (lv' := [(5, .int k), (4, .int 0), (3, .ref q), (2, .ref h0), (1, .ref (ad1 (0, 0, 0))), (0, .ref b0)]) dL_law_1239 (by decide) rfl ?_
  refine zn_aload_n F (i := 2) (k := 3) dL_law_1241 rfl rfl ?_
  refine zn_aload_n F (i := 0) (k := 5) dL_law_1242 rfl rfl ?_
  refine zn_iload F (i := 4) (k := 1) dL_law_1243 rfl ?_
  refine zn_iconst F (v := 1) dL_law_1245 (by decide) ?_
  refine zn_iaddv F (v := 1) dL_law_1246 (by decide) ?_
  refine zn_sld F hX (jn := 1) dL_law_1247 (zvi (by decide)) (by decide) ?_
  refine zn_aload_n F (i := 0) (k := 5) dL_law_1248 rfl rfl ?_
  refine zn_iload F (i := 4) (k := 1) dL_law_1249 rfl ?_
  refine zn_iconst F (v := 2) dL_law_1251 (by decide) ?_
  refine zn_iaddv F (v := 2) dL_law_1252 (by decide) ?_
  refine zn_sld F hX (jn := 2) dL_law_1253 (zvi (by decide)) (by decide) ?_
  refine zn_perm List.perm_append_comm ?_
  refine zn_callV F (as := [.int (xs 1), .int (xs 2)]) (st := []) (j0 := 0) hR dL_law_1254 ycRL_148 yzyX11_wake rfl (wsB := w' ++ [(q, .inl (zcA X 5, 1, .inr (.inl f')))]) rfl (ci := 10) rfl rfl rfl (Nat.le_of_ble_eq_true rfl) (by omega) (by omega) (by omega) (by omega) fun v w2 hB2 => ?_
  obtain ⟨rfl, s, tl, rfl⟩ := hBR _ _ _ hB2
  refine zn_istore F (i := 6) (lv' := [(6, .int b), (5, .int k), (4, .int 0), (3, .ref q), (2, .ref h0), (1, .ref (ad1 (0, 0, 0))), (0, .ref b0)]) dL_law_1257 (by decide) rfl ?_
  refine zn_aload_n F (i := 2) (k := 4) dL_law_1259 rfl rfl ?_
  refine zn_callV F (as := []) (st := []) (j0 := 0) (zrM_thrown h0 k s) dL_law_1260 ycRL_96 yzyX11_thrown rfl (wsB := tl ++ (w' ++ [(q, .inl (zcA X 5, 1, .inr (.inl f')))])) rfl (ci := 10) rfl rfl rfl (Nat.le_of_ble_eq_true rfl) (by omega) (by omega) (by omega) (by omega) fun v w3 hB3 => ?_
  obtain ⟨rfl, rfl⟩ := hB3
  refine zn_iload F (i := 5) (k := 1) dL_law_1263 rfl ?_
  refine zn_icmp_eq F (tgt := 1270) dL_law_1265 (by decide) (fun _ => ?_) (fun z => absurd rfl z)
  refine zn_iload F (i := 5) (k := 1) dL_law_1270 rfl ?_
  have kj : ∀ (wz : va_W), zN X mc ms fr lo B 9 1287 [(6, .int b), (5, .int k), (4, .int 0), (3, .ref q), (2, .ref h0), (1, .ref (ad1 (0, 0, 0))), (0, .ref b0)] [] wz (200 + mcc + mcr + 0) (2000 + msc + msr + 0) := fun wz => zn_goto F (tgt := 1730) dL_law_1287 (by decide) (zn_pick [2, 6] rfl (zn_sub [] (ws' := []) rfl rfl (zn_wid (by omega) (by omega) T)))
  refine zn_if_ne F (tgt := 1287) dL_law_1272 (by decide) (fun _ => kj _) (fun hk => ?_)
  refine zn_ws (ws' := ([(h0, .inr (10, [.int k, .ref s]))] ++ (tl ++ w')) ++ [(q, .inl (zcA X 5, 1, .inr (.inl f')))]) (by simp only [List.append_assoc, List.cons_append, List.nil_append]) ?_
  refine zn_aload_n F (i := 3) (k := 3) dL_law_1275 rfl rfl ?_
  refine zn_iconst F (v := 0) dL_law_1276 (by decide) ?_
  refine zn_laldE F dL_law_1277 (by decide) rfl (zvi (by decide)) (jn := 0) (by decide) (h0b hk) ?_
  refine zn_iload F (i := 6) (k := 0) dL_law_1278 rfl ?_
  refine zn_i2l F dL_law_1280 ?_
  refine zn_lcmp F dL_law_1281 ?_
  exact zn_if_eq F (tgt := 1287) dL_law_1282 (by decide) (fun _ => kj _) (fun z => absurd ((lg_cmp_eq _ _).mpr rfl) z)

set_option maxHeartbeats 4000000 in
set_option maxRecDepth 20000 in
theorem zlc_extreme {X : zX} (F : zLr X cL_law 9 RL) {b0 q h0 mc ms fr lo : Nat} {xs : Nat → Int32} {B : State → Prop} (f : Nat → Int64) (ad1 : zR → Nat) (l : List Nat) (hX : zScr X b0 7 xs) (hr : 12 ≤ fr ∧ 440 ≤ lo ∧ 1000 ≤ mc ∧ 5000 ≤ ms) (T : zN X mc ms fr lo B 9 1730 [(4, .int 0), (0, .ref b0)] [] [] 1000 5000) : zN X mc ms fr lo B 9 1290 [(4, .int 0), (3, .ref q), (2, .ref h0), (1, .ref (ad1 (0, 0, 0))), (0, .ref b0)] [] (zwl (zcA X) ad1 [(2, [1, 2, 3]), (0, []), (0, []), (1, [])] [zm0, zfr0, zfr0, zm0] ++ [(q, .inl (zcA X 5, 1, .inr (.inl f)))] ++ zwl (zcA X) (zadM h0 l) [(4, [1]), (3, [])] [zm0, zfr3]) 200 2000 := by
  obtain ⟨k, b, mcc, msc, BL, fb, lb, mcr, msr, BR, ⟨n1, n2, n3, n4, n5, n6⟩, hL, hBL, hR, hBR⟩ := zag_extreme ((xs 1)) ((xs 2)) q f ad1 h0 l
  refine zn_aload_n F (i := 1) (k := 3) dL_law_1290 rfl rfl ?_
  refine zn_aload_n F (i := 0) (k := 4) dL_law_1291 rfl rfl ?_
  refine zn_iload F (i := 4) (k := 0) dL_law_1292 rfl ?_
  refine zn_iconst F (v := 1) dL_law_1294 (by decide) ?_
  refine zn_iaddv F (v := 1) dL_law_1295 (by decide) ?_
  refine zn_sld F hX (jn := 1) dL_law_1296 (zvi (by decide)) (by decide) ?_
  refine zn_aload_n F (i := 0) (k := 4) dL_law_1297 rfl rfl ?_
  refine zn_iload F (i := 4) (k := 0) dL_law_1298 rfl ?_
  refine zn_iconst F (v := 2) dL_law_1300 (by decide) ?_
  refine zn_iaddv F (v := 2) dL_law_1301 (by decide) ?_
  refine zn_sld F hX (jn := 2) dL_law_1302 (zvi (by decide)) (by decide) ?_
  refine zn_aload_n F (i := 3) (k := 1) dL_law_1303 rfl rfl ?_
  refine zn_callW F (as := .ref (ad1 (0, 0, 0)) :: ([.int (xs 1), .int (xs 2)] ++ [.ref q])) (st := []) hL dL_law_1304 ycRL_149 yyyL_extreme rfl (wsB := zwl (zcA X) (zadM h0 l) [(4, [1]), (3, [])] [zm0, zfr3]) rfl rfl (Nat.le_of_ble_eq_true rfl) (Nat.le_trans (Nat.le_of_ble_eq_true rfl) hr.1) (Nat.le_trans (Nat.le_of_ble_eq_true rfl) hr.2.1) (by omega) (by omega) fun v w1 hB => ?_
  obtain ⟨rfl, w', f', rfl, h0b⟩ := hBL _ _ _ hB
  refine zn_istore F (i := 5) (lv' := [(5, .int k), (4, .int 0), (3, .ref q), (2, .ref h0), (1, .ref (ad1 (0, 0, 0))), (0, .ref b0)]) dL_law_1307 (by decide) rfl ?_
  refine zn_aload_n F (i := 2) (k := 3) dL_law_1309 rfl rfl ?_
  refine zn_aload_n F (i := 0) (k := 5) dL_law_1310 rfl rfl ?_
  refine zn_iload F (i := 4) (k := 1) dL_law_1311 rfl ?_
  refine zn_iconst F (v := 1) dL_law_1313 (by decide) ?_
  refine zn_iaddv F (v := 1) dL_law_1314 (by decide) ?_
  refine zn_sld F hX (jn := 1) dL_law_1315 (zvi (by decide)) (by decide) ?_
  refine zn_aload_n F (i := 0) (k := 5) dL_law_1316 rfl rfl ?_
  refine zn_iload F (i := 4) (k := 1) dL_law_1317 rfl ?_
  refine zn_iconst F (v := 2) dL_law_1319 (by decide) ?_
  refine zn_iaddv F (v := 2) dL_law_1320 (by decide) ?_
  refine zn_sld F hX (jn := 2) dL_law_1321 (zvi (by decide)) (by decide) ?_
  refine zn_perm List.perm_append_comm ?_
  refine zn_callV F (as := [.int (xs 1), .int (xs 2)]) (st := []) (j0 := 0) hR dL_law_1322 ycRL_151 yzyX11_extreme rfl (wsB := w' ++ [(q, .inl (zcA X 5, 1, .inr (.inl f')))]) rfl (ci := 10) rfl rfl rfl (Nat.le_of_ble_eq_true rfl) (by omega) (by omega) (by omega) (by omega) fun v w2 hB2 => ?_
  obtain ⟨rfl, s, tl, rfl⟩ := hBR _ _ _ hB2
  refine zn_istore F (i := 6) (lv' := [(6, .int b), (5, .int k), (4, .int 0), (3, .ref q), (2, .ref h0), (1, .ref (ad1 (0, 0, 0))), (0, .ref b0)]) dL_law_1325 (by decide) rfl ?_
  refine zn_aload_n F (i := 2) (k := 4) dL_law_1327 rfl rfl ?_
  refine zn_callV F (as := []) (st := []) (j0 := 0) (zrM_thrown h0 k s) dL_law_1328 ycRL_96 yzyX11_thrown rfl (wsB := tl ++ (w' ++ [(q, .inl (zcA X 5, 1, .inr (.inl f')))])) rfl (ci := 10) rfl rfl rfl (Nat.le_of_ble_eq_true rfl) (by omega) (by omega) (by omega) (by omega) fun v w3 hB3 => ?_
  obtain ⟨rfl, rfl⟩ := hB3
  refine zn_iload F (i := 5) (k := 1) dL_law_1331 rfl ?_
  refine zn_icmp_eq F (tgt := 1338) dL_law_1333 (by decide) (fun _ => ?_) (fun z => absurd rfl z)
  refine zn_iload F (i := 5) (k := 1) dL_law_1338 rfl ?_
  have kj : ∀ (wz : va_W), zN X mc ms fr lo B 9 1355 [(6, .int b), (5, .int k), (4, .int 0), (3, .ref q), (2, .ref h0), (1, .ref (ad1 (0, 0, 0))), (0, .ref b0)] [] wz (200 + mcc + mcr + 0) (2000 + msc + msr + 0) := fun wz => zn_goto F (tgt := 1730) dL_law_1355 (by decide) (zn_pick [2, 6] rfl (zn_sub [] (ws' := []) rfl rfl (zn_wid (by omega) (by omega) T)))
  refine zn_if_ne F (tgt := 1355) dL_law_1340 (by decide) (fun _ => kj _) (fun hk => ?_)
  refine zn_ws (ws' := ([(h0, .inr (10, [.int k, .ref s]))] ++ (tl ++ w')) ++ [(q, .inl (zcA X 5, 1, .inr (.inl f')))]) (by simp only [List.append_assoc, List.cons_append, List.nil_append]) ?_
  refine zn_aload_n F (i := 3) (k := 3) dL_law_1343 rfl rfl ?_
  refine zn_iconst F (v := 0) dL_law_1344 (by decide) ?_
  refine zn_laldE F dL_law_1345 (by decide) rfl (zvi (by decide)) (jn := 0) (by decide) (h0b hk) ?_
  refine zn_iload F (i := 6) (k := 0) dL_law_1346 rfl ?_
  refine zn_i2l F dL_law_1348 ?_
  refine zn_lcmp F dL_law_1349 ?_
  exact zn_if_eq F (tgt := 1355) dL_law_1350 (by decide) (fun _ => kj _) (fun z => absurd ((lg_cmp_eq _ _).mpr rfl) z)

set_option maxHeartbeats 4000000 in
set_option maxRecDepth 20000 in
theorem zlc_ofString {X : zX} (F : zLr X cL_law 9 RL) {b0 q h0 mc ms fr lo : Nat} {xs : Nat → Int32} {B : State → Prop} (f : Nat → Int64) (ad1 : zR → Nat) (l : List Nat) (hX : zScr X b0 7 xs) (hr : 12 ≤ fr ∧ 440 ≤ lo ∧ 1000 ≤ mc ∧ 5000 ≤ ms) (T : zN X mc ms fr lo B 9 1730 [(4, .int 0), (0, .ref b0)] [] [] 1000 5000) : zN X mc ms fr lo B 9 1358 [(4, .int 0), (3, .ref q), (2, .ref h0), (1, .ref (ad1 (0, 0, 0))), (0, .ref b0)] [] (zwl (zcA X) ad1 [(2, [1, 2, 3]), (0, []), (0, []), (1, [])] [zm0, zfr0, zfr0, zm0] ++ [(q, .inl (zcA X 5, 1, .inr (.inl f)))] ++ zwl (zcA X) (zadM h0 l) [(4, [1]), (3, [])] [zm0, zfr3]) 200 2000 := by
  obtain ⟨k, b, mcc, msc, BL, fb, lb, mcr, msr, BR, ⟨n1, n2, n3, n4, n5, n6⟩, hL, hBL, hR, hBR⟩ := zag_ofString ((xs 1)) ((xs 2)) q f ad1 h0 l
  refine zn_aload_n F (i := 1) (k := 3) dL_law_1358 rfl rfl ?_
  refine zn_aload_n F (i := 0) (k := 4) dL_law_1359 rfl rfl ?_
  refine zn_iload F (i := 4) (k := 0) dL_law_1360 rfl ?_
  refine zn_iconst F (v := 1) dL_law_1362 (by decide) ?_
  refine zn_iaddv F (v := 1) dL_law_1363 (by decide) ?_
  refine zn_sld F hX (jn := 1) dL_law_1364 (zvi (by decide)) (by decide) ?_
  refine zn_aload_n F (i := 0) (k := 4) dL_law_1365 rfl rfl ?_
  refine zn_iload F (i := 4) (k := 0) dL_law_1366 rfl ?_
  refine zn_iconst F (v := 2) dL_law_1368 (by decide) ?_
  refine zn_iaddv F (v := 2) dL_law_1369 (by decide) ?_
  refine zn_sld F hX (jn := 2) dL_law_1370 (zvi (by decide)) (by decide) ?_
  refine zn_aload_n F (i := 3) (k := 1) dL_law_1371 rfl rfl ?_
  refine zn_callW F (as := .ref (ad1 (0, 0, 0)) :: ([.int (xs 1), .int (xs 2)] ++ [.ref q])) (st := []) hL dL_law_1372 ycRL_152 yyyL_ofString rfl (wsB := zwl (zcA X) (zadM h0 l) [(4, [1]), (3, [])] [zm0, zfr3]) rfl rfl (Nat.le_of_ble_eq_true rfl) (Nat.le_trans (Nat.le_of_ble_eq_true rfl) hr.1) (Nat.le_trans (Nat.le_of_ble_eq_true rfl) hr.2.1) (by omega) (by omega) fun v w1 hB => ?_
  obtain ⟨rfl, w', f', rfl, h0b⟩ := hBL _ _ _ hB
  refine zn_istore F (i := 5) (lv' := [(5, .int k), (4, .int 0), (3, .ref q), (2, .ref h0), (1, .ref (ad1 (0, 0, 0))), (0, .ref b0)]) dL_law_1375 (by decide) rfl ?_
  refine zn_aload_n F (i := 2) (k := 3) dL_law_1377 rfl rfl ?_
  refine zn_aload_n F (i := 0) (k := 5) dL_law_1378 rfl rfl ?_
  refine zn_iload F (i := 4) (k := 1) dL_law_1379 rfl ?_
  refine zn_iconst F (v := 1) dL_law_1381 (by decide) ?_
  refine zn_iaddv F (v := 1) dL_law_1382 (by decide) ?_
  refine zn_sld F hX (jn := 1) dL_law_1383 (zvi (by decide)) (by decide) ?_
  refine zn_aload_n F (i := 0) (k := 5) dL_law_1384 rfl rfl ?_
  refine zn_iload F (i := 4) (k := 1) dL_law_1385 rfl ?_
  refine zn_iconst F (v := 2) dL_law_1387 (by decide) ?_
  refine zn_iaddv F (v := 2) dL_law_1388 (by decide) ?_
  refine zn_sld F hX (jn := 2) dL_law_1389 (zvi (by decide)) (by decide) ?_
  refine zn_perm List.perm_append_comm ?_
  refine zn_callV F (as := [.int (xs 1), .int (xs 2)]) (st := []) (j0 := 0) hR dL_law_1390 ycRL_154 yzyX11_ofString rfl (wsB := w' ++ [(q, .inl (zcA X 5, 1, .inr (.inl f')))]) rfl (ci := 10) rfl rfl rfl (Nat.le_of_ble_eq_true rfl) (by omega) (by omega) (by omega) (by omega) fun v w2 hB2 => ?_
  obtain ⟨rfl, s, tl, rfl⟩ := hBR _ _ _ hB2
  refine zn_istore F (i := 6) (lv' := [(6, .int b), (5, .int k), (4, .int 0), (3, .ref q), (2, .ref h0), (1, .ref (ad1 (0, 0, 0))), (0, .ref b0)]) dL_law_1393 (by decide) rfl ?_
  refine zn_aload_n F (i := 2) (k := 4) dL_law_1395 rfl rfl ?_
  refine zn_callV F (as := []) (st := []) (j0 := 0) (zrM_thrown h0 k s) dL_law_1396 ycRL_96 yzyX11_thrown rfl (wsB := tl ++ (w' ++ [(q, .inl (zcA X 5, 1, .inr (.inl f')))])) rfl (ci := 10) rfl rfl rfl (Nat.le_of_ble_eq_true rfl) (by omega) (by omega) (by omega) (by omega) fun v w3 hB3 => ?_
  obtain ⟨rfl, rfl⟩ := hB3
  refine zn_iload F (i := 5) (k := 1) dL_law_1399 rfl ?_
  refine zn_icmp_eq F (tgt := 1406) dL_law_1401 (by decide) (fun _ => ?_) (fun z => absurd rfl z)
  refine zn_iload F (i := 5) (k := 1) dL_law_1406 rfl ?_
  have kj : ∀ (wz : va_W), zN X mc ms fr lo B 9 1423 [(6, .int b), (5, .int k), (4, .int 0), (3, .ref q), (2, .ref h0), (1, .ref (ad1 (0, 0, 0))), (0, .ref b0)] [] wz (200 + mcc + mcr + 0) (2000 + msc + msr + 0) := fun wz => zn_goto F (tgt := 1730) dL_law_1423 (by decide) (zn_pick [2, 6] rfl (zn_sub [] (ws' := []) rfl rfl (zn_wid (by omega) (by omega) T)))
  refine zn_if_ne F (tgt := 1423) dL_law_1408 (by decide) (fun _ => kj _) (fun hk => ?_)
  refine zn_ws (ws' := ([(h0, .inr (10, [.int k, .ref s]))] ++ (tl ++ w')) ++ [(q, .inl (zcA X 5, 1, .inr (.inl f')))]) (by simp only [List.append_assoc, List.cons_append, List.nil_append]) ?_
  refine zn_aload_n F (i := 3) (k := 3) dL_law_1411 rfl rfl ?_
  refine zn_iconst F (v := 0) dL_law_1412 (by decide) ?_
  refine zn_laldE F dL_law_1413 (by decide) rfl (zvi (by decide)) (jn := 0) (by decide) (h0b hk) ?_
  refine zn_iload F (i := 6) (k := 0) dL_law_1414 rfl ?_
  refine zn_i2l F dL_law_1416 ?_
  refine zn_lcmp F dL_law_1417 ?_
  exact zn_if_eq F (tgt := 1423) dL_law_1418 (by decide) (fun _ => kj _) (fun z => absurd ((lg_cmp_eq _ _).mpr rfl) z)

set_option maxHeartbeats 4000000 in
set_option maxRecDepth 20000 in
theorem zlc_ofVessel {X : zX} (F : zLr X cL_law 9 RL) {b0 q h0 mc ms fr lo : Nat} {xs : Nat → Int32} {B : State → Prop} (f : Nat → Int64) (ad1 : zR → Nat) (l : List Nat) (hX : zScr X b0 7 xs) (hr : 12 ≤ fr ∧ 440 ≤ lo ∧ 1000 ≤ mc ∧ 5000 ≤ ms) (T : zN X mc ms fr lo B 9 1730 [(4, .int 0), (0, .ref b0)] [] [] 1000 5000) : zN X mc ms fr lo B 9 1426 [(4, .int 0), (3, .ref q), (2, .ref h0), (1, .ref (ad1 (0, 0, 0))), (0, .ref b0)] [] (zwl (zcA X) ad1 [(2, [1, 2, 3]), (0, []), (0, []), (1, [])] [zm0, zfr0, zfr0, zm0] ++ [(q, .inl (zcA X 5, 1, .inr (.inl f)))] ++ zwl (zcA X) (zadM h0 l) [(4, [1]), (3, [])] [zm0, zfr3]) 200 2000 := by
  obtain ⟨k, b, mcc, msc, BL, fb, lb, mcr, msr, BR, ⟨n1, n2, n3, n4, n5, n6⟩, hL, hBL, hR, hBR⟩ := zag_ofVessel ((xs 1)) ((xs 2)) q f ad1 h0 l
  refine zn_aload_n F (i := 1) (k := 3) dL_law_1426 rfl rfl ?_
  refine zn_aload_n F (i := 0) (k := 4) dL_law_1427 rfl rfl ?_
  refine zn_iload F (i := 4) (k := 0) dL_law_1428 rfl ?_
  refine zn_iconst F (v := 1) dL_law_1430 (by decide) ?_
  refine zn_iaddv F (v := 1) dL_law_1431 (by decide) ?_
  refine zn_sld F hX (jn := 1) dL_law_1432 (zvi (by decide)) (by decide) ?_
  refine zn_aload_n F (i := 0) (k := 4) dL_law_1433 rfl rfl ?_
  refine zn_iload F (i := 4) (k := 0) dL_law_1434 rfl ?_
  refine zn_iconst F (v := 2) dL_law_1436 (by decide) ?_
  refine zn_iaddv F (v := 2) dL_law_1437 (by decide) ?_
  refine zn_sld F hX (jn := 2) dL_law_1438 (zvi (by decide)) (by decide) ?_
  refine zn_aload_n F (i := 3) (k := 1) dL_law_1439 rfl rfl ?_
  refine zn_callW F (as := .ref (ad1 (0, 0, 0)) :: ([.int (xs 1), .int (xs 2)] ++ [.ref q])) (st := []) hL dL_law_1440 ycRL_155 yyyL_ofVessel rfl (wsB := zwl (zcA X) (zadM h0 l) [(4, [1]), (3, [])] [zm0, zfr3]) rfl rfl (Nat.le_of_ble_eq_true rfl) (Nat.le_trans (Nat.le_of_ble_eq_true rfl) hr.1) (Nat.le_trans (Nat.le_of_ble_eq_true rfl) hr.2.1) (by omega) (by omega) fun v w1 hB => ?_
  obtain ⟨rfl, w', f', rfl, h0b⟩ := hBL _ _ _ hB
  refine zn_istore F (i := 5) (lv' := [(5, .int k), (4, .int 0), (3, .ref q), (2, .ref h0), (1, .ref (ad1 (0, 0, 0))), (0, .ref b0)]) dL_law_1443 (by decide) rfl ?_
  refine zn_aload_n F (i := 2) (k := 3) dL_law_1445 rfl rfl ?_
  refine zn_aload_n F (i := 0) (k := 5) dL_law_1446 rfl rfl ?_
  refine zn_iload F (i := 4) (k := 1) dL_law_1447 rfl ?_
  refine zn_iconst F (v := 1) dL_law_1449 (by decide) ?_
  refine zn_iaddv F (v := 1) dL_law_1450 (by decide) ?_
  refine zn_sld F hX (jn := 1) dL_law_1451 (zvi (by decide)) (by decide) ?_
  refine zn_aload_n F (i := 0) (k := 5) dL_law_1452 rfl rfl ?_
  refine zn_iload F (i := 4) (k := 1) dL_law_1453 rfl ?_
  refine zn_iconst F (v := 2) dL_law_1455 (by decide) ?_
  refine zn_iaddv F (v := 2) dL_law_1456 (by decide) ?_
  refine zn_sld F hX (jn := 2) dL_law_1457 (zvi (by decide)) (by decide) ?_
  refine zn_perm List.perm_append_comm ?_
  refine zn_callV F (as := [.int (xs 1), .int (xs 2)]) (st := []) (j0 := 0) hR dL_law_1458 ycRL_157 yzyX11_ofVessel rfl (wsB := w' ++ [(q, .inl (zcA X 5, 1, .inr (.inl f')))]) rfl (ci := 10) rfl rfl rfl (Nat.le_of_ble_eq_true rfl) (by omega) (by omega) (by omega) (by omega) fun v w2 hB2 => ?_
  obtain ⟨rfl, s, tl, rfl⟩ := hBR _ _ _ hB2
  refine zn_istore F (i := 6) (lv' := [(6, .int b), (5, .int k), (4, .int 0), (3, .ref q), (2, .ref h0), (1, .ref (ad1 (0, 0, 0))), (0, .ref b0)]) dL_law_1461 (by decide) rfl ?_
  refine zn_aload_n F (i := 2) (k := 4) dL_law_1463 rfl rfl ?_
  refine zn_callV F (as := []) (st := []) (j0 := 0) (zrM_thrown h0 k s) dL_law_1464 ycRL_96 yzyX11_thrown rfl (wsB := tl ++ (w' ++ [(q, .inl (zcA X 5, 1, .inr (.inl f')))])) rfl (ci := 10) rfl rfl rfl (Nat.le_of_ble_eq_true rfl) (by omega) (by omega) (by omega) (by omega) fun v w3 hB3 => ?_
  obtain ⟨rfl, rfl⟩ := hB3
  refine zn_iload F (i := 5) (k := 1) dL_law_1467 rfl ?_
  refine zn_icmp_eq F (tgt := 1474) dL_law_1469 (by decide) (fun _ => ?_) (fun z => absurd rfl z)
  refine zn_iload F (i := 5) (k := 1) dL_law_1474 rfl ?_
  have kj : ∀ (wz : va_W), zN X mc ms fr lo B 9 1491 [(6, .int b), (5, .int k), (4, .int 0), (3, .ref q), (2, .ref h0), (1, .ref (ad1 (0, 0, 0))), (0, .ref b0)] [] wz (200 + mcc + mcr + 0) (2000 + msc + msr + 0) := fun wz => zn_goto F (tgt := 1730) dL_law_1491 (by decide) (zn_pick [2, 6] rfl (zn_sub [] (ws' := []) rfl rfl (zn_wid (by omega) (by omega) T)))
  refine zn_if_ne F (tgt := 1491) dL_law_1476 (by decide) (fun _ => kj _) (fun hk => ?_)
  refine zn_ws (ws' := ([(h0, .inr (10, [.int k, .ref s]))] ++ (tl ++ w')) ++ [(q, .inl (zcA X 5, 1, .inr (.inl f')))]) (by simp only [List.append_assoc, List.cons_append, List.nil_append]) ?_
  refine zn_aload_n F (i := 3) (k := 3) dL_law_1479 rfl rfl ?_
  refine zn_iconst F (v := 0) dL_law_1480 (by decide) ?_
  refine zn_laldE F dL_law_1481 (by decide) rfl (zvi (by decide)) (jn := 0) (by decide) (h0b hk) ?_
  refine zn_iload F (i := 6) (k := 0) dL_law_1482 rfl ?_
  refine zn_i2l F dL_law_1484 ?_
  refine zn_lcmp F dL_law_1485 ?_
  exact zn_if_eq F (tgt := 1491) dL_law_1486 (by decide) (fun _ => kj _) (fun z => absurd ((lg_cmp_eq _ _).mpr rfl) z)

set_option maxHeartbeats 4000000 in
set_option maxRecDepth 20000 in
theorem zlc_many {X : zX} (F : zLr X cL_law 9 RL) {b0 q h0 mc ms fr lo : Nat} {xs : Nat → Int32} {B : State → Prop} (f : Nat → Int64) (ad1 : zR → Nat) (l : List Nat) (hX : zScr X b0 7 xs) (hr : 12 ≤ fr ∧ 440 ≤ lo ∧ 1000 ≤ mc ∧ 5000 ≤ ms) (T : zN X mc ms fr lo B 9 1730 [(4, .int 0), (0, .ref b0)] [] [] 1000 5000) : zN X mc ms fr lo B 9 1494 [(4, .int 0), (3, .ref q), (2, .ref h0), (1, .ref (ad1 (0, 0, 0))), (0, .ref b0)] [] (zwl (zcA X) ad1 [(2, [1, 2, 3]), (0, []), (0, []), (1, [])] [zm0, zfr0, zfr0, zm0] ++ [(q, .inl (zcA X 5, 1, .inr (.inl f)))] ++ zwl (zcA X) (zadM h0 l) [(4, [1]), (3, [])] [zm0, zfr3]) 200 2000 := by
  obtain ⟨k, b, mcc, msc, BL, fb, lb, mcr, msr, BR, ⟨n1, n2, n3, n4, n5, n6⟩, hL, hBL, hR, hBR⟩ := zag_many ((xs 1)) q f ad1 h0 l
  refine zn_aload_n F (i := 1) (k := 3) dL_law_1494 rfl rfl ?_
  refine zn_aload_n F (i := 0) (k := 4) dL_law_1495 rfl rfl ?_
  refine zn_iload F (i := 4) (k := 0) dL_law_1496 rfl ?_
  refine zn_iconst F (v := 1) dL_law_1498 (by decide) ?_
  refine zn_iaddv F (v := 1) dL_law_1499 (by decide) ?_
  refine zn_sld F hX (jn := 1) dL_law_1500 (zvi (by decide)) (by decide) ?_
  refine zn_aload_n F (i := 3) (k := 1) dL_law_1501 rfl rfl ?_
  refine zn_callW F (as := .ref (ad1 (0, 0, 0)) :: ([.int (xs 1)] ++ [.ref q])) (st := []) hL dL_law_1502 ycRL_158 yyyL_many rfl (wsB := zwl (zcA X) (zadM h0 l) [(4, [1]), (3, [])] [zm0, zfr3]) rfl rfl (Nat.le_of_ble_eq_true rfl) (Nat.le_trans (Nat.le_of_ble_eq_true rfl) hr.1) (Nat.le_trans (Nat.le_of_ble_eq_true rfl) hr.2.1) (by omega) (by omega) fun v w1 hB => ?_
  obtain ⟨rfl, w', f', rfl, h0b⟩ := hBL _ _ _ hB
  refine zn_istore F (i := 5) (lv' := [(5, .int k), (4, .int 0), (3, .ref q), (2, .ref h0), (1, .ref (ad1 (0, 0, 0))), (0, .ref b0)]) dL_law_1505 (by decide) rfl ?_
  refine zn_aload_n F (i := 2) (k := 3) dL_law_1507 rfl rfl ?_
  refine zn_aload_n F (i := 0) (k := 5) dL_law_1508 rfl rfl ?_
  refine zn_iload F (i := 4) (k := 1) dL_law_1509 rfl ?_
  refine zn_iconst F (v := 1) dL_law_1511 (by decide) ?_
  refine zn_iaddv F (v := 1) dL_law_1512 (by decide) ?_
  refine zn_sld F hX (jn := 1) dL_law_1513 (zvi (by decide)) (by decide) ?_
  refine zn_perm List.perm_append_comm ?_
  refine zn_callV F (as := [.int (xs 1)]) (st := []) (j0 := 0) hR dL_law_1514 ycRL_160 yzyX11_many rfl (wsB := w' ++ [(q, .inl (zcA X 5, 1, .inr (.inl f')))]) rfl (ci := 10) rfl rfl rfl (Nat.le_of_ble_eq_true rfl) (by omega) (by omega) (by omega) (by omega) fun v w2 hB2 => ?_
  obtain ⟨rfl, s, tl, rfl⟩ := hBR _ _ _ hB2
  refine zn_istore F (i := 6) (lv' := [(6, .int b), (5, .int k), (4, .int 0), (3, .ref q), (2, .ref h0), (1, .ref (ad1 (0, 0, 0))), (0, .ref b0)]) dL_law_1517 (by decide) rfl ?_
  refine zn_aload_n F (i := 2) (k := 4) dL_law_1519 rfl rfl ?_
  refine zn_callV F (as := []) (st := []) (j0 := 0) (zrM_thrown h0 k s) dL_law_1520 ycRL_96 yzyX11_thrown rfl (wsB := tl ++ (w' ++ [(q, .inl (zcA X 5, 1, .inr (.inl f')))])) rfl (ci := 10) rfl rfl rfl (Nat.le_of_ble_eq_true rfl) (by omega) (by omega) (by omega) (by omega) fun v w3 hB3 => ?_
  obtain ⟨rfl, rfl⟩ := hB3
  refine zn_iload F (i := 5) (k := 1) dL_law_1523 rfl ?_
  refine zn_icmp_eq F (tgt := 1530) dL_law_1525 (by decide) (fun _ => ?_) (fun z => absurd rfl z)
  refine zn_iload F (i := 5) (k := 1) dL_law_1530 rfl ?_
  have kj : ∀ (wz : va_W), zN X mc ms fr lo B 9 1547 [(6, .int b), (5, .int k), (4, .int 0), (3, .ref q), (2, .ref h0), (1, .ref (ad1 (0, 0, 0))), (0, .ref b0)] [] wz (200 + mcc + mcr + 0) (2000 + msc + msr + 0) := fun wz => zn_goto F (tgt := 1730) dL_law_1547 (by decide) (zn_pick [2, 6] rfl (zn_sub [] (ws' := []) rfl rfl (zn_wid (by omega) (by omega) T)))
  refine zn_if_ne F (tgt := 1547) dL_law_1532 (by decide) (fun _ => kj _) (fun hk => ?_)
  refine zn_ws (ws' := ([(h0, .inr (10, [.int k, .ref s]))] ++ (tl ++ w')) ++ [(q, .inl (zcA X 5, 1, .inr (.inl f')))]) (by simp only [List.append_assoc, List.cons_append, List.nil_append]) ?_
  refine zn_aload_n F (i := 3) (k := 3) dL_law_1535 rfl rfl ?_
  refine zn_iconst F (v := 0) dL_law_1536 (by decide) ?_
  refine zn_laldE F dL_law_1537 (by decide) rfl (zvi (by decide)) (jn := 0) (by decide) (h0b hk) ?_
  refine zn_iload F (i := 6) (k := 0) dL_law_1538 rfl ?_
  refine zn_i2l F dL_law_1540 ?_
  refine zn_lcmp F dL_law_1541 ?_
  exact zn_if_eq F (tgt := 1547) dL_law_1542 (by decide) (fun _ => kj _) (fun z => absurd ((lg_cmp_eq _ _).mpr rfl) z)

set_option maxHeartbeats 4000000 in
set_option maxRecDepth 20000 in
theorem zlc_wouldDeliver {X : zX} (F : zLr X cL_law 9 RL) {b0 q h0 mc ms fr lo : Nat} {xs : Nat → Int32} {B : State → Prop} (f : Nat → Int64) (ad1 : zR → Nat) (l : List Nat) (hX : zScr X b0 7 xs) (hr : 12 ≤ fr ∧ 440 ≤ lo ∧ 1000 ≤ mc ∧ 5000 ≤ ms) (T : zN X mc ms fr lo B 9 1730 [(4, .int 0), (0, .ref b0)] [] [] 1000 5000) : zN X mc ms fr lo B 9 1591 [(4, .int 0), (3, .ref q), (2, .ref h0), (1, .ref (ad1 (0, 0, 0))), (0, .ref b0)] [] (zwl (zcA X) ad1 [(2, [1, 2, 3]), (0, []), (0, []), (1, [])] [zm0, zfr0, zfr0, zm0] ++ [(q, .inl (zcA X 5, 1, .inr (.inl f)))] ++ zwl (zcA X) (zadM h0 l) [(4, [1]), (3, [])] [zm0, zfr3]) 200 2000 := by
  obtain ⟨k, b, mcc, msc, BL, fb, lb, mcr, msr, BR, ⟨n1, n2, n3, n4, n5, n6⟩, hL, hBL, hR, hBR⟩ := zag_wouldDeliver ((xs 1)) q f ad1 h0 l
  refine zn_aload_n F (i := 1) (k := 3) dL_law_1591 rfl rfl ?_
  refine zn_aload_n F (i := 0) (k := 4) dL_law_1592 rfl rfl ?_
  refine zn_iload F (i := 4) (k := 0) dL_law_1593 rfl ?_
  refine zn_iconst F (v := 1) dL_law_1595 (by decide) ?_
  refine zn_iaddv F (v := 1) dL_law_1596 (by decide) ?_
  refine zn_sld F hX (jn := 1) dL_law_1597 (zvi (by decide)) (by decide) ?_
  refine zn_aload_n F (i := 3) (k := 1) dL_law_1598 rfl rfl ?_
  refine zn_callW F (as := .ref (ad1 (0, 0, 0)) :: ([.int (xs 1)] ++ [.ref q])) (st := []) hL dL_law_1599 ycRL_166 yyyL_wouldDeliver rfl (wsB := zwl (zcA X) (zadM h0 l) [(4, [1]), (3, [])] [zm0, zfr3]) rfl rfl (Nat.le_of_ble_eq_true rfl) (Nat.le_trans (Nat.le_of_ble_eq_true rfl) hr.1) (Nat.le_trans (Nat.le_of_ble_eq_true rfl) hr.2.1) (by omega) (by omega) fun v w1 hB => ?_
  obtain ⟨rfl, w', f', rfl, h0b⟩ := hBL _ _ _ hB
  refine zn_istore F (i := 5) (lv' := [(5, .int k), (4, .int 0), (3, .ref q), (2, .ref h0), (1, .ref (ad1 (0, 0, 0))), (0, .ref b0)]) dL_law_1602 (by decide) rfl ?_
  refine zn_aload_n F (i := 2) (k := 3) dL_law_1604 rfl rfl ?_
  refine zn_aload_n F (i := 0) (k := 5) dL_law_1605 rfl rfl ?_
  refine zn_iload F (i := 4) (k := 1) dL_law_1606 rfl ?_
  refine zn_iconst F (v := 1) dL_law_1608 (by decide) ?_
  refine zn_iaddv F (v := 1) dL_law_1609 (by decide) ?_
  refine zn_sld F hX (jn := 1) dL_law_1610 (zvi (by decide)) (by decide) ?_
  refine zn_perm List.perm_append_comm ?_
  refine zn_callV F (as := [.int (xs 1)]) (st := []) (j0 := 0) hR dL_law_1611 ycRL_168 yzyX11_wouldDeliver rfl (wsB := w' ++ [(q, .inl (zcA X 5, 1, .inr (.inl f')))]) rfl (ci := 10) rfl rfl rfl (Nat.le_of_ble_eq_true rfl) (by omega) (by omega) (by omega) (by omega) fun v w2 hB2 => ?_
  obtain ⟨rfl, s, tl, rfl⟩ := hBR _ _ _ hB2
  refine zn_istore F (i := 6) (lv' := [(6, .int b), (5, .int k), (4, .int 0), (3, .ref q), (2, .ref h0), (1, .ref (ad1 (0, 0, 0))), (0, .ref b0)]) dL_law_1614 (by decide) rfl ?_
  refine zn_aload_n F (i := 2) (k := 4) dL_law_1616 rfl rfl ?_
  refine zn_callV F (as := []) (st := []) (j0 := 0) (zrM_thrown h0 k s) dL_law_1617 ycRL_96 yzyX11_thrown rfl (wsB := tl ++ (w' ++ [(q, .inl (zcA X 5, 1, .inr (.inl f')))])) rfl (ci := 10) rfl rfl rfl (Nat.le_of_ble_eq_true rfl) (by omega) (by omega) (by omega) (by omega) fun v w3 hB3 => ?_
  obtain ⟨rfl, rfl⟩ := hB3
  refine zn_iload F (i := 5) (k := 1) dL_law_1620 rfl ?_
  refine zn_icmp_eq F (tgt := 1627) dL_law_1622 (by decide) (fun _ => ?_) (fun z => absurd rfl z)
  refine zn_iload F (i := 5) (k := 1) dL_law_1627 rfl ?_
  have kj : ∀ (wz : va_W), zN X mc ms fr lo B 9 1644 [(6, .int b), (5, .int k), (4, .int 0), (3, .ref q), (2, .ref h0), (1, .ref (ad1 (0, 0, 0))), (0, .ref b0)] [] wz (200 + mcc + mcr + 0) (2000 + msc + msr + 0) := fun wz => zn_goto F (tgt := 1730) dL_law_1644 (by decide) (zn_pick [2, 6] rfl (zn_sub [] (ws' := []) rfl rfl (zn_wid (by omega) (by omega) T)))
  refine zn_if_ne F (tgt := 1644) dL_law_1629 (by decide) (fun _ => kj _) (fun hk => ?_)
  refine zn_ws (ws' := ([(h0, .inr (10, [.int k, .ref s]))] ++ (tl ++ w')) ++ [(q, .inl (zcA X 5, 1, .inr (.inl f')))]) (by simp only [List.append_assoc, List.cons_append, List.nil_append]) ?_
  refine zn_aload_n F (i := 3) (k := 3) dL_law_1632 rfl rfl ?_
  refine zn_iconst F (v := 0) dL_law_1633 (by decide) ?_
  refine zn_laldE F dL_law_1634 (by decide) rfl (zvi (by decide)) (jn := 0) (by decide) (h0b hk) ?_
  refine zn_iload F (i := 6) (k := 0) dL_law_1635 rfl ?_
  refine zn_i2l F dL_law_1637 ?_
  refine zn_lcmp F dL_law_1638 ?_
  exact zn_if_eq F (tgt := 1644) dL_law_1639 (by decide) (fun _ => kj _) (fun z => absurd ((lg_cmp_eq _ _).mpr rfl) z)

set_option maxHeartbeats 4000000 in
set_option maxRecDepth 20000 in
theorem zlc_bestTurn {X : zX} (F : zLr X cL_law 9 RL) {b0 q h0 mc ms fr lo : Nat} {xs : Nat → Int32} {B : State → Prop} (f : Nat → Int64) (ad1 : zR → Nat) (l : List Nat) (hX : zScr X b0 7 xs) (hr : 12 ≤ fr ∧ 440 ≤ lo ∧ 1000 ≤ mc ∧ 5000 ≤ ms) (T : zN X mc ms fr lo B 9 1730 [(4, .int 0), (0, .ref b0)] [] [] 1000 5000) : zN X mc ms fr lo B 9 1647 [(4, .int 0), (3, .ref q), (2, .ref h0), (1, .ref (ad1 (0, 0, 0))), (0, .ref b0)] [] (zwl (zcA X) ad1 [(2, [1, 2, 3]), (0, []), (0, []), (1, [])] [zm0, zfr0, zfr0, zm0] ++ [(q, .inl (zcA X 5, 1, .inr (.inl f)))] ++ zwl (zcA X) (zadM h0 l) [(4, [1]), (3, [])] [zm0, zfr3]) 200 2000 := by
  obtain ⟨k, b, mcc, msc, BL, fb, lb, mcr, msr, BR, ⟨n1, n2, n3, n4, n5, n6⟩, hL, hBL, hR, hBR⟩ := zag_bestTurn ((xs 1)) q f ad1 h0 l
  refine zn_aload_n F (i := 1) (k := 3) dL_law_1647 rfl rfl ?_
  refine zn_aload_n F (i := 0) (k := 4) dL_law_1648 rfl rfl ?_
  refine zn_iload F (i := 4) (k := 0) dL_law_1649 rfl ?_
  refine zn_iconst F (v := 1) dL_law_1651 (by decide) ?_
  refine zn_iaddv F (v := 1) dL_law_1652 (by decide) ?_
  refine zn_sld F hX (jn := 1) dL_law_1653 (zvi (by decide)) (by decide) ?_
  refine zn_aload_n F (i := 3) (k := 1) dL_law_1654 rfl rfl ?_
  refine zn_callW F (as := .ref (ad1 (0, 0, 0)) :: ([.int (xs 1)] ++ [.ref q])) (st := []) hL dL_law_1655 ycRL_169 yyyL_bestTurn rfl (wsB := zwl (zcA X) (zadM h0 l) [(4, [1]), (3, [])] [zm0, zfr3]) rfl rfl (Nat.le_of_ble_eq_true rfl) (Nat.le_trans (Nat.le_of_ble_eq_true rfl) hr.1) (Nat.le_trans (Nat.le_of_ble_eq_true rfl) hr.2.1) (by omega) (by omega) fun v w1 hB => ?_
  obtain ⟨rfl, w', f', rfl, h0b⟩ := hBL _ _ _ hB
  refine zn_istore F (i := 5) (lv' := [(5, .int k), (4, .int 0), (3, .ref q), (2, .ref h0), (1, .ref (ad1 (0, 0, 0))), (0, .ref b0)]) dL_law_1658 (by decide) rfl ?_
  refine zn_aload_n F (i := 2) (k := 3) dL_law_1660 rfl rfl ?_
  refine zn_aload_n F (i := 0) (k := 5) dL_law_1661 rfl rfl ?_
  refine zn_iload F (i := 4) (k := 1) dL_law_1662 rfl ?_
  refine zn_iconst F (v := 1) dL_law_1664 (by decide) ?_
  refine zn_iaddv F (v := 1) dL_law_1665 (by decide) ?_
  refine zn_sld F hX (jn := 1) dL_law_1666 (zvi (by decide)) (by decide) ?_
  refine zn_perm List.perm_append_comm ?_
  refine zn_callV F (as := [.int (xs 1)]) (st := []) (j0 := 0) hR dL_law_1667 ycRL_171 yzyX11_bestTurn rfl (wsB := w' ++ [(q, .inl (zcA X 5, 1, .inr (.inl f')))]) rfl (ci := 10) rfl rfl rfl (Nat.le_of_ble_eq_true rfl) (by omega) (by omega) (by omega) (by omega) fun v w2 hB2 => ?_
  obtain ⟨rfl, s, tl, rfl⟩ := hBR _ _ _ hB2
  refine zn_istore F (i := 6) (lv' := [(6, .int b), (5, .int k), (4, .int 0), (3, .ref q), (2, .ref h0), (1, .ref (ad1 (0, 0, 0))), (0, .ref b0)]) dL_law_1670 (by decide) rfl ?_
  refine zn_aload_n F (i := 2) (k := 4) dL_law_1672 rfl rfl ?_
  refine zn_callV F (as := []) (st := []) (j0 := 0) (zrM_thrown h0 k s) dL_law_1673 ycRL_96 yzyX11_thrown rfl (wsB := tl ++ (w' ++ [(q, .inl (zcA X 5, 1, .inr (.inl f')))])) rfl (ci := 10) rfl rfl rfl (Nat.le_of_ble_eq_true rfl) (by omega) (by omega) (by omega) (by omega) fun v w3 hB3 => ?_
  obtain ⟨rfl, rfl⟩ := hB3
  refine zn_iload F (i := 5) (k := 1) dL_law_1676 rfl ?_
  refine zn_icmp_eq F (tgt := 1683) dL_law_1678 (by decide) (fun _ => ?_) (fun z => absurd rfl z)
  refine zn_iload F (i := 5) (k := 1) dL_law_1683 rfl ?_
  have kj : ∀ (wz : va_W), zN X mc ms fr lo B 9 1700 [(6, .int b), (5, .int k), (4, .int 0), (3, .ref q), (2, .ref h0), (1, .ref (ad1 (0, 0, 0))), (0, .ref b0)] [] wz (200 + mcc + mcr + 0) (2000 + msc + msr + 0) := fun wz => zn_goto F (tgt := 1730) dL_law_1700 (by decide) (zn_pick [2, 6] rfl (zn_sub [] (ws' := []) rfl rfl (zn_wid (by omega) (by omega) T)))
  refine zn_if_ne F (tgt := 1700) dL_law_1685 (by decide) (fun _ => kj _) (fun hk => ?_)
  refine zn_ws (ws' := ([(h0, .inr (10, [.int k, .ref s]))] ++ (tl ++ w')) ++ [(q, .inl (zcA X 5, 1, .inr (.inl f')))]) (by simp only [List.append_assoc, List.cons_append, List.nil_append]) ?_
  refine zn_aload_n F (i := 3) (k := 3) dL_law_1688 rfl rfl ?_
  refine zn_iconst F (v := 0) dL_law_1689 (by decide) ?_
  refine zn_laldE F dL_law_1690 (by decide) rfl (zvi (by decide)) (jn := 0) (by decide) (h0b hk) ?_
  refine zn_iload F (i := 6) (k := 0) dL_law_1691 rfl ?_
  refine zn_i2l F dL_law_1693 ?_
  refine zn_lcmp F dL_law_1694 ?_
  exact zn_if_eq F (tgt := 1700) dL_law_1695 (by decide) (fun _ => kj _) (fun z => absurd ((lg_cmp_eq _ _).mpr rfl) z)
