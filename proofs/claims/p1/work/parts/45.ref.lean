/-! ===== the reference's methods that make cells, on the fresh memory ===== -/
abbrev zadM (h0 : Nat) (l : List Nat) : zR → Nat := fun q => match q.1 with | 0 => h0 | _ => zad3 l q
def BcMO2 (cA : Nat → ClassId) (h0 : Nat) (ws : va_W) : Prop := ∃ l : List Nat, ws = zwl cA (zadM h0 l) [(4, [1]), (3, [])] [zm0, zfr3]
set_option maxHeartbeats 8000000 in
set_option maxRecDepth 20000 in
theorem zcMO2 : zMk yX11_init cX11_init 1 2 44 30 568 (.inr (10, [.int 0, .null])) BcMO2 := by
  refine zMk_of (by decide) rfl (by decide) fun X h0 F I T => ?_
  refine zn_aload_n F (i := 0) (k := 0) dX11_init_0 rfl rfl ?_
  refine zn_obj F dX11_init_1 koRX11_1 (Nat.le_of_ble_eq_true rfl) (Nat.le_of_ble_eq_true rfl) ?_
  refine zn_aload_n F (i := 0) (k := 0) dX11_init_4 rfl rfl ?_
  refine zn_new F (ci := 9) (N := 23) (fs := [.null, .null, .null, .null, .null, .null, .null, .int 0, .int 0, .int 0, .int 0, .int 0, .int 0, .int 0, .int 0, .int 0, .int 0, .int 0, .int 0, .int 0, .int 0, .int 0, .int 0]) dX11_init_5 rfl zCl_9 tyX10_ok knRX11_7 dfX10 (Nat.le_of_ble_eq_true rfl) (Nat.le_of_ble_eq_true rfl) fun q0 => ?_
  refine zn_dup F dX11_init_8 rfl ?_
  refine zn_callN F (ws0 := [(h0, .inr (10, [.int 0, .null]))]) zcMS dX11_init_9 kiRX11_9 wyyX10_init rfl (Nat.le_of_ble_eq_true rfl) (Nat.le_of_ble_eq_true rfl) (Nat.le_of_ble_eq_true rfl) (Nat.le_of_ble_eq_true rfl) (Nat.le_of_ble_eq_true rfl) fun w1 hB1 => ?_
  obtain ⟨l1, rfl⟩ := hB1
  refine zn_ws (ws' := ((h0, .inr (10, [.int 0, .null])) :: zwl (zcA X) (zad3 (q0 :: l1)) [(3, [])] [zfr3])) rfl ?_
  refine zn_putF F I (j := 0) (ws' := ((h0, .inr (10, [.int 0, .ref q0])) :: zwl (zcA X) (zad3 (q0 :: l1)) [(3, [])] [zfr3])) dX11_init_12 kqRX11_10 ⟨rfl, rfl⟩ zCl_10 rfl (zlb rfl) rfl ?_
  exact zn_ret F T dX11_init_15 ⟨rfl, q0 :: l1, rfl⟩ (Nat.le_refl _) (Nat.le_refl _)

theorem ypRX11_16 : zFw RX11 16 10 0 .int := ⟨_, rfl, by decide, zm_f 1060 (by decide +kernel) rfl, rfl, by decide +kernel⟩
theorem ycRX11_20 : Cond.methodLink RX11 20 yX11_in ∈ zTg ∧ Cond.static yX11_in ∈ zTg ∧ Cond.initialized yX11_in.cls ∈ zTg ∧ Cond.code yX11_in cX11_in 3 (some .boolean) ∈ zTg := ⟨zm_f 1075 (by decide +kernel) rfl, zm_f 1076 (by decide +kernel) rfl, zm_f 46 (by decide +kernel) rfl, zm_f 1077 (by decide +kernel) rfl⟩
theorem yyyX11_in : yX11_in.cls ≠ "java/lang/invoke/MethodHandle" ∧ yX11_in.cls ≠ "java/lang/invoke/VarHandle" ∧ (parseMethodDescriptor yX11_in.desc).map (fun d => d.parameters.length) = some 3 := by decide +kernel
theorem yfRX11_10 : zFl RX11 10 10 1 := ⟨_, rfl, by decide, zm_f 1061 (by decide +kernel) rfl⟩
theorem yfRX11_33 : zFl RX11 33 9 9 := ⟨_, rfl, by decide, zm_f 986 (by decide +kernel) rfl⟩
theorem wArrP : Cond.arrayClass .int ∈ zTg := zm_f 133 (by decide +kernel) rfl
theorem yfRX11_54 : zFl RX11 54 9 3 := ⟨_, rfl, by decide, zm_f 975 (by decide +kernel) rfl⟩
theorem yaRX11_57 : Cond.methodLink RX11 57 arraycopyName ∈ zTg ∧ Cond.native arraycopyName ∈ zTg ∧ Cond.static arraycopyName ∈ zTg ∧ Cond.initialized "java/lang/System" ∈ zTg := ⟨zm_f 1094 (by decide +kernel) rfl, zm_f 582 (by decide +kernel) rfl, zm_f 581 (by decide +kernel) rfl, zm_f 54 (by decide +kernel) rfl⟩
theorem ypRX11_33 : zFw RX11 33 9 9 .int := ⟨_, rfl, by decide, zm_f 986 (by decide +kernel) rfl, rfl, by decide +kernel⟩
theorem ycRX11_156 : Cond.methodLink RX11 156 yX10_copy ∈ zTg ∧ Cond.instanceMethod yX10_copy ∈ zTg ∧ Cond.selects "WakeBanksModel$Sea" yX10_copy yX10_copy ∈ zTg ∧ Cond.initialized "WakeBanksModel$Sea" ∈ zTg ∧ Cond.code yX10_copy cX10_copy 3 (some (.object "WakeBanksModel$Sea")) ∈ zTg := ⟨zm_f 1279 (by decide +kernel) rfl, zm_f 1280 (by decide +kernel) rfl, zm_f 1281 (by decide +kernel) rfl, zm_f 47 (by decide +kernel) rfl, zm_f 1282 (by decide +kernel) rfl⟩
theorem yyyX10_copy : yX10_copy.cls = "WakeBanksModel$Sea" ∧ yX10_copy.cls ≠ "java/lang/invoke/MethodHandle" ∧ yX10_copy.cls ≠ "java/lang/invoke/VarHandle" ∧ (parseMethodDescriptor yX10_copy.desc).map (fun d => d.parameters.length) = some 0 := by decide +kernel
theorem ycRX11_92 : Cond.methodLink RX11 92 yX10_run ∈ zTg ∧ Cond.instanceMethod yX10_run ∈ zTg ∧ Cond.selects "WakeBanksModel$Sea" yX10_run yX10_run ∈ zTg ∧ Cond.initialized "WakeBanksModel$Sea" ∈ zTg ∧ Cond.code yX10_run cX10_run 4 (some .int) ∈ zTg := ⟨zm_f 1107 (by decide +kernel) rfl, zm_f 1108 (by decide +kernel) rfl, zm_f 1109 (by decide +kernel) rfl, zm_f 47 (by decide +kernel) rfl, zm_f 1110 (by decide +kernel) rfl⟩
theorem yyyX10_run : yX10_run.cls = "WakeBanksModel$Sea" ∧ yX10_run.cls ≠ "java/lang/invoke/MethodHandle" ∧ yX10_run.cls ≠ "java/lang/invoke/VarHandle" ∧ (parseMethodDescriptor yX10_run.desc).map (fun d => d.parameters.length) = some 1 := by decide +kernel
theorem wlRX11_182 : Cond.constantLong RX11 182 58176 ∈ zTg := zm_f 1311 (by decide +kernel) rfl
theorem wlRX11_184 : Cond.constantLong RX11 184 31 ∈ zTg := zm_f 1312 (by decide +kernel) rfl
theorem ycRX11_153 : Cond.methodLink RX11 153 yX11_manyNow ∈ zTg ∧ Cond.instanceMethod yX11_manyNow ∈ zTg ∧ Cond.selects "WakeBanksModel" yX11_manyNow yX11_manyNow ∈ zTg ∧ Cond.initialized "WakeBanksModel" ∈ zTg ∧ Cond.code yX11_manyNow cX11_manyNow 2 (some .int) ∈ zTg := ⟨zm_f 1263 (by decide +kernel) rfl, zm_f 1265 (by decide +kernel) rfl, zm_f 33 (by decide +kernel) rfl, zm_f 46 (by decide +kernel) rfl, zm_f 1266 (by decide +kernel) rfl⟩
theorem yyyX11_manyNow : yX11_manyNow.cls = "WakeBanksModel" ∧ yX11_manyNow.cls ≠ "java/lang/invoke/MethodHandle" ∧ yX11_manyNow.cls ≠ "java/lang/invoke/VarHandle" ∧ (parseMethodDescriptor yX11_manyNow.desc).map (fun d => d.parameters.length) = some 1 := by decide +kernel
theorem yfRX11_30 : zFl RX11 30 9 7 := ⟨_, rfl, by decide, zm_f 982 (by decide +kernel) rfl⟩
theorem yfRX11_44 : zFl RX11 44 9 8 := ⟨_, rfl, by decide, zm_f 984 (by decide +kernel) rfl⟩
theorem yfRX11_135 : zFl RX11 135 9 17 := ⟨_, rfl, by decide, zm_f 1002 (by decide +kernel) rfl⟩
theorem yfRX9_10 : zFl RX9 10 8 0 := ⟨_, rfl, by decide, zm_f 339 (by decide +kernel) rfl⟩
theorem yfRX9_84 : zFl RX9 84 3 4 := ⟨_, rfl, by decide, zm_f 289 (by decide +kernel) rfl⟩
theorem yfRX9_288 : zFl RX9 288 2 1 := ⟨_, rfl, by decide, zm_f 115 (by decide +kernel) rfl⟩
set_option maxHeartbeats 8000000 in
set_option maxRecDepth 20000 in
theorem zrM_vessel (a1 : Int32) (h0 : Nat) (l : List Nat) (h : fMO_in a1 5 40 = some 1) : zAl yX11_vessel cX11_vessel 3 (some .int) 10 330 1 6 [.ref ((zadM h0 l) (0, 0, 0)), .int a1] (fun cA => zwl cA (zadM h0 l) [(4, [1]), (3, [])] [zm0, zfr3]) (fun cA v ws => v = some (.int 0) ∧ ∃ s, ws[0]? = some (h0, .inr (10, [.int 0, .ref s]))) := by
  refine zAl_of (by decide) (Nat.le_of_ble_eq_true rfl) fun X F T hex => ?_
  show zN X 1 6 10 330 _ 3 0 [(0, .ref ((zadM h0 l) (0, 0, 0))), (1, .int a1)] [] (zwl (zcA X) (zadM h0 l) [(4, [1]), (3, [])] [zm0, zfr3]) 0 0
  refine zn_aload_n F (i := 0) (k := 0) dX11_vessel_0 rfl rfl ?_
  refine zn_iconst F (v := 0) dX11_vessel_1 (by decide) ?_
  refine zn_put F (j := 0) (ws' := zwl (zcA X) (zadM h0 l) [(4, [1]), (3, [])] [zt0, zfr3]) dX11_vessel_2 ypRX11_16 zCl_10 rfl (zlb rfl) rfl ?_
  refine zn_iload_n F (i := 1) (k := 1) dX11_vessel_5 rfl rfl ?_
  refine zn_iconst F (v := 5) dX11_vessel_6 (by decide) ?_
  refine zn_bipush F (v := 40) dX11_vessel_7 (by decide) ?_
  refine zn_callS F (as := [.int a1, .int 5, .int 40]) (st := []) (W0 := fun cA => zwl cA (zadM h0 l) [] []) (zAl_z (v := some (zi 1)) (as := [zi a1, zi 5, zi 40]) (Rg := []) (Ms := []) (Ms' := []) (zfMO_in a1 5 40 _ h) rfl (zadM h0 l)) dX11_vessel_9 ycRX11_20 yyyX11_in rfl (wsB := zwl (zcA X) (zadM h0 l) [(4, [1]), (3, [])] [zt0, zfr3]) rfl rfl (Nat.le_of_ble_eq_true rfl) (Nat.le_of_ble_eq_true rfl) (Nat.le_of_ble_eq_true rfl) (Nat.le_of_ble_eq_true rfl) (Nat.le_of_ble_eq_true rfl) fun v w1 hB => ?_
  obtain ⟨rfl, rfl⟩ := hB
  refine zn_ws (ws' := zwl (zcA X) (zadM h0 l) [(4, [1]), (3, [])] [zt0, zfr3]) rfl ?_
  refine zn_if_ne F (tgt := 21) dX11_vessel_12 (by decide) (fun _ => ?_) (fun z => absurd z (by decide))
  refine zn_aload_n F (i := 0) (k := 0) dX11_vessel_21 rfl rfl ?_
  refine zn_get F (j := 0) (v := .ref ((zadM h0 l) (1, 0, 0))) dX11_vessel_22 yfRX11_10 zCl_10 rfl rfl ?_
  refine zn_get F (j := 1) (v := .int 0) dX11_vessel_25 yfRX11_33 zCl_9 rfl rfl ?_
  refine zn_iconst F (v := 3) dX11_vessel_28 (by decide) ?_
  refine zn_icmp_ne F (tgt := 38) dX11_vessel_29 (by decide) (fun _ => ?_) (fun z => absurd z (by decide))
  refine zn_bipush F (v := 6) dX11_vessel_38 (by decide) ?_
  refine zn_newa F (N := 6) dX11_vessel_40 wArrP (by decide) (by decide) (Nat.le_of_ble_eq_true rfl) (Nat.le_of_ble_eq_true rfl) (Nat.le_of_ble_eq_true rfl) fun q0 => ?_
  refine zn_dup F dX11_vessel_42 rfl ?_
  refine zn_iconst F (v := 0) dX11_vessel_43 (by decide) ?_
  refine zn_iload_n F (i := 1) (k := 1) dX11_vessel_44 rfl rfl ?_
  refine zn_iast F (q0 := 31) (jn := 0) (ws' := zwl (zcA X) (zadM h0 l) [(4, [1]), (3, [])] [zt0, zfr3] ++ [(q0, .inl (zcA X 0, 6, .inl (upd (fun _ => 0) 0 a1)))]) dX11_vessel_45 rfl (vp_in_nI (n := 0) (by decide) (by decide)) (by decide) rfl ?_
  refine zn_dup F dX11_vessel_46 rfl ?_
  refine zn_iconst F (v := 1) dX11_vessel_47 (by decide) ?_
  refine zn_iconst F (v := -1) dX11_vessel_48 (by decide) ?_
  refine zn_iast F (q0 := 31) (jn := 1) (ws' := zwl (zcA X) (zadM h0 l) [(4, [1]), (3, [])] [zt0, zfr3] ++ [(q0, .inl (zcA X 0, 6, .inl (upd (upd (fun _ => 0) 0 a1) 1 (-1))))]) dX11_vessel_49 rfl (vp_in_nI (n := 1) (by decide) (by decide)) (by decide) rfl ?_
  refine zn_dup F dX11_vessel_50 rfl ?_
  refine zn_iconst F (v := 2) dX11_vessel_51 (by decide) ?_
  refine zn_iconst F (v := 0) dX11_vessel_52 (by decide) ?_
  refine zn_iast F (q0 := 31) (jn := 2) (ws' := zwl (zcA X) (zadM h0 l) [(4, [1]), (3, [])] [zt0, zfr3] ++ [(q0, .inl (zcA X 0, 6, .inl (upd (upd (upd (fun _ => 0) 0 a1) 1 (-1)) 2 0)))]) dX11_vessel_53 rfl (vp_in_nI (n := 2) (by decide) (by decide)) (by decide) rfl ?_
  refine zn_dup F dX11_vessel_54 rfl ?_
  refine zn_iconst F (v := 3) dX11_vessel_55 (by decide) ?_
  refine zn_iconst F (v := -1) dX11_vessel_56 (by decide) ?_
  refine zn_iast F (q0 := 31) (jn := 3) (ws' := zwl (zcA X) (zadM h0 l) [(4, [1]), (3, [])] [zt0, zfr3] ++ [(q0, .inl (zcA X 0, 6, .inl (upd (upd (upd (upd (fun _ => 0) 0 a1) 1 (-1)) 2 0) 3 (-1))))]) dX11_vessel_57 rfl (vp_in_nI (n := 3) (by decide) (by decide)) (by decide) rfl ?_
  refine zn_dup F dX11_vessel_58 rfl ?_
  refine zn_iconst F (v := 4) dX11_vessel_59 (by decide) ?_
  refine zn_iconst F (v := 0) dX11_vessel_60 (by decide) ?_
  refine zn_iast F (q0 := 31) (jn := 4) (ws' := zwl (zcA X) (zadM h0 l) [(4, [1]), (3, [])] [zt0, zfr3] ++ [(q0, .inl (zcA X 0, 6, .inl (upd (upd (upd (upd (upd (fun _ => 0) 0 a1) 1 (-1)) 2 0) 3 (-1)) 4 0)))]) dX11_vessel_61 rfl (vp_in_nI (n := 4) (by decide) (by decide)) (by decide) rfl ?_
  refine zn_dup F dX11_vessel_62 rfl ?_
  refine zn_iconst F (v := 5) dX11_vessel_63 (by decide) ?_
  refine zn_iconst F (v := 0) dX11_vessel_64 (by decide) ?_
  refine zn_iast F (q0 := 31) (jn := 5) (ws' := zwl (zcA X) (zadM h0 l) [(4, [1]), (3, [])] [zt0, zfr3] ++ [(q0, .inl (zcA X 0, 6, .inl (upd (upd (upd (upd (upd (upd (fun _ => 0) 0 a1) 1 (-1)) 2 0) 3 (-1)) 4 0) 5 0)))]) dX11_vessel_65 rfl (vp_in_nI (n := 5) (by decide) (by decide)) (by decide) rfl ?_
  refine zn_astore_n F (i := 2) (lv' := [(2, .ref q0), (0, .ref ((zadM h0 l) (0, 0, 0))), (1, .int a1)]) dX11_vessel_66 rfl (by decide) rfl ?_
  refine zn_aload_n F (i := 2) (k := 0) dX11_vessel_67 rfl rfl ?_
  refine zn_iconst F (v := 0) dX11_vessel_68 (by decide) ?_
  refine zn_aload_n F (i := 0) (k := 1) dX11_vessel_69 rfl rfl ?_
  refine zn_get F (j := 0) (v := .ref ((zadM h0 l) (1, 0, 0))) dX11_vessel_70 yfRX11_10 zCl_10 rfl rfl ?_
  refine zn_get F (j := 1) (v := .ref ((zadM h0 l) (1, 4, 0))) dX11_vessel_73 yfRX11_54 zCl_9 rfl rfl ?_
  refine zn_aload_n F (i := 0) (k := 1) dX11_vessel_76 rfl rfl ?_
  refine zn_get F (j := 0) (v := .ref ((zadM h0 l) (1, 0, 0))) dX11_vessel_77 yfRX11_10 zCl_10 rfl rfl ?_
  refine zn_get F (j := 1) (v := .int 0) dX11_vessel_80 yfRX11_33 zCl_9 rfl rfl ?_
  refine zn_aald F (q0 := 5) (n := 3) (jn := 0) (b := ((zadM h0 l) (1, 11, 0))) dX11_vessel_83 rfl (vp_in_nI (n := 0) (by decide) (by decide)) (by decide) rfl ?_
  refine zn_iconst F (v := 0) dX11_vessel_84 (by decide) ?_
  refine zn_bipush F (v := 6) dX11_vessel_85 (by decide) ?_
  refine zn_copy F (q0 := 31) (q1 := 28) (f := upd (upd (upd (upd (upd (upd (fun _ => 0) 0 a1) 1 (-1)) 2 0) 3 (-1)) 4 0) 5 0) (g := zfr3 11 0) (h := va_cpy (upd (upd (upd (upd (upd (upd (fun _ => 0) 0 a1) 1 (-1)) 2 0) 3 (-1)) 4 0) 5 0) (zfr3 11 0) 0 0 6) (ws' := zwl (zcA X) (zadM h0 l) [(4, [1]), (3, [])] [zt0, (zur zfr3 11 0 (va_cpy (upd (upd (upd (upd (upd (upd (fun _ => 0) 0 a1) 1 (-1)) 2 0) 3 (-1)) 4 0) 5 0) (zfr3 11 0) 0 0 6))] ++ [(q0, .inl (zcA X 0, 6, .inl (upd (upd (upd (upd (upd (upd (fun _ => 0) 0 a1) 1 (-1)) 2 0) 3 (-1)) 4 0) 5 0)))]) dX11_vessel_87 yaRX11_57 rfl rfl (by decide) (by decide) (by decide) (by decide) (by decide) (Nat.le_of_ble_eq_true rfl) (by decide) rfl rfl ?_
  refine zn_aload_n F (i := 0) (k := 1) dX11_vessel_90 rfl rfl ?_
  refine zn_get F (j := 0) (v := .ref ((zadM h0 l) (1, 0, 0))) dX11_vessel_91 yfRX11_10 zCl_10 rfl rfl ?_
  refine zn_dup F dX11_vessel_94 rfl ?_
  refine zn_get F (j := 1) (v := .int 0) dX11_vessel_95 yfRX11_33 zCl_9 rfl rfl ?_
  refine zn_dup_x1 F dX11_vessel_98 rfl rfl ?_
  refine zn_iconst F (v := 1) dX11_vessel_99 (by decide) ?_
  refine zn_iaddv F (v := 1) dX11_vessel_100 (by decide) ?_
  refine zn_put F (j := 1) (ws' := zwl (zcA X) (zadM h0 l) [(4, [1]), (3, [])] [zt0, (zu (zur zfr3 11 0 (va_cpy (upd (upd (upd (upd (upd (upd (fun _ => 0) 0 a1) 1 (-1)) 2 0) 3 (-1)) 4 0) 5 0) (zfr3 11 0) 0 0 6)) 0 0 9 1)] ++ [(q0, .inl (zcA X 0, 6, .inl (upd (upd (upd (upd (upd (upd (fun _ => 0) 0 a1) 1 (-1)) 2 0) 3 (-1)) 4 0) 5 0)))]) dX11_vessel_101 ypRX11_33 zCl_9 rfl (zlb rfl) rfl ?_
  exact zn_ireturn F T dX11_vessel_104 ⟨rfl, _, rfl⟩ (Nat.le_refl _) (Nat.le_refl _)

set_option maxHeartbeats 8000000 in
set_option maxRecDepth 20000 in
theorem zrM_wouldDeliver (a1 : Int32) (h0 : Nat) (l : List Nat) (h : fMO_in a1 1 24 = some 1) (h1 : 0 ≤ a1.toInt) (h2 : a1.toInt ≤ 24) : zAl yX11_wouldDeliver cX11_wouldDeliver 2 (some .int) 10 330 30 568 [.ref ((zadM h0 l) (0, 0, 0)), .int a1] (fun cA => zwl cA (zadM h0 l) [(4, [1]), (3, [])] [zm0, zfr3]) (fun cA v ws => v = some (.int 0) ∧ ∃ s, ws[0]? = some (h0, .inr (10, [.int 0, .ref s]))) := by
  obtain ⟨t0, e⟩ := q_mrun h1 h2 (s := zfr3) ⟨rfl, rfl, rfl, by decide, rfl⟩
  refine zAl_of (by decide) (Nat.le_of_ble_eq_true rfl) fun X F T hex => ?_
  show zN X 30 568 10 330 _ 2 0 [(0, .ref ((zadM h0 l) (0, 0, 0))), (1, .int a1)] [] (zwl (zcA X) (zadM h0 l) [(4, [1]), (3, [])] [zm0, zfr3]) 0 0
  refine zn_aload_n F (i := 0) (k := 0) dX11_wouldDeliver_0 rfl rfl ?_
  refine zn_iconst F (v := 0) dX11_wouldDeliver_1 (by decide) ?_
  refine zn_put F (j := 0) (ws' := zwl (zcA X) (zadM h0 l) [(4, [1]), (3, [])] [zt0, zfr3]) dX11_wouldDeliver_2 ypRX11_16 zCl_10 rfl (zlb rfl) rfl ?_
  refine zn_iload_n F (i := 1) (k := 1) dX11_wouldDeliver_5 rfl rfl ?_
  refine zn_iconst F (v := 1) dX11_wouldDeliver_6 (by decide) ?_
  refine zn_bipush F (v := 24) dX11_wouldDeliver_7 (by decide) ?_
  refine zn_callS F (as := [.int a1, .int 1, .int 24]) (st := []) (W0 := fun cA => zwl cA (zadM h0 l) [] []) (zAl_z (v := some (zi 1)) (as := [zi a1, zi 1, zi 24]) (Rg := []) (Ms := []) (Ms' := []) (zfMO_in a1 1 24 _ h) rfl (zadM h0 l)) dX11_wouldDeliver_9 ycRX11_20 yyyX11_in rfl (wsB := zwl (zcA X) (zadM h0 l) [(4, [1]), (3, [])] [zt0, zfr3]) rfl rfl (Nat.le_of_ble_eq_true rfl) (Nat.le_of_ble_eq_true rfl) (Nat.le_of_ble_eq_true rfl) (Nat.le_of_ble_eq_true rfl) (Nat.le_of_ble_eq_true rfl) fun v w1 hB => ?_
  obtain ⟨rfl, rfl⟩ := hB
  refine zn_ws (ws' := zwl (zcA X) (zadM h0 l) [(4, [1]), (3, [])] [zt0, zfr3]) rfl ?_
  refine zn_if_ne F (tgt := 21) dX11_wouldDeliver_12 (by decide) (fun _ => ?_) (fun z => absurd z (by decide))
  refine zn_aload_n F (i := 0) (k := 0) dX11_wouldDeliver_21 rfl rfl ?_
  refine zn_get F (j := 0) (v := .ref ((zadM h0 l) (1, 0, 0))) dX11_wouldDeliver_22 yfRX11_10 zCl_10 rfl rfl ?_
  refine zn_sub [1, 2, 3, 4, 5, 6, 7, 8, 9, 10, 11, 12, 13, 14, 15, 16, 17, 18, 19, 20, 21, 22, 23, 24, 25, 26, 27, 28, 29, 30, 0] (ws' := zwl (zcA X) (zad3 l) [(3, [])] [zfr3] ++ [(h0, .inr (10, [.int 0, .ref (zad3 l (0, 0, 0))]))]) rfl rfl ?_
  refine zn_callV F (as := []) (st := []) (j0 := 0) (zcopyF (zad3 l)) dX11_wouldDeliver_25 ycRX11_156 yyyX10_copy rfl (wsB := [(h0, .inr (10, [.int 0, .ref (zad3 l (0, 0, 0))]))]) rfl (ci := 9) rfl rfl rfl (Nat.le_of_ble_eq_true rfl) (Nat.le_of_ble_eq_true rfl) (Nat.le_of_ble_eq_true rfl) (Nat.le_of_ble_eq_true rfl) (Nat.le_of_ble_eq_true rfl) fun v w1 hB => ?_
  obtain ⟨l2, rfl, rfl⟩ := hB
  refine zn_sub [30, 31, 32, 33, 34, 35, 36, 37, 38, 39, 40, 41, 42, 43, 44, 45, 46, 47, 48, 49, 50, 51, 52, 53, 54, 55, 56, 57, 58, 59, 60] (ws' := zwl (zcA X) (zad3 l2) [(3, [])] [zfr3] ++ [(h0, .inr (10, [.int 0, .ref (zad3 l (0, 0, 0))]))]) rfl rfl ?_
  refine zn_iload_n F (i := 1) (k := 1) dX11_wouldDeliver_28 rfl rfl ?_
  refine zn_callV F (as := [.int a1]) (st := []) (j0 := 0) (zAl_z (v := some (zi 0)) (as := [zr 0 0 0, zi a1]) (Rg := [(3, [])]) (Ms := [zfr3]) (Ms' := [t0]) (zfMS_run a1 zfr3 _ e) rfl (zad3 l2)) dX11_wouldDeliver_29 ycRX11_92 yyyX10_run rfl (wsB := [(h0, .inr (10, [.int 0, .ref (zad3 l (0, 0, 0))]))]) rfl (ci := 9) rfl rfl rfl (Nat.le_of_ble_eq_true rfl) (Nat.le_of_ble_eq_true rfl) (Nat.le_of_ble_eq_true rfl) (Nat.le_of_ble_eq_true rfl) (Nat.le_of_ble_eq_true rfl) fun v w1 hB => ?_
  obtain ⟨rfl, rfl⟩ := hB
  refine zn_sub [30] (ws' := [(h0, .inr (10, [.int 0, .ref (zad3 l (0, 0, 0))]))]) rfl rfl ?_
  exact zn_ireturn F T dX11_wouldDeliver_32 ⟨rfl, _, rfl⟩ (Nat.le_refl _) (Nat.le_refl _)

theorem dX11_digest_0 : decode cX11_digest 0 = .ok (.aload_n 0, 1) := by decide +kernel
theorem dX11_digest_1 : decode cX11_digest 1 = .ok (.iconst 0, 1) := by decide +kernel
theorem dX11_digest_2 : decode cX11_digest 2 = .ok (.putfield 16, 3) := by decide +kernel
theorem dX11_digest_5 : decode cX11_digest 5 = .ok (.ldc2_w 182, 3) := by decide +kernel
theorem dX11_digest_8 : decode cX11_digest 8 = .ok (.lstore_n 1, 1) := by decide +kernel
theorem dX11_digest_9 : decode cX11_digest 9 = .ok (.iconst 0, 1) := by decide +kernel
theorem dX11_digest_10 : decode cX11_digest 10 = .ok (.istore_n 3, 1) := by decide +kernel
theorem dX11_digest_11 : decode cX11_digest 11 = .ok (.iload_n 3, 1) := by decide +kernel
theorem dX11_digest_12 : decode cX11_digest 12 = .ok (.bipush 13, 2) := by decide +kernel
theorem dX11_digest_14 : decode cX11_digest 14 = .ok (.if_icmp .gt 22, 3) := by decide +kernel
theorem dX11_digest_17 : decode cX11_digest 17 = .ok (.lload_n 1, 1) := by decide +kernel
theorem dX11_digest_18 : decode cX11_digest 18 = .ok (.ldc2_w 184, 3) := by decide +kernel
theorem dX11_digest_21 : decode cX11_digest 21 = .ok (.lmul, 1) := by decide +kernel
theorem dX11_digest_22 : decode cX11_digest 22 = .ok (.aload_n 0, 1) := by decide +kernel
theorem dX11_digest_23 : decode cX11_digest 23 = .ok (.iload_n 3, 1) := by decide +kernel
theorem dX11_digest_24 : decode cX11_digest 24 = .ok (.invokevirtual 153, 3) := by decide +kernel
theorem dX11_digest_27 : decode cX11_digest 27 = .ok (.i2l, 1) := by decide +kernel
theorem dX11_digest_28 : decode cX11_digest 28 = .ok (.ladd, 1) := by decide +kernel
theorem dX11_digest_29 : decode cX11_digest 29 = .ok (.lstore_n 1, 1) := by decide +kernel
theorem dX11_digest_30 : decode cX11_digest 30 = .ok (.iinc 3 1, 3) := by decide +kernel
theorem dX11_digest_33 : decode cX11_digest 33 = .ok (.goto (-22), 3) := by decide +kernel
theorem dX11_digest_36 : decode cX11_digest 36 = .ok (.iconst 0, 1) := by decide +kernel
theorem dX11_digest_37 : decode cX11_digest 37 = .ok (.istore_n 3, 1) := by decide +kernel
theorem dX11_digest_38 : decode cX11_digest 38 = .ok (.iload_n 3, 1) := by decide +kernel
theorem dX11_digest_39 : decode cX11_digest 39 = .ok (.aload_n 0, 1) := by decide +kernel
theorem dX11_digest_40 : decode cX11_digest 40 = .ok (.getfield 10, 3) := by decide +kernel
theorem dX11_digest_43 : decode cX11_digest 43 = .ok (.getfield 30, 3) := by decide +kernel
theorem dX11_digest_46 : decode cX11_digest 46 = .ok (.if_icmp .ge 217, 3) := by decide +kernel
theorem dX11_digest_49 : decode cX11_digest 49 = .ok (.iconst 0, 1) := by decide +kernel
theorem dX11_digest_50 : decode cX11_digest 50 = .ok (.istore 4, 2) := by decide +kernel
theorem dX11_digest_52 : decode cX11_digest 52 = .ok (.iload 4, 2) := by decide +kernel
theorem dX11_digest_54 : decode cX11_digest 54 = .ok (.bipush 9, 2) := by decide +kernel
theorem dX11_digest_56 : decode cX11_digest 56 = .ok (.if_icmp .gt 24, 3) := by decide +kernel
theorem dX11_digest_59 : decode cX11_digest 59 = .ok (.lload_n 1, 1) := by decide +kernel
theorem dX11_digest_60 : decode cX11_digest 60 = .ok (.ldc2_w 184, 3) := by decide +kernel
theorem dX11_digest_63 : decode cX11_digest 63 = .ok (.lmul, 1) := by decide +kernel
theorem dX11_digest_64 : decode cX11_digest 64 = .ok (.aload_n 0, 1) := by decide +kernel
theorem dX11_digest_65 : decode cX11_digest 65 = .ok (.iload_n 3, 1) := by decide +kernel
theorem dX11_digest_66 : decode cX11_digest 66 = .ok (.iload 4, 2) := by decide +kernel
theorem dX11_digest_68 : decode cX11_digest 68 = .ok (.invokevirtual 123, 3) := by decide +kernel
theorem dX11_digest_71 : decode cX11_digest 71 = .ok (.i2l, 1) := by decide +kernel
theorem dX11_digest_72 : decode cX11_digest 72 = .ok (.ladd, 1) := by decide +kernel
theorem dX11_digest_73 : decode cX11_digest 73 = .ok (.lstore_n 1, 1) := by decide +kernel
theorem dX11_digest_74 : decode cX11_digest 74 = .ok (.iinc 4 1, 3) := by decide +kernel
theorem dX11_digest_77 : decode cX11_digest 77 = .ok (.goto (-25), 3) := by decide +kernel
theorem dX11_digest_80 : decode cX11_digest 80 = .ok (.iconst 0, 1) := by decide +kernel
theorem dX11_digest_81 : decode cX11_digest 81 = .ok (.istore 4, 2) := by decide +kernel
theorem dX11_digest_83 : decode cX11_digest 83 = .ok (.iload 4, 2) := by decide +kernel
theorem dX11_digest_85 : decode cX11_digest 85 = .ok (.iconst 3, 1) := by decide +kernel
theorem dX11_digest_86 : decode cX11_digest 86 = .ok (.if_icmp .ge 32, 3) := by decide +kernel
theorem dX11_digest_89 : decode cX11_digest 89 = .ok (.lload_n 1, 1) := by decide +kernel
theorem dX11_digest_90 : decode cX11_digest 90 = .ok (.ldc2_w 184, 3) := by decide +kernel
theorem dX11_digest_93 : decode cX11_digest 93 = .ok (.lmul, 1) := by decide +kernel
theorem dX11_digest_94 : decode cX11_digest 94 = .ok (.aload_n 0, 1) := by decide +kernel
theorem dX11_digest_95 : decode cX11_digest 95 = .ok (.getfield 10, 3) := by decide +kernel
theorem dX11_digest_98 : decode cX11_digest 98 = .ok (.getfield 36, 3) := by decide +kernel
theorem dX11_digest_101 : decode cX11_digest 101 = .ok (.iload_n 3, 1) := by decide +kernel
theorem dX11_digest_102 : decode cX11_digest 102 = .ok (.aaload, 1) := by decide +kernel
theorem dX11_digest_103 : decode cX11_digest 103 = .ok (.bipush 11, 2) := by decide +kernel
theorem dX11_digest_105 : decode cX11_digest 105 = .ok (.iload 4, 2) := by decide +kernel
theorem dX11_digest_107 : decode cX11_digest 107 = .ok (.iadd, 1) := by decide +kernel
theorem dX11_digest_108 : decode cX11_digest 108 = .ok (.iaload, 1) := by decide +kernel
theorem dX11_digest_109 : decode cX11_digest 109 = .ok (.i2l, 1) := by decide +kernel
theorem dX11_digest_110 : decode cX11_digest 110 = .ok (.ladd, 1) := by decide +kernel
theorem dX11_digest_111 : decode cX11_digest 111 = .ok (.lstore_n 1, 1) := by decide +kernel
theorem dX11_digest_112 : decode cX11_digest 112 = .ok (.iinc 4 1, 3) := by decide +kernel
theorem dX11_digest_115 : decode cX11_digest 115 = .ok (.goto (-32), 3) := by decide +kernel
theorem dX11_digest_118 : decode cX11_digest 118 = .ok (.iconst 0, 1) := by decide +kernel
theorem dX11_digest_119 : decode cX11_digest 119 = .ok (.istore 4, 2) := by decide +kernel
theorem dX11_digest_121 : decode cX11_digest 121 = .ok (.iload 4, 2) := by decide +kernel
theorem dX11_digest_123 : decode cX11_digest 123 = .ok (.bipush 8, 2) := by decide +kernel
theorem dX11_digest_125 : decode cX11_digest 125 = .ok (.if_icmp .ge 32, 3) := by decide +kernel
theorem dX11_digest_128 : decode cX11_digest 128 = .ok (.lload_n 1, 1) := by decide +kernel
theorem dX11_digest_129 : decode cX11_digest 129 = .ok (.ldc2_w 184, 3) := by decide +kernel
theorem dX11_digest_132 : decode cX11_digest 132 = .ok (.lmul, 1) := by decide +kernel
theorem dX11_digest_133 : decode cX11_digest 133 = .ok (.aload_n 0, 1) := by decide +kernel
theorem dX11_digest_134 : decode cX11_digest 134 = .ok (.getfield 10, 3) := by decide +kernel
theorem dX11_digest_137 : decode cX11_digest 137 = .ok (.getfield 36, 3) := by decide +kernel
theorem dX11_digest_140 : decode cX11_digest 140 = .ok (.iload_n 3, 1) := by decide +kernel
theorem dX11_digest_141 : decode cX11_digest 141 = .ok (.aaload, 1) := by decide +kernel
theorem dX11_digest_142 : decode cX11_digest 142 = .ok (.bipush 14, 2) := by decide +kernel
theorem dX11_digest_144 : decode cX11_digest 144 = .ok (.iload 4, 2) := by decide +kernel
theorem dX11_digest_146 : decode cX11_digest 146 = .ok (.iadd, 1) := by decide +kernel
theorem dX11_digest_147 : decode cX11_digest 147 = .ok (.iaload, 1) := by decide +kernel
theorem dX11_digest_148 : decode cX11_digest 148 = .ok (.i2l, 1) := by decide +kernel
theorem dX11_digest_149 : decode cX11_digest 149 = .ok (.ladd, 1) := by decide +kernel
theorem dX11_digest_150 : decode cX11_digest 150 = .ok (.lstore_n 1, 1) := by decide +kernel
theorem dX11_digest_151 : decode cX11_digest 151 = .ok (.iinc 4 1, 3) := by decide +kernel
theorem dX11_digest_154 : decode cX11_digest 154 = .ok (.goto (-33), 3) := by decide +kernel
theorem dX11_digest_157 : decode cX11_digest 157 = .ok (.iconst 0, 1) := by decide +kernel
theorem dX11_digest_158 : decode cX11_digest 158 = .ok (.istore 4, 2) := by decide +kernel
theorem dX11_digest_160 : decode cX11_digest 160 = .ok (.iload 4, 2) := by decide +kernel
theorem dX11_digest_162 : decode cX11_digest 162 = .ok (.aload_n 0, 1) := by decide +kernel
theorem dX11_digest_163 : decode cX11_digest 163 = .ok (.getfield 10, 3) := by decide +kernel
theorem dX11_digest_166 : decode cX11_digest 166 = .ok (.getfield 116, 3) := by decide +kernel
theorem dX11_digest_169 : decode cX11_digest 169 = .ok (.iload_n 3, 1) := by decide +kernel
theorem dX11_digest_170 : decode cX11_digest 170 = .ok (.aaload, 1) := by decide +kernel
theorem dX11_digest_171 : decode cX11_digest 171 = .ok (.invokestatic 119, 3) := by decide +kernel
theorem dX11_digest_174 : decode cX11_digest 174 = .ok (.if_icmp .ge 31, 3) := by decide +kernel
theorem dX11_digest_177 : decode cX11_digest 177 = .ok (.lload_n 1, 1) := by decide +kernel
theorem dX11_digest_178 : decode cX11_digest 178 = .ok (.ldc2_w 184, 3) := by decide +kernel
theorem dX11_digest_181 : decode cX11_digest 181 = .ok (.lmul, 1) := by decide +kernel
theorem dX11_digest_182 : decode cX11_digest 182 = .ok (.aload_n 0, 1) := by decide +kernel
theorem dX11_digest_183 : decode cX11_digest 183 = .ok (.getfield 10, 3) := by decide +kernel
theorem dX11_digest_186 : decode cX11_digest 186 = .ok (.getfield 116, 3) := by decide +kernel
theorem dX11_digest_189 : decode cX11_digest 189 = .ok (.iload_n 3, 1) := by decide +kernel
theorem dX11_digest_190 : decode cX11_digest 190 = .ok (.aaload, 1) := by decide +kernel
theorem dX11_digest_191 : decode cX11_digest 191 = .ok (.iload 4, 2) := by decide +kernel
theorem dX11_digest_193 : decode cX11_digest 193 = .ok (.iaload, 1) := by decide +kernel
theorem dX11_digest_194 : decode cX11_digest 194 = .ok (.i2l, 1) := by decide +kernel
theorem dX11_digest_195 : decode cX11_digest 195 = .ok (.ladd, 1) := by decide +kernel
theorem dX11_digest_196 : decode cX11_digest 196 = .ok (.lconst 1, 1) := by decide +kernel
theorem dX11_digest_197 : decode cX11_digest 197 = .ok (.lsub, 1) := by decide +kernel
theorem dX11_digest_198 : decode cX11_digest 198 = .ok (.lstore_n 1, 1) := by decide +kernel
theorem dX11_digest_199 : decode cX11_digest 199 = .ok (.iinc 4 1, 3) := by decide +kernel
theorem dX11_digest_202 : decode cX11_digest 202 = .ok (.goto (-42), 3) := by decide +kernel
theorem dX11_digest_205 : decode cX11_digest 205 = .ok (.iconst 0, 1) := by decide +kernel
theorem dX11_digest_206 : decode cX11_digest 206 = .ok (.istore 4, 2) := by decide +kernel
theorem dX11_digest_208 : decode cX11_digest 208 = .ok (.iload 4, 2) := by decide +kernel
theorem dX11_digest_210 : decode cX11_digest 210 = .ok (.aload_n 0, 1) := by decide +kernel
theorem dX11_digest_211 : decode cX11_digest 211 = .ok (.getfield 10, 3) := by decide +kernel
theorem dX11_digest_214 : decode cX11_digest 214 = .ok (.getfield 30, 3) := by decide +kernel
theorem dX11_digest_217 : decode cX11_digest 217 = .ok (.if_icmp .ge 27, 3) := by decide +kernel
theorem dX11_digest_220 : decode cX11_digest 220 = .ok (.lload_n 1, 1) := by decide +kernel
theorem dX11_digest_221 : decode cX11_digest 221 = .ok (.ldc2_w 184, 3) := by decide +kernel
theorem dX11_digest_224 : decode cX11_digest 224 = .ok (.lmul, 1) := by decide +kernel
theorem dX11_digest_225 : decode cX11_digest 225 = .ok (.aload_n 0, 1) := by decide +kernel
theorem dX11_digest_226 : decode cX11_digest 226 = .ok (.getfield 10, 3) := by decide +kernel
theorem dX11_digest_229 : decode cX11_digest 229 = .ok (.iload_n 3, 1) := by decide +kernel
theorem dX11_digest_230 : decode cX11_digest 230 = .ok (.iload 4, 2) := by decide +kernel
theorem dX11_digest_232 : decode cX11_digest 232 = .ok (.invokevirtual 126, 3) := by decide +kernel
theorem dX11_digest_235 : decode cX11_digest 235 = .ok (.i2l, 1) := by decide +kernel
theorem dX11_digest_236 : decode cX11_digest 236 = .ok (.ladd, 1) := by decide +kernel
theorem dX11_digest_237 : decode cX11_digest 237 = .ok (.lstore_n 1, 1) := by decide +kernel
theorem dX11_digest_238 : decode cX11_digest 238 = .ok (.iinc 4 1, 3) := by decide +kernel
theorem dX11_digest_241 : decode cX11_digest 241 = .ok (.goto (-33), 3) := by decide +kernel
theorem dX11_digest_244 : decode cX11_digest 244 = .ok (.lload_n 1, 1) := by decide +kernel
theorem dX11_digest_245 : decode cX11_digest 245 = .ok (.ldc2_w 184, 3) := by decide +kernel
theorem dX11_digest_248 : decode cX11_digest 248 = .ok (.lmul, 1) := by decide +kernel
theorem dX11_digest_249 : decode cX11_digest 249 = .ok (.aload_n 0, 1) := by decide +kernel
theorem dX11_digest_250 : decode cX11_digest 250 = .ok (.iload_n 3, 1) := by decide +kernel
theorem dX11_digest_251 : decode cX11_digest 251 = .ok (.invokevirtual 165, 3) := by decide +kernel
theorem dX11_digest_254 : decode cX11_digest 254 = .ok (.i2l, 1) := by decide +kernel
theorem dX11_digest_255 : decode cX11_digest 255 = .ok (.ladd, 1) := by decide +kernel
theorem dX11_digest_256 : decode cX11_digest 256 = .ok (.lstore_n 1, 1) := by decide +kernel
theorem dX11_digest_257 : decode cX11_digest 257 = .ok (.iinc 3 1, 3) := by decide +kernel
theorem dX11_digest_260 : decode cX11_digest 260 = .ok (.goto (-222), 3) := by decide +kernel
theorem dX11_digest_263 : decode cX11_digest 263 = .ok (.iconst 0, 1) := by decide +kernel
theorem dX11_digest_264 : decode cX11_digest 264 = .ok (.istore_n 3, 1) := by decide +kernel
theorem dX11_digest_265 : decode cX11_digest 265 = .ok (.iload_n 3, 1) := by decide +kernel
theorem dX11_digest_266 : decode cX11_digest 266 = .ok (.aload_n 0, 1) := by decide +kernel
theorem dX11_digest_267 : decode cX11_digest 267 = .ok (.getfield 10, 3) := by decide +kernel
theorem dX11_digest_270 : decode cX11_digest 270 = .ok (.getfield 44, 3) := by decide +kernel
theorem dX11_digest_273 : decode cX11_digest 273 = .ok (.if_icmp .ge 39, 3) := by decide +kernel
theorem dX11_digest_276 : decode cX11_digest 276 = .ok (.iconst 0, 1) := by decide +kernel
theorem dX11_digest_277 : decode cX11_digest 277 = .ok (.istore 4, 2) := by decide +kernel
theorem dX11_digest_279 : decode cX11_digest 279 = .ok (.iload 4, 2) := by decide +kernel
theorem dX11_digest_281 : decode cX11_digest 281 = .ok (.iconst 3, 1) := by decide +kernel
theorem dX11_digest_282 : decode cX11_digest 282 = .ok (.if_icmp .gt 24, 3) := by decide +kernel
theorem dX11_digest_285 : decode cX11_digest 285 = .ok (.lload_n 1, 1) := by decide +kernel
theorem dX11_digest_286 : decode cX11_digest 286 = .ok (.ldc2_w 184, 3) := by decide +kernel
theorem dX11_digest_289 : decode cX11_digest 289 = .ok (.lmul, 1) := by decide +kernel
theorem dX11_digest_290 : decode cX11_digest 290 = .ok (.aload_n 0, 1) := by decide +kernel
theorem dX11_digest_291 : decode cX11_digest 291 = .ok (.iload_n 3, 1) := by decide +kernel
theorem dX11_digest_292 : decode cX11_digest 292 = .ok (.iload 4, 2) := by decide +kernel
theorem dX11_digest_294 : decode cX11_digest 294 = .ok (.invokevirtual 129, 3) := by decide +kernel
theorem dX11_digest_297 : decode cX11_digest 297 = .ok (.i2l, 1) := by decide +kernel
theorem dX11_digest_298 : decode cX11_digest 298 = .ok (.ladd, 1) := by decide +kernel
theorem dX11_digest_299 : decode cX11_digest 299 = .ok (.lstore_n 1, 1) := by decide +kernel
theorem dX11_digest_300 : decode cX11_digest 300 = .ok (.iinc 4 1, 3) := by decide +kernel
theorem dX11_digest_303 : decode cX11_digest 303 = .ok (.goto (-24), 3) := by decide +kernel
theorem dX11_digest_306 : decode cX11_digest 306 = .ok (.iinc 3 1, 3) := by decide +kernel
theorem dX11_digest_309 : decode cX11_digest 309 = .ok (.goto (-44), 3) := by decide +kernel
theorem dX11_digest_312 : decode cX11_digest 312 = .ok (.iconst 0, 1) := by decide +kernel
theorem dX11_digest_313 : decode cX11_digest 313 = .ok (.istore_n 3, 1) := by decide +kernel
theorem dX11_digest_314 : decode cX11_digest 314 = .ok (.iload_n 3, 1) := by decide +kernel
theorem dX11_digest_315 : decode cX11_digest 315 = .ok (.aload_n 0, 1) := by decide +kernel
theorem dX11_digest_316 : decode cX11_digest 316 = .ok (.getfield 10, 3) := by decide +kernel
theorem dX11_digest_319 : decode cX11_digest 319 = .ok (.getfield 33, 3) := by decide +kernel
theorem dX11_digest_322 : decode cX11_digest 322 = .ok (.if_icmp .ge 46, 3) := by decide +kernel
theorem dX11_digest_325 : decode cX11_digest 325 = .ok (.iconst 0, 1) := by decide +kernel
theorem dX11_digest_326 : decode cX11_digest 326 = .ok (.istore 4, 2) := by decide +kernel
theorem dX11_digest_328 : decode cX11_digest 328 = .ok (.iload 4, 2) := by decide +kernel
theorem dX11_digest_330 : decode cX11_digest 330 = .ok (.iconst 4, 1) := by decide +kernel
theorem dX11_digest_331 : decode cX11_digest 331 = .ok (.if_icmp .gt 31, 3) := by decide +kernel
theorem dX11_digest_334 : decode cX11_digest 334 = .ok (.lload_n 1, 1) := by decide +kernel
theorem dX11_digest_335 : decode cX11_digest 335 = .ok (.ldc2_w 184, 3) := by decide +kernel
theorem dX11_digest_338 : decode cX11_digest 338 = .ok (.lmul, 1) := by decide +kernel
theorem dX11_digest_339 : decode cX11_digest 339 = .ok (.aload_n 0, 1) := by decide +kernel
theorem dX11_digest_340 : decode cX11_digest 340 = .ok (.getfield 10, 3) := by decide +kernel
theorem dX11_digest_343 : decode cX11_digest 343 = .ok (.getfield 54, 3) := by decide +kernel
theorem dX11_digest_346 : decode cX11_digest 346 = .ok (.iload_n 3, 1) := by decide +kernel
theorem dX11_digest_347 : decode cX11_digest 347 = .ok (.aaload, 1) := by decide +kernel
theorem dX11_digest_348 : decode cX11_digest 348 = .ok (.iconst 1, 1) := by decide +kernel
theorem dX11_digest_349 : decode cX11_digest 349 = .ok (.iload 4, 2) := by decide +kernel
theorem dX11_digest_351 : decode cX11_digest 351 = .ok (.iadd, 1) := by decide +kernel
theorem dX11_digest_352 : decode cX11_digest 352 = .ok (.iaload, 1) := by decide +kernel
theorem dX11_digest_353 : decode cX11_digest 353 = .ok (.i2l, 1) := by decide +kernel
theorem dX11_digest_354 : decode cX11_digest 354 = .ok (.ladd, 1) := by decide +kernel
theorem dX11_digest_355 : decode cX11_digest 355 = .ok (.lstore_n 1, 1) := by decide +kernel
theorem dX11_digest_356 : decode cX11_digest 356 = .ok (.iinc 4 1, 3) := by decide +kernel
theorem dX11_digest_359 : decode cX11_digest 359 = .ok (.goto (-31), 3) := by decide +kernel
theorem dX11_digest_362 : decode cX11_digest 362 = .ok (.iinc 3 1, 3) := by decide +kernel
theorem dX11_digest_365 : decode cX11_digest 365 = .ok (.goto (-51), 3) := by decide +kernel
theorem dX11_digest_368 : decode cX11_digest 368 = .ok (.lload_n 1, 1) := by decide +kernel
theorem dX11_digest_369 : decode cX11_digest 369 = .ok (.ldc2_w 184, 3) := by decide +kernel
theorem dX11_digest_372 : decode cX11_digest 372 = .ok (.lmul, 1) := by decide +kernel
theorem dX11_digest_373 : decode cX11_digest 373 = .ok (.aload_n 0, 1) := by decide +kernel
theorem dX11_digest_374 : decode cX11_digest 374 = .ok (.getfield 10, 3) := by decide +kernel
theorem dX11_digest_377 : decode cX11_digest 377 = .ok (.invokevirtual 156, 3) := by decide +kernel
theorem dX11_digest_380 : decode cX11_digest 380 = .ok (.iconst 3, 1) := by decide +kernel
theorem dX11_digest_381 : decode cX11_digest 381 = .ok (.invokevirtual 92, 3) := by decide +kernel
theorem dX11_digest_384 : decode cX11_digest 384 = .ok (.i2l, 1) := by decide +kernel
theorem dX11_digest_385 : decode cX11_digest 385 = .ok (.ladd, 1) := by decide +kernel
theorem dX11_digest_386 : decode cX11_digest 386 = .ok (.lreturn, 1) := by decide +kernel
theorem q_mn : ∀ k : Fin 14, fMO_manyNow (Int32.ofNat k) zt0 zfr3 = some 0 := by decide +kernel
set_option maxHeartbeats 8000000 in
set_option maxRecDepth 20000 in
theorem zrM_digest (h0 : Nat) (l : List Nat) : zAl yX11_digest cX11_digest 5 (some .long) 10 330 30 568 [.ref ((zadM h0 l) (0, 0, 0))] (fun cA => zwl cA (zadM h0 l) [(4, [1]), (3, [])] [zm0, zfr3]) (fun cA v ws => v = some (.long (-2578702226831428416)) ∧ ∃ s, ws[0]? = some (h0, .inr (10, [.int 0, .ref s]))) := by
  obtain ⟨t0, e⟩ := q_mrun (a1 := 3) (by decide) (by decide) (s := zfr3) ⟨rfl, rfl, rfl, by decide, rfl⟩
  refine zAl_of (by decide) (Nat.le_of_ble_eq_true rfl) fun X F T hex => ?_
  show zN X 30 568 10 330 _ 5 0 [(0, .ref ((zadM h0 l) (0, 0, 0)))] [] (zwl (zcA X) (zadM h0 l) [(4, [1]), (3, [])] [zm0, zfr3]) 0 0
  refine zn_aload_n F (i := 0) (k := 0) dX11_digest_0 rfl rfl ?_
  refine zn_iconst F (v := 0) dX11_digest_1 (by decide) ?_
  refine zn_put F (j := 0) (ws' := zwl (zcA X) (zadM h0 l) [(4, [1]), (3, [])] [zt0, zfr3]) dX11_digest_2 ypRX11_16 zCl_10 rfl (zlb rfl) rfl ?_
  refine zn_ldc2 F dX11_digest_5 wlRX11_182 ?_
  refine zn_lstore_n F (i := 1) (lv' := [(1, .long 58176), (0, .ref ((zadM h0 l) (0, 0, 0)))]) dX11_digest_8 rfl (by decide) rfl ?_
  refine zn_iconst F (v := 0) dX11_digest_9 (by decide) ?_
  refine zn_istore_n F (i := 3) (lv' := [(3, .int 0), (1, .long 58176), (0, .ref ((zadM h0 l) (0, 0, 0)))]) dX11_digest_10 rfl (by decide) rfl ?_
  refine zn_iload_n F (i := 3) (k := 0) dX11_digest_11 rfl rfl ?_
  refine zn_bipush F (v := 13) dX11_digest_12 (by decide) ?_
  refine zn_icmp_gt F (tgt := 36) dX11_digest_14 (by decide) (fun z => absurd z (by decide)) (fun _ => ?_)
  refine zn_lload_n F (i := 1) (k := 1) dX11_digest_17 rfl rfl ?_
  refine zn_ldc2 F dX11_digest_18 wlRX11_184 ?_
  refine zn_lmulv F (v := 1803456) dX11_digest_21 (by decide +kernel) ?_
  refine zn_aload_n F (i := 0) (k := 2) dX11_digest_22 rfl rfl ?_
  refine zn_iload_n F (i := 3) (k := 0) dX11_digest_23 rfl rfl ?_
  refine zn_callV F (as := [.int 0]) (st := [.long 1803456]) (j0 := 0) (zAl_z (v := some (zi 0)) (as := [zr 0 0 0, zi 0]) (Rg := [(4, [1]), (3, [])]) (Ms := [zt0, zfr3]) (Ms' := [zt0, zfr3]) (zfMO_manyNow 0 zt0 zfr3 _ (q_mn ⟨0, by decide⟩)) rfl (zadM h0 l)) dX11_digest_24 ycRX11_153 yyyX11_manyNow rfl (wsB := []) rfl (ci := 10) rfl rfl rfl (Nat.le_of_ble_eq_true rfl) (Nat.le_of_ble_eq_true rfl) (Nat.le_of_ble_eq_true rfl) (Nat.le_of_ble_eq_true rfl) (Nat.le_of_ble_eq_true rfl) fun v w1 hB => ?_
  obtain ⟨rfl, rfl⟩ := hB
  refine zn_ws (ws' := zwl (zcA X) (zadM h0 l) [(4, [1]), (3, [])] [zt0, zfr3]) rfl ?_
  refine zn_i2l F dX11_digest_27 ?_
  refine zn_laddv F (v := 1803456) dX11_digest_28 (by decide +kernel) ?_
  refine zn_lstore_n F (i := 1) (lv' := [(1, .long 1803456), (3, .int 0), (0, .ref ((zadM h0 l) (0, 0, 0)))]) dX11_digest_29 rfl (by decide) rfl ?_
  refine zn_iinc F (i := 3) (k := 1) (v := 1) (lv' := [(3, .int 1), (1, .long 1803456), (0, .ref ((zadM h0 l) (0, 0, 0)))]) dX11_digest_30 rfl (by decide) (by decide) rfl ?_
  refine zn_goto F (tgt := 11) dX11_digest_33 (by decide) ?_
  refine zn_iload_n F (i := 3) (k := 0) dX11_digest_11 rfl rfl ?_
  refine zn_bipush F (v := 13) dX11_digest_12 (by decide) ?_
  refine zn_icmp_gt F (tgt := 36) dX11_digest_14 (by decide) (fun z => absurd z (by decide)) (fun _ => ?_)
  refine zn_lload_n F (i := 1) (k := 1) dX11_digest_17 rfl rfl ?_
  refine zn_ldc2 F dX11_digest_18 wlRX11_184 ?_
  refine zn_lmulv F (v := 55907136) dX11_digest_21 (by decide +kernel) ?_
  refine zn_aload_n F (i := 0) (k := 2) dX11_digest_22 rfl rfl ?_
  refine zn_iload_n F (i := 3) (k := 0) dX11_digest_23 rfl rfl ?_
  refine zn_callV F (as := [.int 1]) (st := [.long 55907136]) (j0 := 0) (zAl_z (v := some (zi 0)) (as := [zr 0 0 0, zi 1]) (Rg := [(4, [1]), (3, [])]) (Ms := [zt0, zfr3]) (Ms' := [zt0, zfr3]) (zfMO_manyNow 1 zt0 zfr3 _ (q_mn ⟨1, by decide⟩)) rfl (zadM h0 l)) dX11_digest_24 ycRX11_153 yyyX11_manyNow rfl (wsB := []) rfl (ci := 10) rfl rfl rfl (Nat.le_of_ble_eq_true rfl) (Nat.le_of_ble_eq_true rfl) (Nat.le_of_ble_eq_true rfl) (Nat.le_of_ble_eq_true rfl) (Nat.le_of_ble_eq_true rfl) fun v w1 hB => ?_
  obtain ⟨rfl, rfl⟩ := hB
  refine zn_ws (ws' := zwl (zcA X) (zadM h0 l) [(4, [1]), (3, [])] [zt0, zfr3]) rfl ?_
  refine zn_i2l F dX11_digest_27 ?_
  refine zn_laddv F (v := 55907136) dX11_digest_28 (by decide +kernel) ?_
  refine zn_lstore_n F (i := 1) (lv' := [(1, .long 55907136), (3, .int 1), (0, .ref ((zadM h0 l) (0, 0, 0)))]) dX11_digest_29 rfl (by decide) rfl ?_
  refine zn_iinc F (i := 3) (k := 1) (v := 2) (lv' := [(3, .int 2), (1, .long 55907136), (0, .ref ((zadM h0 l) (0, 0, 0)))]) dX11_digest_30 rfl (by decide) (by decide) rfl ?_
  refine zn_goto F (tgt := 11) dX11_digest_33 (by decide) ?_
  refine zn_iload_n F (i := 3) (k := 0) dX11_digest_11 rfl rfl ?_
  refine zn_bipush F (v := 13) dX11_digest_12 (by decide) ?_
  refine zn_icmp_gt F (tgt := 36) dX11_digest_14 (by decide) (fun z => absurd z (by decide)) (fun _ => ?_)
  refine zn_lload_n F (i := 1) (k := 1) dX11_digest_17 rfl rfl ?_
  refine zn_ldc2 F dX11_digest_18 wlRX11_184 ?_
  refine zn_lmulv F (v := 1733121216) dX11_digest_21 (by decide +kernel) ?_
  refine zn_aload_n F (i := 0) (k := 2) dX11_digest_22 rfl rfl ?_
  refine zn_iload_n F (i := 3) (k := 0) dX11_digest_23 rfl rfl ?_
  refine zn_callV F (as := [.int 2]) (st := [.long 1733121216]) (j0 := 0) (zAl_z (v := some (zi 0)) (as := [zr 0 0 0, zi 2]) (Rg := [(4, [1]), (3, [])]) (Ms := [zt0, zfr3]) (Ms' := [zt0, zfr3]) (zfMO_manyNow 2 zt0 zfr3 _ (q_mn ⟨2, by decide⟩)) rfl (zadM h0 l)) dX11_digest_24 ycRX11_153 yyyX11_manyNow rfl (wsB := []) rfl (ci := 10) rfl rfl rfl (Nat.le_of_ble_eq_true rfl) (Nat.le_of_ble_eq_true rfl) (Nat.le_of_ble_eq_true rfl) (Nat.le_of_ble_eq_true rfl) (Nat.le_of_ble_eq_true rfl) fun v w1 hB => ?_
  obtain ⟨rfl, rfl⟩ := hB
  refine zn_ws (ws' := zwl (zcA X) (zadM h0 l) [(4, [1]), (3, [])] [zt0, zfr3]) rfl ?_
  refine zn_i2l F dX11_digest_27 ?_
  refine zn_laddv F (v := 1733121216) dX11_digest_28 (by decide +kernel) ?_
  refine zn_lstore_n F (i := 1) (lv' := [(1, .long 1733121216), (3, .int 2), (0, .ref ((zadM h0 l) (0, 0, 0)))]) dX11_digest_29 rfl (by decide) rfl ?_
  refine zn_iinc F (i := 3) (k := 1) (v := 3) (lv' := [(3, .int 3), (1, .long 1733121216), (0, .ref ((zadM h0 l) (0, 0, 0)))]) dX11_digest_30 rfl (by decide) (by decide) rfl ?_
  refine zn_goto F (tgt := 11) dX11_digest_33 (by decide) ?_
  refine zn_iload_n F (i := 3) (k := 0) dX11_digest_11 rfl rfl ?_
  refine zn_bipush F (v := 13) dX11_digest_12 (by decide) ?_
  refine zn_icmp_gt F (tgt := 36) dX11_digest_14 (by decide) (fun z => absurd z (by decide)) (fun _ => ?_)
  refine zn_lload_n F (i := 1) (k := 1) dX11_digest_17 rfl rfl ?_
  refine zn_ldc2 F dX11_digest_18 wlRX11_184 ?_
  refine zn_lmulv F (v := 53726757696) dX11_digest_21 (by decide +kernel) ?_
  refine zn_aload_n F (i := 0) (k := 2) dX11_digest_22 rfl rfl ?_
  refine zn_iload_n F (i := 3) (k := 0) dX11_digest_23 rfl rfl ?_
  refine zn_callV F (as := [.int 3]) (st := [.long 53726757696]) (j0 := 0) (zAl_z (v := some (zi 0)) (as := [zr 0 0 0, zi 3]) (Rg := [(4, [1]), (3, [])]) (Ms := [zt0, zfr3]) (Ms' := [zt0, zfr3]) (zfMO_manyNow 3 zt0 zfr3 _ (q_mn ⟨3, by decide⟩)) rfl (zadM h0 l)) dX11_digest_24 ycRX11_153 yyyX11_manyNow rfl (wsB := []) rfl (ci := 10) rfl rfl rfl (Nat.le_of_ble_eq_true rfl) (Nat.le_of_ble_eq_true rfl) (Nat.le_of_ble_eq_true rfl) (Nat.le_of_ble_eq_true rfl) (Nat.le_of_ble_eq_true rfl) fun v w1 hB => ?_
  obtain ⟨rfl, rfl⟩ := hB
  refine zn_ws (ws' := zwl (zcA X) (zadM h0 l) [(4, [1]), (3, [])] [zt0, zfr3]) rfl ?_
  refine zn_i2l F dX11_digest_27 ?_
  refine zn_laddv F (v := 53726757696) dX11_digest_28 (by decide +kernel) ?_
  refine zn_lstore_n F (i := 1) (lv' := [(1, .long 53726757696), (3, .int 3), (0, .ref ((zadM h0 l) (0, 0, 0)))]) dX11_digest_29 rfl (by decide) rfl ?_
  refine zn_iinc F (i := 3) (k := 1) (v := 4) (lv' := [(3, .int 4), (1, .long 53726757696), (0, .ref ((zadM h0 l) (0, 0, 0)))]) dX11_digest_30 rfl (by decide) (by decide) rfl ?_
  refine zn_goto F (tgt := 11) dX11_digest_33 (by decide) ?_
  refine zn_iload_n F (i := 3) (k := 0) dX11_digest_11 rfl rfl ?_
  refine zn_bipush F (v := 13) dX11_digest_12 (by decide) ?_
  refine zn_icmp_gt F (tgt := 36) dX11_digest_14 (by decide) (fun z => absurd z (by decide)) (fun _ => ?_)
  refine zn_lload_n F (i := 1) (k := 1) dX11_digest_17 rfl rfl ?_
  refine zn_ldc2 F dX11_digest_18 wlRX11_184 ?_
  refine zn_lmulv F (v := 1665529488576) dX11_digest_21 (by decide +kernel) ?_
  refine zn_aload_n F (i := 0) (k := 2) dX11_digest_22 rfl rfl ?_
  refine zn_iload_n F (i := 3) (k := 0) dX11_digest_23 rfl rfl ?_
  refine zn_callV F (as := [.int 4]) (st := [.long 1665529488576]) (j0 := 0) (zAl_z (v := some (zi 0)) (as := [zr 0 0 0, zi 4]) (Rg := [(4, [1]), (3, [])]) (Ms := [zt0, zfr3]) (Ms' := [zt0, zfr3]) (zfMO_manyNow 4 zt0 zfr3 _ (q_mn ⟨4, by decide⟩)) rfl (zadM h0 l)) dX11_digest_24 ycRX11_153 yyyX11_manyNow rfl (wsB := []) rfl (ci := 10) rfl rfl rfl (Nat.le_of_ble_eq_true rfl) (Nat.le_of_ble_eq_true rfl) (Nat.le_of_ble_eq_true rfl) (Nat.le_of_ble_eq_true rfl) (Nat.le_of_ble_eq_true rfl) fun v w1 hB => ?_
  obtain ⟨rfl, rfl⟩ := hB
  refine zn_ws (ws' := zwl (zcA X) (zadM h0 l) [(4, [1]), (3, [])] [zt0, zfr3]) rfl ?_
  refine zn_i2l F dX11_digest_27 ?_
  refine zn_laddv F (v := 1665529488576) dX11_digest_28 (by decide +kernel) ?_
  refine zn_lstore_n F (i := 1) (lv' := [(1, .long 1665529488576), (3, .int 4), (0, .ref ((zadM h0 l) (0, 0, 0)))]) dX11_digest_29 rfl (by decide) rfl ?_
  refine zn_iinc F (i := 3) (k := 1) (v := 5) (lv' := [(3, .int 5), (1, .long 1665529488576), (0, .ref ((zadM h0 l) (0, 0, 0)))]) dX11_digest_30 rfl (by decide) (by decide) rfl ?_
  refine zn_goto F (tgt := 11) dX11_digest_33 (by decide) ?_
  refine zn_iload_n F (i := 3) (k := 0) dX11_digest_11 rfl rfl ?_
  refine zn_bipush F (v := 13) dX11_digest_12 (by decide) ?_
  refine zn_icmp_gt F (tgt := 36) dX11_digest_14 (by decide) (fun z => absurd z (by decide)) (fun _ => ?_)
  refine zn_lload_n F (i := 1) (k := 1) dX11_digest_17 rfl rfl ?_
  refine zn_ldc2 F dX11_digest_18 wlRX11_184 ?_
  refine zn_lmulv F (v := 51631414145856) dX11_digest_21 (by decide +kernel) ?_
  refine zn_aload_n F (i := 0) (k := 2) dX11_digest_22 rfl rfl ?_
  refine zn_iload_n F (i := 3) (k := 0) dX11_digest_23 rfl rfl ?_
  refine zn_callV F (as := [.int 5]) (st := [.long 51631414145856]) (j0 := 0) (zAl_z (v := some (zi 0)) (as := [zr 0 0 0, zi 5]) (Rg := [(4, [1]), (3, [])]) (Ms := [zt0, zfr3]) (Ms' := [zt0, zfr3]) (zfMO_manyNow 5 zt0 zfr3 _ (q_mn ⟨5, by decide⟩)) rfl (zadM h0 l)) dX11_digest_24 ycRX11_153 yyyX11_manyNow rfl (wsB := []) rfl (ci := 10) rfl rfl rfl (Nat.le_of_ble_eq_true rfl) (Nat.le_of_ble_eq_true rfl) (Nat.le_of_ble_eq_true rfl) (Nat.le_of_ble_eq_true rfl) (Nat.le_of_ble_eq_true rfl) fun v w1 hB => ?_
  obtain ⟨rfl, rfl⟩ := hB
  refine zn_ws (ws' := zwl (zcA X) (zadM h0 l) [(4, [1]), (3, [])] [zt0, zfr3]) rfl ?_
  refine zn_i2l F dX11_digest_27 ?_
  refine zn_laddv F (v := 51631414145856) dX11_digest_28 (by decide +kernel) ?_
  refine zn_lstore_n F (i := 1) (lv' := [(1, .long 51631414145856), (3, .int 5), (0, .ref ((zadM h0 l) (0, 0, 0)))]) dX11_digest_29 rfl (by decide) rfl ?_
  refine zn_iinc F (i := 3) (k := 1) (v := 6) (lv' := [(3, .int 6), (1, .long 51631414145856), (0, .ref ((zadM h0 l) (0, 0, 0)))]) dX11_digest_30 rfl (by decide) (by decide) rfl ?_
  refine zn_goto F (tgt := 11) dX11_digest_33 (by decide) ?_
  refine zn_iload_n F (i := 3) (k := 0) dX11_digest_11 rfl rfl ?_
  refine zn_bipush F (v := 13) dX11_digest_12 (by decide) ?_
  refine zn_icmp_gt F (tgt := 36) dX11_digest_14 (by decide) (fun z => absurd z (by decide)) (fun _ => ?_)
  refine zn_lload_n F (i := 1) (k := 1) dX11_digest_17 rfl rfl ?_
  refine zn_ldc2 F dX11_digest_18 wlRX11_184 ?_
  refine zn_lmulv F (v := 1600573838521536) dX11_digest_21 (by decide +kernel) ?_
  refine zn_aload_n F (i := 0) (k := 2) dX11_digest_22 rfl rfl ?_
  refine zn_iload_n F (i := 3) (k := 0) dX11_digest_23 rfl rfl ?_
  refine zn_callV F (as := [.int 6]) (st := [.long 1600573838521536]) (j0 := 0) (zAl_z (v := some (zi 0)) (as := [zr 0 0 0, zi 6]) (Rg := [(4, [1]), (3, [])]) (Ms := [zt0, zfr3]) (Ms' := [zt0, zfr3]) (zfMO_manyNow 6 zt0 zfr3 _ (q_mn ⟨6, by decide⟩)) rfl (zadM h0 l)) dX11_digest_24 ycRX11_153 yyyX11_manyNow rfl (wsB := []) rfl (ci := 10) rfl rfl rfl (Nat.le_of_ble_eq_true rfl) (Nat.le_of_ble_eq_true rfl) (Nat.le_of_ble_eq_true rfl) (Nat.le_of_ble_eq_true rfl) (Nat.le_of_ble_eq_true rfl) fun v w1 hB => ?_
  obtain ⟨rfl, rfl⟩ := hB
  refine zn_ws (ws' := zwl (zcA X) (zadM h0 l) [(4, [1]), (3, [])] [zt0, zfr3]) rfl ?_
  refine zn_i2l F dX11_digest_27 ?_
  refine zn_laddv F (v := 1600573838521536) dX11_digest_28 (by decide +kernel) ?_
  refine zn_lstore_n F (i := 1) (lv' := [(1, .long 1600573838521536), (3, .int 6), (0, .ref ((zadM h0 l) (0, 0, 0)))]) dX11_digest_29 rfl (by decide) rfl ?_
  refine zn_iinc F (i := 3) (k := 1) (v := 7) (lv' := [(3, .int 7), (1, .long 1600573838521536), (0, .ref ((zadM h0 l) (0, 0, 0)))]) dX11_digest_30 rfl (by decide) (by decide) rfl ?_
  refine zn_goto F (tgt := 11) dX11_digest_33 (by decide) ?_
  refine zn_iload_n F (i := 3) (k := 0) dX11_digest_11 rfl rfl ?_
  refine zn_bipush F (v := 13) dX11_digest_12 (by decide) ?_
  refine zn_icmp_gt F (tgt := 36) dX11_digest_14 (by decide) (fun z => absurd z (by decide)) (fun _ => ?_)
  refine zn_lload_n F (i := 1) (k := 1) dX11_digest_17 rfl rfl ?_
  refine zn_ldc2 F dX11_digest_18 wlRX11_184 ?_
  refine zn_lmulv F (v := 49617788994167616) dX11_digest_21 (by decide +kernel) ?_
  refine zn_aload_n F (i := 0) (k := 2) dX11_digest_22 rfl rfl ?_
  refine zn_iload_n F (i := 3) (k := 0) dX11_digest_23 rfl rfl ?_
  refine zn_callV F (as := [.int 7]) (st := [.long 49617788994167616]) (j0 := 0) (zAl_z (v := some (zi 0)) (as := [zr 0 0 0, zi 7]) (Rg := [(4, [1]), (3, [])]) (Ms := [zt0, zfr3]) (Ms' := [zt0, zfr3]) (zfMO_manyNow 7 zt0 zfr3 _ (q_mn ⟨7, by decide⟩)) rfl (zadM h0 l)) dX11_digest_24 ycRX11_153 yyyX11_manyNow rfl (wsB := []) rfl (ci := 10) rfl rfl rfl (Nat.le_of_ble_eq_true rfl) (Nat.le_of_ble_eq_true rfl) (Nat.le_of_ble_eq_true rfl) (Nat.le_of_ble_eq_true rfl) (Nat.le_of_ble_eq_true rfl) fun v w1 hB => ?_
  obtain ⟨rfl, rfl⟩ := hB
  refine zn_ws (ws' := zwl (zcA X) (zadM h0 l) [(4, [1]), (3, [])] [zt0, zfr3]) rfl ?_
  refine zn_i2l F dX11_digest_27 ?_
  refine zn_laddv F (v := 49617788994167616) dX11_digest_28 (by decide +kernel) ?_
  refine zn_lstore_n F (i := 1) (lv' := [(1, .long 49617788994167616), (3, .int 7), (0, .ref ((zadM h0 l) (0, 0, 0)))]) dX11_digest_29 rfl (by decide) rfl ?_
  refine zn_iinc F (i := 3) (k := 1) (v := 8) (lv' := [(3, .int 8), (1, .long 49617788994167616), (0, .ref ((zadM h0 l) (0, 0, 0)))]) dX11_digest_30 rfl (by decide) (by decide) rfl ?_
  refine zn_goto F (tgt := 11) dX11_digest_33 (by decide) ?_
  refine zn_iload_n F (i := 3) (k := 0) dX11_digest_11 rfl rfl ?_
  refine zn_bipush F (v := 13) dX11_digest_12 (by decide) ?_
  refine zn_icmp_gt F (tgt := 36) dX11_digest_14 (by decide) (fun z => absurd z (by decide)) (fun _ => ?_)
  refine zn_lload_n F (i := 1) (k := 1) dX11_digest_17 rfl rfl ?_
  refine zn_ldc2 F dX11_digest_18 wlRX11_184 ?_
  refine zn_lmulv F (v := 1538151458819196096) dX11_digest_21 (by decide +kernel) ?_
  refine zn_aload_n F (i := 0) (k := 2) dX11_digest_22 rfl rfl ?_
  refine zn_iload_n F (i := 3) (k := 0) dX11_digest_23 rfl rfl ?_
  refine zn_callV F (as := [.int 8]) (st := [.long 1538151458819196096]) (j0 := 0) (zAl_z (v := some (zi 0)) (as := [zr 0 0 0, zi 8]) (Rg := [(4, [1]), (3, [])]) (Ms := [zt0, zfr3]) (Ms' := [zt0, zfr3]) (zfMO_manyNow 8 zt0 zfr3 _ (q_mn ⟨8, by decide⟩)) rfl (zadM h0 l)) dX11_digest_24 ycRX11_153 yyyX11_manyNow rfl (wsB := []) rfl (ci := 10) rfl rfl rfl (Nat.le_of_ble_eq_true rfl) (Nat.le_of_ble_eq_true rfl) (Nat.le_of_ble_eq_true rfl) (Nat.le_of_ble_eq_true rfl) (Nat.le_of_ble_eq_true rfl) fun v w1 hB => ?_
  obtain ⟨rfl, rfl⟩ := hB
  refine zn_ws (ws' := zwl (zcA X) (zadM h0 l) [(4, [1]), (3, [])] [zt0, zfr3]) rfl ?_
  refine zn_i2l F dX11_digest_27 ?_
  refine zn_laddv F (v := 1538151458819196096) dX11_digest_28 (by decide +kernel) ?_
  refine zn_lstore_n F (i := 1) (lv' := [(1, .long 1538151458819196096), (3, .int 8), (0, .ref ((zadM h0 l) (0, 0, 0)))]) dX11_digest_29 rfl (by decide) rfl ?_
  refine zn_iinc F (i := 3) (k := 1) (v := 9) (lv' := [(3, .int 9), (1, .long 1538151458819196096), (0, .ref ((zadM h0 l) (0, 0, 0)))]) dX11_digest_30 rfl (by decide) (by decide) rfl ?_
  refine zn_goto F (tgt := 11) dX11_digest_33 (by decide) ?_
  refine zn_iload_n F (i := 3) (k := 0) dX11_digest_11 rfl rfl ?_
  refine zn_bipush F (v := 13) dX11_digest_12 (by decide) ?_
  refine zn_icmp_gt F (tgt := 36) dX11_digest_14 (by decide) (fun z => absurd z (by decide)) (fun _ => ?_)
  refine zn_lload_n F (i := 1) (k := 1) dX11_digest_17 rfl rfl ?_
  refine zn_ldc2 F dX11_digest_18 wlRX11_184 ?_
  refine zn_lmulv F (v := -7657536997733575872) dX11_digest_21 (by decide +kernel) ?_
  refine zn_aload_n F (i := 0) (k := 2) dX11_digest_22 rfl rfl ?_
  refine zn_iload_n F (i := 3) (k := 0) dX11_digest_23 rfl rfl ?_
  refine zn_callV F (as := [.int 9]) (st := [.long (-7657536997733575872)]) (j0 := 0) (zAl_z (v := some (zi 0)) (as := [zr 0 0 0, zi 9]) (Rg := [(4, [1]), (3, [])]) (Ms := [zt0, zfr3]) (Ms' := [zt0, zfr3]) (zfMO_manyNow 9 zt0 zfr3 _ (q_mn ⟨9, by decide⟩)) rfl (zadM h0 l)) dX11_digest_24 ycRX11_153 yyyX11_manyNow rfl (wsB := []) rfl (ci := 10) rfl rfl rfl (Nat.le_of_ble_eq_true rfl) (Nat.le_of_ble_eq_true rfl) (Nat.le_of_ble_eq_true rfl) (Nat.le_of_ble_eq_true rfl) (Nat.le_of_ble_eq_true rfl) fun v w1 hB => ?_
  obtain ⟨rfl, rfl⟩ := hB
  refine zn_ws (ws' := zwl (zcA X) (zadM h0 l) [(4, [1]), (3, [])] [zt0, zfr3]) rfl ?_
  refine zn_i2l F dX11_digest_27 ?_
  refine zn_laddv F (v := -7657536997733575872) dX11_digest_28 (by decide +kernel) ?_
  refine zn_lstore_n F (i := 1) (lv' := [(1, .long (-7657536997733575872)), (3, .int 9), (0, .ref ((zadM h0 l) (0, 0, 0)))]) dX11_digest_29 rfl (by decide) rfl ?_
  refine zn_iinc F (i := 3) (k := 1) (v := 10) (lv' := [(3, .int 10), (1, .long (-7657536997733575872)), (0, .ref ((zadM h0 l) (0, 0, 0)))]) dX11_digest_30 rfl (by decide) (by decide) rfl ?_
  refine zn_goto F (tgt := 11) dX11_digest_33 (by decide) ?_
  refine zn_iload_n F (i := 3) (k := 0) dX11_digest_11 rfl rfl ?_
  refine zn_bipush F (v := 13) dX11_digest_12 (by decide) ?_
  refine zn_icmp_gt F (tgt := 36) dX11_digest_14 (by decide) (fun z => absurd z (by decide)) (fun _ => ?_)
  refine zn_lload_n F (i := 1) (k := 1) dX11_digest_17 rfl rfl ?_
  refine zn_ldc2 F dX11_digest_18 wlRX11_184 ?_
  refine zn_lmulv F (v := 2424026028483318976) dX11_digest_21 (by decide +kernel) ?_
  refine zn_aload_n F (i := 0) (k := 2) dX11_digest_22 rfl rfl ?_
  refine zn_iload_n F (i := 3) (k := 0) dX11_digest_23 rfl rfl ?_
  refine zn_callV F (as := [.int 10]) (st := [.long 2424026028483318976]) (j0 := 0) (zAl_z (v := some (zi 0)) (as := [zr 0 0 0, zi 10]) (Rg := [(4, [1]), (3, [])]) (Ms := [zt0, zfr3]) (Ms' := [zt0, zfr3]) (zfMO_manyNow 10 zt0 zfr3 _ (q_mn ⟨10, by decide⟩)) rfl (zadM h0 l)) dX11_digest_24 ycRX11_153 yyyX11_manyNow rfl (wsB := []) rfl (ci := 10) rfl rfl rfl (Nat.le_of_ble_eq_true rfl) (Nat.le_of_ble_eq_true rfl) (Nat.le_of_ble_eq_true rfl) (Nat.le_of_ble_eq_true rfl) (Nat.le_of_ble_eq_true rfl) fun v w1 hB => ?_
  obtain ⟨rfl, rfl⟩ := hB
  refine zn_ws (ws' := zwl (zcA X) (zadM h0 l) [(4, [1]), (3, [])] [zt0, zfr3]) rfl ?_
  refine zn_i2l F dX11_digest_27 ?_
  refine zn_laddv F (v := 2424026028483318976) dX11_digest_28 (by decide +kernel) ?_
  refine zn_lstore_n F (i := 1) (lv' := [(1, .long 2424026028483318976), (3, .int 10), (0, .ref ((zadM h0 l) (0, 0, 0)))]) dX11_digest_29 rfl (by decide) rfl ?_
  refine zn_iinc F (i := 3) (k := 1) (v := 11) (lv' := [(3, .int 11), (1, .long 2424026028483318976), (0, .ref ((zadM h0 l) (0, 0, 0)))]) dX11_digest_30 rfl (by decide) (by decide) rfl ?_
  refine zn_goto F (tgt := 11) dX11_digest_33 (by decide) ?_
  refine zn_iload_n F (i := 3) (k := 0) dX11_digest_11 rfl rfl ?_
  refine zn_bipush F (v := 13) dX11_digest_12 (by decide) ?_
  refine zn_icmp_gt F (tgt := 36) dX11_digest_14 (by decide) (fun z => absurd z (by decide)) (fun _ => ?_)
  refine zn_lload_n F (i := 1) (k := 1) dX11_digest_17 rfl rfl ?_
  refine zn_ldc2 F dX11_digest_18 wlRX11_184 ?_
  refine zn_lmulv F (v := 1357830588144681792) dX11_digest_21 (by decide +kernel) ?_
  refine zn_aload_n F (i := 0) (k := 2) dX11_digest_22 rfl rfl ?_
  refine zn_iload_n F (i := 3) (k := 0) dX11_digest_23 rfl rfl ?_
  refine zn_callV F (as := [.int 11]) (st := [.long 1357830588144681792]) (j0 := 0) (zAl_z (v := some (zi 0)) (as := [zr 0 0 0, zi 11]) (Rg := [(4, [1]), (3, [])]) (Ms := [zt0, zfr3]) (Ms' := [zt0, zfr3]) (zfMO_manyNow 11 zt0 zfr3 _ (q_mn ⟨11, by decide⟩)) rfl (zadM h0 l)) dX11_digest_24 ycRX11_153 yyyX11_manyNow rfl (wsB := []) rfl (ci := 10) rfl rfl rfl (Nat.le_of_ble_eq_true rfl) (Nat.le_of_ble_eq_true rfl) (Nat.le_of_ble_eq_true rfl) (Nat.le_of_ble_eq_true rfl) (Nat.le_of_ble_eq_true rfl) fun v w1 hB => ?_
  obtain ⟨rfl, rfl⟩ := hB
  refine zn_ws (ws' := zwl (zcA X) (zadM h0 l) [(4, [1]), (3, [])] [zt0, zfr3]) rfl ?_
  refine zn_i2l F dX11_digest_27 ?_
  refine zn_laddv F (v := 1357830588144681792) dX11_digest_28 (by decide +kernel) ?_
  refine zn_lstore_n F (i := 1) (lv' := [(1, .long 1357830588144681792), (3, .int 11), (0, .ref ((zadM h0 l) (0, 0, 0)))]) dX11_digest_29 rfl (by decide) rfl ?_
  refine zn_iinc F (i := 3) (k := 1) (v := 12) (lv' := [(3, .int 12), (1, .long 1357830588144681792), (0, .ref ((zadM h0 l) (0, 0, 0)))]) dX11_digest_30 rfl (by decide) (by decide) rfl ?_
  refine zn_goto F (tgt := 11) dX11_digest_33 (by decide) ?_
  refine zn_iload_n F (i := 3) (k := 0) dX11_digest_11 rfl rfl ?_
  refine zn_bipush F (v := 13) dX11_digest_12 (by decide) ?_
  refine zn_icmp_gt F (tgt := 36) dX11_digest_14 (by decide) (fun z => absurd z (by decide)) (fun _ => ?_)
  refine zn_lload_n F (i := 1) (k := 1) dX11_digest_17 rfl rfl ?_
  refine zn_ldc2 F dX11_digest_18 wlRX11_184 ?_
  refine zn_lmulv F (v := 5199260085066032320) dX11_digest_21 (by decide +kernel) ?_
  refine zn_aload_n F (i := 0) (k := 2) dX11_digest_22 rfl rfl ?_
  refine zn_iload_n F (i := 3) (k := 0) dX11_digest_23 rfl rfl ?_
  refine zn_callV F (as := [.int 12]) (st := [.long 5199260085066032320]) (j0 := 0) (zAl_z (v := some (zi 0)) (as := [zr 0 0 0, zi 12]) (Rg := [(4, [1]), (3, [])]) (Ms := [zt0, zfr3]) (Ms' := [zt0, zfr3]) (zfMO_manyNow 12 zt0 zfr3 _ (q_mn ⟨12, by decide⟩)) rfl (zadM h0 l)) dX11_digest_24 ycRX11_153 yyyX11_manyNow rfl (wsB := []) rfl (ci := 10) rfl rfl rfl (Nat.le_of_ble_eq_true rfl) (Nat.le_of_ble_eq_true rfl) (Nat.le_of_ble_eq_true rfl) (Nat.le_of_ble_eq_true rfl) (Nat.le_of_ble_eq_true rfl) fun v w1 hB => ?_
  obtain ⟨rfl, rfl⟩ := hB
  refine zn_ws (ws' := zwl (zcA X) (zadM h0 l) [(4, [1]), (3, [])] [zt0, zfr3]) rfl ?_
  refine zn_i2l F dX11_digest_27 ?_
  refine zn_laddv F (v := 5199260085066032320) dX11_digest_28 (by decide +kernel) ?_
  refine zn_lstore_n F (i := 1) (lv' := [(1, .long 5199260085066032320), (3, .int 12), (0, .ref ((zadM h0 l) (0, 0, 0)))]) dX11_digest_29 rfl (by decide) rfl ?_
  refine zn_iinc F (i := 3) (k := 1) (v := 13) (lv' := [(3, .int 13), (1, .long 5199260085066032320), (0, .ref ((zadM h0 l) (0, 0, 0)))]) dX11_digest_30 rfl (by decide) (by decide) rfl ?_
  refine zn_goto F (tgt := 11) dX11_digest_33 (by decide) ?_
  refine zn_iload_n F (i := 3) (k := 0) dX11_digest_11 rfl rfl ?_
  refine zn_bipush F (v := 13) dX11_digest_12 (by decide) ?_
  refine zn_icmp_gt F (tgt := 36) dX11_digest_14 (by decide) (fun z => absurd z (by decide)) (fun _ => ?_)
  refine zn_lload_n F (i := 1) (k := 1) dX11_digest_17 rfl rfl ?_
  refine zn_ldc2 F dX11_digest_18 wlRX11_184 ?_
  refine zn_lmulv F (v := -4843634026338962624) dX11_digest_21 (by decide +kernel) ?_
  refine zn_aload_n F (i := 0) (k := 2) dX11_digest_22 rfl rfl ?_
  refine zn_iload_n F (i := 3) (k := 0) dX11_digest_23 rfl rfl ?_
  refine zn_callV F (as := [.int 13]) (st := [.long (-4843634026338962624)]) (j0 := 0) (zAl_z (v := some (zi 0)) (as := [zr 0 0 0, zi 13]) (Rg := [(4, [1]), (3, [])]) (Ms := [zt0, zfr3]) (Ms' := [zt0, zfr3]) (zfMO_manyNow 13 zt0 zfr3 _ (q_mn ⟨13, by decide⟩)) rfl (zadM h0 l)) dX11_digest_24 ycRX11_153 yyyX11_manyNow rfl (wsB := []) rfl (ci := 10) rfl rfl rfl (Nat.le_of_ble_eq_true rfl) (Nat.le_of_ble_eq_true rfl) (Nat.le_of_ble_eq_true rfl) (Nat.le_of_ble_eq_true rfl) (Nat.le_of_ble_eq_true rfl) fun v w1 hB => ?_
  obtain ⟨rfl, rfl⟩ := hB
  refine zn_ws (ws' := zwl (zcA X) (zadM h0 l) [(4, [1]), (3, [])] [zt0, zfr3]) rfl ?_
  refine zn_i2l F dX11_digest_27 ?_
  refine zn_laddv F (v := -4843634026338962624) dX11_digest_28 (by decide +kernel) ?_
  refine zn_lstore_n F (i := 1) (lv' := [(1, .long (-4843634026338962624)), (3, .int 13), (0, .ref ((zadM h0 l) (0, 0, 0)))]) dX11_digest_29 rfl (by decide) rfl ?_
  refine zn_iinc F (i := 3) (k := 1) (v := 14) (lv' := [(3, .int 14), (1, .long (-4843634026338962624)), (0, .ref ((zadM h0 l) (0, 0, 0)))]) dX11_digest_30 rfl (by decide) (by decide) rfl ?_
  refine zn_goto F (tgt := 11) dX11_digest_33 (by decide) ?_
  refine zn_iload_n F (i := 3) (k := 0) dX11_digest_11 rfl rfl ?_
  refine zn_bipush F (v := 13) dX11_digest_12 (by decide) ?_
  refine zn_icmp_gt F (tgt := 36) dX11_digest_14 (by decide) (fun _ => ?_) (fun z => absurd z (by decide))
  refine zn_iconst F (v := 0) dX11_digest_36 (by decide) ?_
  refine zn_istore_n F (i := 3) (lv' := [(3, .int 0), (1, .long (-4843634026338962624)), (0, .ref ((zadM h0 l) (0, 0, 0)))]) dX11_digest_37 rfl (by decide) rfl ?_
  refine zn_iload_n F (i := 3) (k := 0) dX11_digest_38 rfl rfl ?_
  refine zn_aload_n F (i := 0) (k := 2) dX11_digest_39 rfl rfl ?_
  refine zn_get F (j := 0) (v := .ref ((zadM h0 l) (1, 0, 0))) dX11_digest_40 yfRX11_10 zCl_10 rfl rfl ?_
  refine zn_get F (j := 1) (v := .int 0) dX11_digest_43 yfRX11_30 zCl_9 rfl rfl ?_
  refine zn_icmp_ge F (tgt := 263) dX11_digest_46 (by decide) (fun _ => ?_) (fun z => absurd z (by decide))
  refine zn_iconst F (v := 0) dX11_digest_263 (by decide) ?_
  refine zn_istore_n F (i := 3) (lv' := [(3, .int 0), (1, .long (-4843634026338962624)), (0, .ref ((zadM h0 l) (0, 0, 0)))]) dX11_digest_264 rfl (by decide) rfl ?_
  refine zn_iload_n F (i := 3) (k := 0) dX11_digest_265 rfl rfl ?_
  refine zn_aload_n F (i := 0) (k := 2) dX11_digest_266 rfl rfl ?_
  refine zn_get F (j := 0) (v := .ref ((zadM h0 l) (1, 0, 0))) dX11_digest_267 yfRX11_10 zCl_10 rfl rfl ?_
  refine zn_get F (j := 1) (v := .int 0) dX11_digest_270 yfRX11_44 zCl_9 rfl rfl ?_
  refine zn_icmp_ge F (tgt := 312) dX11_digest_273 (by decide) (fun _ => ?_) (fun z => absurd z (by decide))
  refine zn_iconst F (v := 0) dX11_digest_312 (by decide) ?_
  refine zn_istore_n F (i := 3) (lv' := [(3, .int 0), (1, .long (-4843634026338962624)), (0, .ref ((zadM h0 l) (0, 0, 0)))]) dX11_digest_313 rfl (by decide) rfl ?_
  refine zn_iload_n F (i := 3) (k := 0) dX11_digest_314 rfl rfl ?_
  refine zn_aload_n F (i := 0) (k := 2) dX11_digest_315 rfl rfl ?_
  refine zn_get F (j := 0) (v := .ref ((zadM h0 l) (1, 0, 0))) dX11_digest_316 yfRX11_10 zCl_10 rfl rfl ?_
  refine zn_get F (j := 1) (v := .int 0) dX11_digest_319 yfRX11_33 zCl_9 rfl rfl ?_
  refine zn_icmp_ge F (tgt := 368) dX11_digest_322 (by decide) (fun _ => ?_) (fun z => absurd z (by decide))
  refine zn_lload_n F (i := 1) (k := 1) dX11_digest_368 rfl rfl ?_
  refine zn_ldc2 F dX11_digest_369 wlRX11_184 ?_
  refine zn_lmulv F (v := -2578702226831428416) dX11_digest_372 (by decide +kernel) ?_
  refine zn_aload_n F (i := 0) (k := 2) dX11_digest_373 rfl rfl ?_
  refine zn_get F (j := 0) (v := .ref ((zadM h0 l) (1, 0, 0))) dX11_digest_374 yfRX11_10 zCl_10 rfl rfl ?_
  refine zn_sub [1, 2, 3, 4, 5, 6, 7, 8, 9, 10, 11, 12, 13, 14, 15, 16, 17, 18, 19, 20, 21, 22, 23, 24, 25, 26, 27, 28, 29, 30, 0] (ws' := zwl (zcA X) (zad3 l) [(3, [])] [zfr3] ++ [(h0, .inr (10, [.int 0, .ref (zad3 l (0, 0, 0))]))]) rfl rfl ?_
  refine zn_callV F (as := []) (st := [.long (-2578702226831428416)]) (j0 := 0) (zcopyF (zad3 l)) dX11_digest_377 ycRX11_156 yyyX10_copy rfl (wsB := [(h0, .inr (10, [.int 0, .ref (zad3 l (0, 0, 0))]))]) rfl (ci := 9) rfl rfl rfl (Nat.le_of_ble_eq_true rfl) (Nat.le_of_ble_eq_true rfl) (Nat.le_of_ble_eq_true rfl) (Nat.le_of_ble_eq_true rfl) (Nat.le_of_ble_eq_true rfl) fun v w1 hB => ?_
  obtain ⟨l2, rfl, rfl⟩ := hB
  refine zn_sub [30, 31, 32, 33, 34, 35, 36, 37, 38, 39, 40, 41, 42, 43, 44, 45, 46, 47, 48, 49, 50, 51, 52, 53, 54, 55, 56, 57, 58, 59, 60] (ws' := zwl (zcA X) (zad3 l2) [(3, [])] [zfr3] ++ [(h0, .inr (10, [.int 0, .ref (zad3 l (0, 0, 0))]))]) rfl rfl ?_
  refine zn_iconst F (v := 3) dX11_digest_380 (by decide) ?_
  refine zn_callV F (as := [.int 3]) (st := [.long (-2578702226831428416)]) (j0 := 0) (zAl_z (v := some (zi 0)) (as := [zr 0 0 0, zi 3]) (Rg := [(3, [])]) (Ms := [zfr3]) (Ms' := [t0]) (zfMS_run 3 zfr3 _ e) rfl (zad3 l2)) dX11_digest_381 ycRX11_92 yyyX10_run rfl (wsB := [(h0, .inr (10, [.int 0, .ref (zad3 l (0, 0, 0))]))]) rfl (ci := 9) rfl rfl rfl (Nat.le_of_ble_eq_true rfl) (Nat.le_of_ble_eq_true rfl) (Nat.le_of_ble_eq_true rfl) (Nat.le_of_ble_eq_true rfl) (Nat.le_of_ble_eq_true rfl) fun v w1 hB => ?_
  obtain ⟨rfl, rfl⟩ := hB
  refine zn_sub [30] (ws' := [(h0, .inr (10, [.int 0, .ref (zad3 l (0, 0, 0))]))]) rfl rfl ?_
  refine zn_i2l F dX11_digest_384 ?_
  refine zn_laddv F (v := -2578702226831428416) dX11_digest_385 (by decide +kernel) ?_
  exact zn_lreturn F T dX11_digest_386 ⟨rfl, _, rfl⟩ (Nat.le_refl _) (Nat.le_refl _)

theorem dX11_meanDelivered_0 : decode cX11_meanDelivered 0 = .ok (.aload_n 0, 1) := by decide +kernel
theorem dX11_meanDelivered_1 : decode cX11_meanDelivered 1 = .ok (.iconst 0, 1) := by decide +kernel
theorem dX11_meanDelivered_2 : decode cX11_meanDelivered 2 = .ok (.putfield 16, 3) := by decide +kernel
theorem dX11_meanDelivered_5 : decode cX11_meanDelivered 5 = .ok (.aload_n 0, 1) := by decide +kernel
theorem dX11_meanDelivered_6 : decode cX11_meanDelivered 6 = .ok (.getfield 10, 3) := by decide +kernel
theorem dX11_meanDelivered_9 : decode cX11_meanDelivered 9 = .ok (.getfield 135, 3) := by decide +kernel
theorem dX11_meanDelivered_12 : decode cX11_meanDelivered 12 = .ok (.ifCond .ne 7, 3) := by decide +kernel
theorem dX11_meanDelivered_15 : decode cX11_meanDelivered 15 = .ok (.dconst 0, 1) := by decide +kernel
theorem dX11_meanDelivered_16 : decode cX11_meanDelivered 16 = .ok (.goto 20, 3) := by decide +kernel
theorem dX11_meanDelivered_19 : decode cX11_meanDelivered 19 = .ok (.aload_n 0, 1) := by decide +kernel
theorem dX11_meanDelivered_20 : decode cX11_meanDelivered 20 = .ok (.getfield 10, 3) := by decide +kernel
theorem dX11_meanDelivered_23 : decode cX11_meanDelivered 23 = .ok (.getfield 138, 3) := by decide +kernel
theorem dX11_meanDelivered_26 : decode cX11_meanDelivered 26 = .ok (.i2d, 1) := by decide +kernel
theorem dX11_meanDelivered_27 : decode cX11_meanDelivered 27 = .ok (.aload_n 0, 1) := by decide +kernel
theorem dX11_meanDelivered_28 : decode cX11_meanDelivered 28 = .ok (.getfield 10, 3) := by decide +kernel
theorem dX11_meanDelivered_31 : decode cX11_meanDelivered 31 = .ok (.getfield 135, 3) := by decide +kernel
theorem dX11_meanDelivered_34 : decode cX11_meanDelivered 34 = .ok (.i2d, 1) := by decide +kernel
theorem dX11_meanDelivered_35 : decode cX11_meanDelivered 35 = .ok (.ddiv, 1) := by decide +kernel
theorem dX11_meanDelivered_36 : decode cX11_meanDelivered 36 = .ok (.dreturn, 1) := by decide +kernel
set_option maxHeartbeats 8000000 in
set_option maxRecDepth 20000 in
theorem zrM_mean (h0 : Nat) (l : List Nat) : zAl yX11_meanDelivered cX11_meanDelivered 1 (some .double) 1 30 0 0 [.ref ((zadM h0 l) (0, 0, 0))] (fun cA => zwl cA (zadM h0 l) [(4, [1]), (3, [])] [zm0, zfr3]) (fun cA v ws => v = some (.double FP.dconst0) ∧ ∃ s, ws[0]? = some (h0, .inr (10, [.int 0, .ref s]))) := by
  refine zAl_of (by decide) (Nat.le_of_ble_eq_true rfl) fun X F T hex => ?_
  show zN X 0 0 1 30 _ 1 0 [(0, .ref ((zadM h0 l) (0, 0, 0)))] [] (zwl (zcA X) (zadM h0 l) [(4, [1]), (3, [])] [zm0, zfr3]) 0 0
  refine zn_aload_n F (i := 0) (k := 0) dX11_meanDelivered_0 rfl rfl ?_
  refine zn_iconst F (v := 0) dX11_meanDelivered_1 (by decide) ?_
  refine zn_put F (j := 0) (ws' := zwl (zcA X) (zadM h0 l) [(4, [1]), (3, [])] [zt0, zfr3]) dX11_meanDelivered_2 ypRX11_16 zCl_10 rfl (zlb rfl) rfl ?_
  refine zn_aload_n F (i := 0) (k := 0) dX11_meanDelivered_5 rfl rfl ?_
  refine zn_get F (j := 0) (v := .ref ((zadM h0 l) (1, 0, 0))) dX11_meanDelivered_6 yfRX11_10 zCl_10 rfl rfl ?_
  refine zn_get F (j := 1) (v := .int 0) dX11_meanDelivered_9 yfRX11_135 zCl_9 rfl rfl ?_
  refine zn_if_ne F (tgt := 19) dX11_meanDelivered_12 (by decide) (fun z => absurd z (by decide)) (fun _ => ?_)
  refine zn_dconst0 F dX11_meanDelivered_15 ?_
  refine zn_goto F (tgt := 36) dX11_meanDelivered_16 (by decide) ?_
  exact zn_dreturn F T dX11_meanDelivered_36 ⟨rfl, _, rfl⟩ (Nat.le_refl _) (Nat.le_refl _)

theorem dX9_meanDelivered_0 : decode cX9_meanDelivered 0 = .ok (.aload_n 0, 1) := by decide +kernel
theorem dX9_meanDelivered_1 : decode cX9_meanDelivered 1 = .ok (.getfield 10, 3) := by decide +kernel
theorem dX9_meanDelivered_4 : decode cX9_meanDelivered 4 = .ok (.getfield 84, 3) := by decide +kernel
theorem dX9_meanDelivered_7 : decode cX9_meanDelivered 7 = .ok (.getfield 288, 3) := by decide +kernel
theorem dX9_meanDelivered_10 : decode cX9_meanDelivered 10 = .ok (.istore_n 1, 1) := by decide +kernel
theorem dX9_meanDelivered_11 : decode cX9_meanDelivered 11 = .ok (.iload_n 1, 1) := by decide +kernel
theorem dX9_meanDelivered_12 : decode cX9_meanDelivered 12 = .ok (.ifCond .ne 7, 3) := by decide +kernel
theorem dX9_meanDelivered_15 : decode cX9_meanDelivered 15 = .ok (.dconst 0, 1) := by decide +kernel
theorem dX9_meanDelivered_16 : decode cX9_meanDelivered 16 = .ok (.goto 17, 3) := by decide +kernel
theorem dX9_meanDelivered_19 : decode cX9_meanDelivered 19 = .ok (.aload_n 0, 1) := by decide +kernel
theorem dX9_meanDelivered_20 : decode cX9_meanDelivered 20 = .ok (.getfield 10, 3) := by decide +kernel
theorem dX9_meanDelivered_23 : decode cX9_meanDelivered 23 = .ok (.getfield 84, 3) := by decide +kernel
theorem dX9_meanDelivered_26 : decode cX9_meanDelivered 26 = .ok (.getfield 291, 3) := by decide +kernel
theorem dX9_meanDelivered_29 : decode cX9_meanDelivered 29 = .ok (.i2d, 1) := by decide +kernel
theorem dX9_meanDelivered_30 : decode cX9_meanDelivered 30 = .ok (.iload_n 1, 1) := by decide +kernel
theorem dX9_meanDelivered_31 : decode cX9_meanDelivered 31 = .ok (.i2d, 1) := by decide +kernel
theorem dX9_meanDelivered_32 : decode cX9_meanDelivered 32 = .ok (.ddiv, 1) := by decide +kernel
theorem dX9_meanDelivered_33 : decode cX9_meanDelivered 33 = .ok (.dreturn, 1) := by decide +kernel
set_option maxHeartbeats 8000000 in
set_option maxRecDepth 20000 in
theorem zxW_mean (ad1 : zR → Nat) : zAl yX9_meanDelivered cX9_meanDelivered 2 (some .double) 1 30 0 0 [.ref (ad1 (0, 0, 0))] (fun cA => zwl cA ad1 [(2, [1, 2, 3]), (0, []), (0, []), (1, [])] [zm0, zfr0, zfr0, zm0]) (fun cA v ws => v = some (.double FP.dconst0) ∧ ws = zwl cA ad1 [(2, [1, 2, 3]), (0, []), (0, []), (1, [])] [zm0, zfr0, zfr0, zm0]) := by
  refine zAl_of (by decide) (Nat.le_of_ble_eq_true rfl) fun X F T hex => ?_
  show zN X 0 0 1 30 _ 2 0 [(0, .ref (ad1 (0, 0, 0)))] [] (zwl (zcA X) ad1 [(2, [1, 2, 3]), (0, []), (0, []), (1, [])] [zm0, zfr0, zfr0, zm0]) 0 0
  refine zn_aload_n F (i := 0) (k := 0) dX9_meanDelivered_0 rfl rfl ?_
  refine zn_get F (j := 0) (v := .ref (ad1 (1, 0, 0))) dX9_meanDelivered_1 yfRX9_10 zCl_8 rfl rfl ?_
  refine zn_get F (j := 1) (v := .ref (ad1 (1, 5, 0))) dX9_meanDelivered_4 yfRX9_84 zCl_3 rfl rfl ?_
  refine zn_get F (j := 6) (v := .int 0) dX9_meanDelivered_7 yfRX9_288 zCl_2 rfl rfl ?_
  refine zn_istore_n F (i := 1) (lv' := [(1, .int 0), (0, .ref (ad1 (0, 0, 0)))]) dX9_meanDelivered_10 rfl (by decide) rfl ?_
  refine zn_iload_n F (i := 1) (k := 0) dX9_meanDelivered_11 rfl rfl ?_
  refine zn_if_ne F (tgt := 19) dX9_meanDelivered_12 (by decide) (fun z => absurd z (by decide)) (fun _ => ?_)
  refine zn_dconst0 F dX9_meanDelivered_15 ?_
  refine zn_goto F (tgt := 33) dX9_meanDelivered_16 (by decide) ?_
  exact zn_dreturn F T dX9_meanDelivered_33 ⟨rfl, rfl⟩ (Nat.le_refl _) (Nat.le_refl _)
