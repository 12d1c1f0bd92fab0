/-! ===== the law from its entry ===== -/
theorem ycRL_161 : Cond.methodLink RL 161 yX9_meanDelivered ∈ zTg ∧ Cond.instanceMethod yX9_meanDelivered ∈ zTg ∧ Cond.selects "WakeBanks" yX9_meanDelivered yX9_meanDelivered ∈ zTg ∧ Cond.initialized "WakeBanks" ∈ zTg ∧ Cond.code yX9_meanDelivered cX9_meanDelivered 2 (some .double) ∈ zTg := ⟨zm_f 349 (by decide +kernel) rfl, zm_f 350 (by decide +kernel) rfl, zm_f 351 (by decide +kernel) rfl, zm_f 37 (by decide +kernel) rfl, zm_f 352 (by decide +kernel) rfl⟩
theorem yzyX9_meanDelivered : yX9_meanDelivered.cls = "WakeBanks" ∧ yX9_meanDelivered.cls ≠ "java/lang/invoke/MethodHandle" ∧ yX9_meanDelivered.cls ≠ "java/lang/invoke/VarHandle" ∧ (parseMethodDescriptor yX9_meanDelivered.desc).map (fun d => d.parameters.length) = some 0 := by decide +kernel
theorem ycRL_165 : Cond.methodLink RL 165 yX11_meanDelivered ∈ zTg ∧ Cond.instanceMethod yX11_meanDelivered ∈ zTg ∧ Cond.selects "WakeBanksModel" yX11_meanDelivered yX11_meanDelivered ∈ zTg ∧ Cond.initialized "WakeBanksModel" ∈ zTg ∧ Cond.code yX11_meanDelivered cX11_meanDelivered 1 (some .double) ∈ zTg := ⟨zm_f 1271 (by decide +kernel) rfl, zm_f 1272 (by decide +kernel) rfl, zm_f 1273 (by decide +kernel) rfl, zm_f 46 (by decide +kernel) rfl, zm_f 1274 (by decide +kernel) rfl⟩
theorem yzyX11_meanDelivered : yX11_meanDelivered.cls = "WakeBanksModel" ∧ yX11_meanDelivered.cls ≠ "java/lang/invoke/MethodHandle" ∧ yX11_meanDelivered.cls ≠ "java/lang/invoke/VarHandle" ∧ (parseMethodDescriptor yX11_meanDelivered.desc).map (fun d => d.parameters.length) = some 0 := by decide +kernel
theorem ycRL_172 : Cond.methodLink RL 172 yX9_bestPlace ∈ zTg ∧ Cond.instanceMethod yX9_bestPlace ∈ zTg ∧ Cond.selects "WakeBanks" yX9_bestPlace yX9_bestPlace ∈ zTg ∧ Cond.initialized "WakeBanks" ∈ zTg ∧ Cond.code yX9_bestPlace cX9_bestPlace 1 (some .int) ∈ zTg := ⟨zm_f 353 (by decide +kernel) rfl, zm_f 354 (by decide +kernel) rfl, zm_f 355 (by decide +kernel) rfl, zm_f 37 (by decide +kernel) rfl, zm_f 356 (by decide +kernel) rfl⟩
theorem yzyX9_bestPlace : yX9_bestPlace.cls = "WakeBanks" ∧ yX9_bestPlace.cls ≠ "java/lang/invoke/MethodHandle" ∧ yX9_bestPlace.cls ≠ "java/lang/invoke/VarHandle" ∧ (parseMethodDescriptor yX9_bestPlace.desc).map (fun d => d.parameters.length) = some 0 := by decide +kernel
theorem ycRL_175 : Cond.methodLink RL 175 yX11_bestPlace ∈ zTg ∧ Cond.instanceMethod yX11_bestPlace ∈ zTg ∧ Cond.selects "WakeBanksModel" yX11_bestPlace yX11_bestPlace ∈ zTg ∧ Cond.initialized "WakeBanksModel" ∈ zTg ∧ Cond.code yX11_bestPlace cX11_bestPlace 7 (some .int) ∈ zTg := ⟨zm_f 1295 (by decide +kernel) rfl, zm_f 1296 (by decide +kernel) rfl, zm_f 1297 (by decide +kernel) rfl, zm_f 46 (by decide +kernel) rfl, zm_f 1298 (by decide +kernel) rfl⟩
theorem yzyX11_bestPlace : yX11_bestPlace.cls = "WakeBanksModel" ∧ yX11_bestPlace.cls ≠ "java/lang/invoke/MethodHandle" ∧ yX11_bestPlace.cls ≠ "java/lang/invoke/VarHandle" ∧ (parseMethodDescriptor yX11_bestPlace.desc).map (fun d => d.parameters.length) = some 0 := by decide +kernel
theorem ycRL_176 : Cond.methodLink RL 176 yX9_digest ∈ zTg ∧ Cond.instanceMethod yX9_digest ∈ zTg ∧ Cond.selects "WakeBanks" yX9_digest yX9_digest ∈ zTg ∧ Cond.initialized "WakeBanks" ∈ zTg ∧ Cond.code yX9_digest cX9_digest 5 (some .long) ∈ zTg := ⟨zm_f 398 (by decide +kernel) rfl, zm_f 399 (by decide +kernel) rfl, zm_f 400 (by decide +kernel) rfl, zm_f 37 (by decide +kernel) rfl, zm_f 401 (by decide +kernel) rfl⟩
theorem yzyX9_digest : yX9_digest.cls = "WakeBanks" ∧ yX9_digest.cls ≠ "java/lang/invoke/MethodHandle" ∧ yX9_digest.cls ≠ "java/lang/invoke/VarHandle" ∧ (parseMethodDescriptor yX9_digest.desc).map (fun d => d.parameters.length) = some 0 := by decide +kernel
theorem ycRL_180 : Cond.methodLink RL 180 yX11_digest ∈ zTg ∧ Cond.instanceMethod yX11_digest ∈ zTg ∧ Cond.selects "WakeBanksModel" yX11_digest yX11_digest ∈ zTg ∧ Cond.initialized "WakeBanksModel" ∈ zTg ∧ Cond.code yX11_digest cX11_digest 5 (some .long) ∈ zTg := ⟨zm_f 1307 (by decide +kernel) rfl, zm_f 1308 (by decide +kernel) rfl, zm_f 1309 (by decide +kernel) rfl, zm_f 46 (by decide +kernel) rfl, zm_f 1310 (by decide +kernel) rfl⟩
theorem yzyX11_digest : yX11_digest.cls = "WakeBanksModel" ∧ yX11_digest.cls ≠ "java/lang/invoke/MethodHandle" ∧ yX11_digest.cls ≠ "java/lang/invoke/VarHandle" ∧ (parseMethodDescriptor yX11_digest.desc).map (fun d => d.parameters.length) = some 0 := by decide +kernel
set_option maxHeartbeats 4000000 in
set_option maxRecDepth 20000 in
theorem zlc_mean {X : zX} (F : zLr X cL_law 9 RL) {b0 q h0 mc ms fr lo : Nat} {B : State → Prop} (f : Nat → Int64) (ad1 : zR → Nat) (l : List Nat) (hr : 12 ≤ fr ∧ 440 ≤ lo ∧ 1000 ≤ mc ∧ 5000 ≤ ms) (T : zN X mc ms fr lo B 9 1730 [(4, .int 0), (0, .ref b0)] [] [] 1000 5000) : zN X mc ms fr lo B 9 1550 [(4, .int 0), (3, .ref q), (2, .ref h0), (1, .ref (ad1 (0, 0, 0))), (0, .ref b0)] [] (zwl (zcA X) ad1 [(2, [1, 2, 3]), (0, []), (0, []), (1, [])] [zm0, zfr0, zfr0, zm0] ++ [(q, .inl (zcA X 5, 1, .inr (.inl f)))] ++ zwl (zcA X) (zadM h0 l) [(4, [1]), (3, [])] [zm0, zfr3]) 200 2000 := by
  refine zn_ws (ws' := zwl (zcA X) ad1 [(2, [1, 2, 3]), (0, []), (0, []), (1, [])] [zm0, zfr0, zfr0, zm0] ++ ([(q, .inl (zcA X 5, 1, .inr (.inl f)))] ++ zwl (zcA X) (zadM h0 l) [(4, [1]), (3, [])] [zm0, zfr3])) (List.append_assoc _ _ _) ?_
  refine zn_aload_n F (i := 1) (k := 3) dL_law_1550 rfl rfl ?_
  refine zn_callV F (as := []) (st := []) (j0 := 0) (zxW_mean ad1) dL_law_1551 ycRL_161 yzyX9_meanDelivered rfl (wsB := [(q, .inl (zcA X 5, 1, .inr (.inl f)))] ++ zwl (zcA X) (zadM h0 l) [(4, [1]), (3, [])] [zm0, zfr3]) rfl (ci := 8) rfl rfl rfl (Nat.le_of_ble_eq_true rfl) (Nat.le_trans (Nat.le_of_ble_eq_true rfl) hr.1) (Nat.le_trans (Nat.le_of_ble_eq_true rfl) hr.2.1) (by omega) (by omega) fun v w1 hB => ?_
  obtain ⟨rfl, rfl⟩ := hB
  refine zn_dstore F (i := 5) (lv' := (5, .double FP.dconst0) :: [(4, .int 0), (3, .ref q), (2, .ref h0), (1, .ref (ad1 (0, 0, 0))), (0, .ref b0)]) dL_law_1554 (by decide) rfl ?_
  refine zn_aload_n F (i := 2) (k := 3) dL_law_1556 rfl rfl ?_
  refine zn_ws (ws' := (zwl (zcA X) ad1 [(2, [1, 2, 3]), (0, []), (0, []), (1, [])] [zm0, zfr0, zfr0, zm0] ++ [(q, .inl (zcA X 5, 1, .inr (.inl f)))]) ++ zwl (zcA X) (zadM h0 l) [(4, [1]), (3, [])] [zm0, zfr3]) (List.append_assoc _ _ _).symm ?_
  refine zn_perm List.perm_append_comm ?_
  refine zn_callV F (as := []) (st := []) (j0 := 0) (zrM_mean h0 l) dL_law_1557 ycRL_165 yzyX11_meanDelivered rfl (wsB := zwl (zcA X) ad1 [(2, [1, 2, 3]), (0, []), (0, []), (1, [])] [zm0, zfr0, zfr0, zm0] ++ [(q, .inl (zcA X 5, 1, .inr (.inl f)))]) rfl (ci := 10) rfl rfl rfl (Nat.le_of_ble_eq_true rfl) (Nat.le_trans (Nat.le_of_ble_eq_true rfl) hr.1) (Nat.le_trans (Nat.le_of_ble_eq_true rfl) hr.2.1) (by omega) (by omega) fun v w2 hB2 => ?_
  obtain ⟨rfl, -⟩ := hB2
  refine zn_dstore F (i := 7) (lv' := (7, .double FP.dconst0) :: (5, .double FP.dconst0) :: [(4, .int 0), (3, .ref q), (2, .ref h0), (1, .ref (ad1 (0, 0, 0))), (0, .ref b0)]) dL_law_1560 (by decide) rfl ?_
  refine zn_dload F (i := 5) (k := 1) dL_law_1562 rfl ?_
  refine zn_dload F (i := 7) (k := 0) dL_law_1564 rfl ?_
  refine zn_dcmp F dL_law_1566 ?_
  refine zn_if_eq F (tgt := 1588) dL_law_1567 (by decide) (fun _ => ?_) (fun z => absurd (by decide +kernel) z)
  exact zn_goto F (tgt := 1730) dL_law_1588 (by decide) (zn_pick [2, 6] rfl (zn_sub [] (ws' := []) rfl rfl (zn_wid (by omega) (by omega) T)))

theorem q_bestPlace : ∃ b, fWB_bestPlace zm0 zfr0 zfr0 zm0 = some b ∧ b.1 = 0 := by
  have h := pe_bestPlace
  cases hc : fWB_bestPlace zm0 zfr0 zfr0 zm0 with
  | none => rw [hc] at h; cases h
  | some b =>
    rw [hc] at h
    exact ⟨b, rfl, Option.some.inj h⟩
theorem q_digest : ∃ b, fWB_digest zm0 zfr0 zfr0 zm0 = some (.inl b) ∧ b.1 = (-2578702226831428416) := by
  have h := q_dig
  cases hc : fWB_digest zm0 zfr0 zfr0 zm0 with
  | none => rw [hc] at h; cases h
  | some x =>
    rw [hc] at h
    have h2 := Option.some.inj h
    cases x with
    | inl b => exact ⟨b, rfl, h2⟩
    | inr b => exact absurd (show (0 : Int64) = (-2578702226831428416) from h2) (by decide +kernel)
set_option maxHeartbeats 4000000 in
set_option maxRecDepth 20000 in
theorem zlc_bestPlace {X : zX} (F : zLr X cL_law 9 RL) {b0 q h0 mc ms fr lo : Nat} {B : State → Prop} (f : Nat → Int64) (ad1 : zR → Nat) (l : List Nat) (hr : 12 ≤ fr ∧ 440 ≤ lo ∧ 1000 ≤ mc ∧ 5000 ≤ ms) (T : zN X mc ms fr lo B 9 1730 [(4, .int 0), (0, .ref b0)] [] [] 1000 5000) : zN X mc ms fr lo B 9 1703 [(4, .int 0), (3, .ref q), (2, .ref h0), (1, .ref (ad1 (0, 0, 0))), (0, .ref b0)] [] (zwl (zcA X) ad1 [(2, [1, 2, 3]), (0, []), (0, []), (1, [])] [zm0, zfr0, zfr0, zm0] ++ [(q, .inl (zcA X 5, 1, .inr (.inl f)))] ++ zwl (zcA X) (zadM h0 l) [(4, [1]), (3, [])] [zm0, zfr3]) 200 2000 := by
  obtain ⟨b, e, hb⟩ := q_bestPlace
  refine zn_ws (ws' := zwl (zcA X) ad1 [(2, [1, 2, 3]), (0, []), (0, []), (1, [])] [zm0, zfr0, zfr0, zm0] ++ ([(q, .inl (zcA X 5, 1, .inr (.inl f)))] ++ zwl (zcA X) (zadM h0 l) [(4, [1]), (3, [])] [zm0, zfr3])) (List.append_assoc _ _ _) ?_
  refine zn_aload_n F (i := 1) (k := 3) dL_law_1703 rfl rfl ?_
  refine zn_callV F (as := []) (st := []) (j0 := 0) (zAl_z (v := some (zi b.1)) (as := [zr 0 0 0]) (Rg := [(2, [1, 2, 3]), (0, []), (0, []), (1, [])]) (Ms := [zm0, zfr0, zfr0, zm0]) (Ms' := [zm0, zfr0, zfr0, b.2]) (zfWB_bestPlace zm0 zfr0 zfr0 zm0 _ e) rfl ad1) dL_law_1704 ycRL_172 yzyX9_bestPlace rfl (wsB := [(q, .inl (zcA X 5, 1, .inr (.inl f)))] ++ zwl (zcA X) (zadM h0 l) [(4, [1]), (3, [])] [zm0, zfr3]) rfl (ci := 8) rfl rfl rfl (Nat.le_of_ble_eq_true rfl) (Nat.le_trans (Nat.le_of_ble_eq_true rfl) hr.1) (Nat.le_trans (Nat.le_of_ble_eq_true rfl) hr.2.1) (by omega) (by omega) fun v w1 hB => ?_
  obtain ⟨rfl, rfl⟩ := hB
  refine zn_aload_n F (i := 2) (k := 2) dL_law_1707 rfl rfl ?_
  refine zn_ws (ws' := (zwl (zcA X) ad1 [(2, [1, 2, 3]), (0, []), (0, []), (1, [])] [zm0, zfr0, zfr0, b.2] ++ [(q, .inl (zcA X 5, 1, .inr (.inl f)))]) ++ zwl (zcA X) (zadM h0 l) [(4, [1]), (3, [])] [zm0, zfr3]) (List.append_assoc _ _ _).symm ?_
  refine zn_perm List.perm_append_comm ?_
  refine zn_callV F (as := []) (st := [.int b.1]) (j0 := 0) (zrM_bestPlace h0 l) dL_law_1708 ycRL_175 yzyX11_bestPlace rfl (wsB := zwl (zcA X) ad1 [(2, [1, 2, 3]), (0, []), (0, []), (1, [])] [zm0, zfr0, zfr0, b.2] ++ [(q, .inl (zcA X 5, 1, .inr (.inl f)))]) rfl (ci := 10) rfl rfl rfl (Nat.le_of_ble_eq_true rfl) (Nat.le_trans (Nat.le_of_ble_eq_true rfl) hr.1) (Nat.le_trans (Nat.le_of_ble_eq_true rfl) hr.2.1) (by omega) (by omega) fun v w2 hB2 => ?_
  obtain ⟨rfl, -⟩ := hB2
  refine zn_icmp_eq F (tgt := 1730) dL_law_1711 (by decide) (fun _ => ?_) (fun z => absurd hb z)
  exact zn_pick [0, 4] rfl (zn_sub [] (ws' := []) rfl rfl (zn_wid (by omega) (by omega) T))

set_option maxHeartbeats 4000000 in
set_option maxRecDepth 20000 in
theorem zlc_digest {X : zX} (F : zLr X cL_law 9 RL) {b0 q h0 mc ms fr lo : Nat} {B : State → Prop} (f : Nat → Int64) (ad1 : zR → Nat) (l : List Nat) (hr : 12 ≤ fr ∧ 440 ≤ lo ∧ 1000 ≤ mc ∧ 5000 ≤ ms) (T : zN X mc ms fr lo B 9 1730 [(4, .int 0), (0, .ref b0)] [] [] 1000 5000) : zN X mc ms fr lo B 9 1716 [(4, .int 0), (3, .ref q), (2, .ref h0), (1, .ref (ad1 (0, 0, 0))), (0, .ref b0)] [] (zwl (zcA X) ad1 [(2, [1, 2, 3]), (0, []), (0, []), (1, [])] [zm0, zfr0, zfr0, zm0] ++ [(q, .inl (zcA X 5, 1, .inr (.inl f)))] ++ zwl (zcA X) (zadM h0 l) [(4, [1]), (3, [])] [zm0, zfr3]) 200 2000 := by
  obtain ⟨b, e, hb⟩ := q_digest
  refine zn_ws (ws' := zwl (zcA X) ad1 [(2, [1, 2, 3]), (0, []), (0, []), (1, [])] [zm0, zfr0, zfr0, zm0] ++ ([(q, .inl (zcA X 5, 1, .inr (.inl f)))] ++ zwl (zcA X) (zadM h0 l) [(4, [1]), (3, [])] [zm0, zfr3])) (List.append_assoc _ _ _) ?_
  refine zn_aload_n F (i := 1) (k := 3) dL_law_1716 rfl rfl ?_
  refine zn_callV F (as := []) (st := []) (j0 := 0) (zAl_z (v := some (zl b.1)) (as := [zr 0 0 0]) (Rg := [(2, [1, 2, 3]), (0, []), (0, []), (1, [])]) (Ms := [zm0, zfr0, zfr0, zm0]) (Ms' := [zm0, zfr0, b.2, zm0]) (zfWB_digest zm0 zfr0 zfr0 zm0 _ e) rfl ad1) dL_law_1717 ycRL_176 yzyX9_digest rfl (wsB := [(q, .inl (zcA X 5, 1, .inr (.inl f)))] ++ zwl (zcA X) (zadM h0 l) [(4, [1]), (3, [])] [zm0, zfr3]) rfl (ci := 8) rfl rfl rfl (Nat.le_of_ble_eq_true rfl) (Nat.le_trans (Nat.le_of_ble_eq_true rfl) hr.1) (Nat.le_trans (Nat.le_of_ble_eq_true rfl) hr.2.1) (by omega) (by omega) fun v w1 hB => ?_
  obtain ⟨rfl, rfl⟩ := hB
  refine zn_aload_n F (i := 2) (k := 2) dL_law_1720 rfl rfl ?_
  refine zn_ws (ws' := (zwl (zcA X) ad1 [(2, [1, 2, 3]), (0, []), (0, []), (1, [])] [zm0, zfr0, b.2, zm0] ++ [(q, .inl (zcA X 5, 1, .inr (.inl f)))]) ++ zwl (zcA X) (zadM h0 l) [(4, [1]), (3, [])] [zm0, zfr3]) (List.append_assoc _ _ _).symm ?_
  refine zn_perm List.perm_append_comm ?_
  refine zn_callV F (as := []) (st := [.long b.1]) (j0 := 0) (zrM_digest h0 l) dL_law_1721 ycRL_180 yzyX11_digest rfl (wsB := zwl (zcA X) ad1 [(2, [1, 2, 3]), (0, []), (0, []), (1, [])] [zm0, zfr0, b.2, zm0] ++ [(q, .inl (zcA X 5, 1, .inr (.inl f)))]) rfl (ci := 10) rfl rfl rfl (Nat.le_of_ble_eq_true rfl) (Nat.le_trans (Nat.le_of_ble_eq_true rfl) hr.1) (Nat.le_trans (Nat.le_of_ble_eq_true rfl) hr.2.1) (by omega) (by omega) fun v w2 hB2 => ?_
  obtain ⟨rfl, -⟩ := hB2
  refine zn_lcmp F dL_law_1724 ?_
  refine zn_if_eq F (tgt := 1730) dL_law_1725 (by decide) (fun _ => ?_) (fun z => absurd ((lg_cmp_eq _ _).mpr hb) z)
  exact zn_pick [0, 4] rfl (zn_sub [] (ws' := []) rfl rfl (zn_wid (by omega) (by omega) T))

theorem z31 (x : Int32) : ∃ k : Nat, k < 32 ∧ x &&& 31 = Int32.ofNat k := by
  have h1 : (x &&& 31).toBitVec.toNat ≤ 31 := by
    show (x.toBitVec &&& (31 : Int32).toBitVec).toNat ≤ 31
    rw [BitVec.toNat_and]
    exact Nat.and_le_right
  refine ⟨(x &&& 31).toBitVec.toNat, by omega, Int32.toBitVec_inj.mp (BitVec.eq_of_toNat_eq ?_)⟩
  show (x &&& 31).toBitVec.toNat = (BitVec.ofNat 32 (x &&& 31).toBitVec.toNat).toNat
  rw [BitVec.toNat_ofNat, Nat.mod_eq_of_lt (by omega)]
set_option maxHeartbeats 4000000 in
set_option maxRecDepth 20000 in
theorem zlc_round {X : zX} (F : zLr X cL_law 9 RL) {b0 q h0 mc ms fr lo : Nat} {xs : Nat → Int32} {B : State → Prop} (f : Nat → Int64) (ad1 : zR → Nat) (l : List Nat) (hX : zScr X b0 7 xs) (hr : 12 ≤ fr ∧ 440 ≤ lo ∧ 1000 ≤ mc ∧ 5000 ≤ ms) (T : zN X mc ms fr lo B 9 1730 [(4, .int 0), (0, .ref b0)] [] [] 1000 5000) : zN X mc ms fr lo B 9 33 [(4, .int 0), (3, .ref q), (2, .ref h0), (1, .ref (ad1 (0, 0, 0))), (0, .ref b0)] [] (zwl (zcA X) ad1 [(2, [1, 2, 3]), (0, []), (0, []), (1, [])] [zm0, zfr0, zfr0, zm0] ++ [(q, .inl (zcA X 5, 1, .inr (.inl f)))] ++ zwl (zcA X) (zadM h0 l) [(4, [1]), (3, [])] [zm0, zfr3]) 200 2000 := by
  refine zn_aload_n F (i := 0) (k := 4) dL_law_33 rfl rfl ?_
  refine zn_iload F (i := 4) (k := 0) dL_law_34 rfl ?_
  refine zn_sld F hX (jn := 0) dL_law_36 (zvi (by decide)) (by decide) ?_
  refine zn_bipush F (v := 31) dL_law_37 (by decide) ?_
  refine zn_iand F dL_law_39 ?_
  obtain ⟨k, hk32, hk⟩ := z31 (xs 0)
  rw [hk]
  clear hk
  match k, hk32 with
  | 0, _ => exact zn_tableIn F (tgt := 156) dL_law_40 (by decide) (by decide) (off := 116) (by decide) (by decide) (zlc_string F f ad1 l hX hr T)
  | 1, _ => exact zn_tableIn F (tgt := 212) dL_law_40 (by decide) (by decide) (off := 172) (by decide) (by decide) (zlc_turbine F f ad1 l hX hr T)
  | 2, _ => exact zn_tableIn F (tgt := 292) dL_law_40 (by decide) (by decide) (off := 252) (by decide) (by decide) (zlc_vessel F f ad1 l hX hr T)
  | 3, _ => exact zn_tableIn F (tgt := 348) dL_law_40 (by decide) (by decide) (off := 308) (by decide) (by decide) (zlc_nominate F f ad1 l hX hr T)
  | 4, _ => exact zn_tableIn F (tgt := 416) dL_law_40 (by decide) (by decide) (off := 376) (by decide) (by decide) (zlc_blow F f ad1 l hX hr T)
  | 5, _ => exact zn_tableIn F (tgt := 534) dL_law_40 (by decide) (by decide) (off := 494) (by decide) (by decide) (zlc_turn F f ad1 l hX hr T)
  | 6, _ => exact zn_tableIn F (tgt := 602) dL_law_40 (by decide) (by decide) (off := 562) (by decide) (by decide) (zlc_call F f ad1 l hX hr T)
  | 7, _ => exact zn_tableIn F (tgt := 686) dL_law_40 (by decide) (by decide) (off := 646) (by decide) (by decide) (zlc_floor F f ad1 l hX hr T)
  | 8, _ => exact zn_tableIn F (tgt := 742) dL_law_40 (by decide) (by decide) (off := 702) (by decide) (by decide) (zlc_sail F f ad1 l hX hr T)
  | 9, _ => exact zn_tableIn F (tgt := 810) dL_law_40 (by decide) (by decide) (off := 770) (by decide) (by decide) (zlc_lock F f ad1 l hX hr T)
  | 10, _ => exact zn_tableIn F (tgt := 894) dL_law_40 (by decide) (by decide) (off := 854) (by decide) (by decide) (zlc_climb F f ad1 l hX hr T)
  | 11, _ => exact zn_tableIn F (tgt := 962) dL_law_40 (by decide) (by decide) (off := 922) (by decide) (by decide) (zlc_down F f ad1 l hX hr T)
  | 12, _ => exact zn_tableIn F (tgt := 1018) dL_law_40 (by decide) (by decide) (off := 978) (by decide) (by decide) (zlc_ofTurbine F f ad1 l hX hr T)
  | 13, _ => exact zn_tableIn F (tgt := 1086) dL_law_40 (by decide) (by decide) (off := 1046) (by decide) (by decide) (zlc_wear F f ad1 l hX hr T)
  | 14, _ => exact zn_tableIn F (tgt := 1154) dL_law_40 (by decide) (by decide) (off := 1114) (by decide) (by decide) (zlc_lost F f ad1 l hX hr T)
  | 15, _ => exact zn_tableIn F (tgt := 1222) dL_law_40 (by decide) (by decide) (off := 1182) (by decide) (by decide) (zlc_wake F f ad1 l hX hr T)
  | 16, _ => exact zn_tableIn F (tgt := 1290) dL_law_40 (by decide) (by decide) (off := 1250) (by decide) (by decide) (zlc_extreme F f ad1 l hX hr T)
  | 17, _ => exact zn_tableIn F (tgt := 1358) dL_law_40 (by decide) (by decide) (off := 1318) (by decide) (by decide) (zlc_ofString F f ad1 l hX hr T)
  | 18, _ => exact zn_tableIn F (tgt := 1426) dL_law_40 (by decide) (by decide) (off := 1386) (by decide) (by decide) (zlc_ofVessel F f ad1 l hX hr T)
  | 19, _ => exact zn_tableIn F (tgt := 1494) dL_law_40 (by decide) (by decide) (off := 1454) (by decide) (by decide) (zlc_many F f ad1 l hX hr T)
  | 20, _ => exact zn_tableIn F (tgt := 1550) dL_law_40 (by decide) (by decide) (off := 1510) (by decide) (by decide) (zlc_mean F f ad1 l hr T)
  | 21, _ => exact zn_tableIn F (tgt := 1591) dL_law_40 (by decide) (by decide) (off := 1551) (by decide) (by decide) (zlc_wouldDeliver F f ad1 l hX hr T)
  | 22, _ => exact zn_tableIn F (tgt := 1647) dL_law_40 (by decide) (by decide) (off := 1607) (by decide) (by decide) (zlc_bestTurn F f ad1 l hX hr T)
  | 23, _ => exact zn_tableIn F (tgt := 1703) dL_law_40 (by decide) (by decide) (off := 1663) (by decide) (by decide) (zlc_bestPlace F f ad1 l hr T)
  | 24, _ => exact zn_tableIn F (tgt := 1716) dL_law_40 (by decide) (by decide) (off := 1676) (by decide) (by decide) (zlc_digest F f ad1 l hr T)
  | 25, _ => exact zn_tableOut F (tgt := 1730) dL_law_40 (by decide) (by decide) (zn_pick [0, 4] rfl (zn_sub [] (ws' := []) rfl rfl (zn_wid (by omega) (by omega) T)))
  | 26, _ => exact zn_tableOut F (tgt := 1730) dL_law_40 (by decide) (by decide) (zn_pick [0, 4] rfl (zn_sub [] (ws' := []) rfl rfl (zn_wid (by omega) (by omega) T)))
  | 27, _ => exact zn_tableOut F (tgt := 1730) dL_law_40 (by decide) (by decide) (zn_pick [0, 4] rfl (zn_sub [] (ws' := []) rfl rfl (zn_wid (by omega) (by omega) T)))
  | 28, _ => exact zn_tableOut F (tgt := 1730) dL_law_40 (by decide) (by decide) (zn_pick [0, 4] rfl (zn_sub [] (ws' := []) rfl rfl (zn_wid (by omega) (by omega) T)))
  | 29, _ => exact zn_tableOut F (tgt := 1730) dL_law_40 (by decide) (by decide) (zn_pick [0, 4] rfl (zn_sub [] (ws' := []) rfl rfl (zn_wid (by omega) (by omega) T)))
  | 30, _ => exact zn_tableOut F (tgt := 1730) dL_law_40 (by decide) (by decide) (zn_pick [0, 4] rfl (zn_sub [] (ws' := []) rfl rfl (zn_wid (by omega) (by omega) T)))
  | 31, _ => exact zn_tableOut F (tgt := 1730) dL_law_40 (by decide) (by decide) (zn_pick [0, 4] rfl (zn_sub [] (ws' := []) rfl rfl (zn_wid (by omega) (by omega) T)))
  | n + 32, h => exact absurd h (by omega)

theorem ynRL_8 : Cond.classLink RL 8 RX9 ∈ zTg ∧ Cond.instantiable RX9 3 ∈ zTg ∧ Cond.initialized RX9 ∈ zTg := ⟨zm_f 57 (by decide +kernel) rfl, zm_f 58 (by decide +kernel) rfl, zm_f 37 (by decide +kernel) rfl⟩
theorem ynRL_87 : Cond.classLink RL 87 RX11 ∈ zTg ∧ Cond.instantiable RX11 2 ∈ zTg ∧ Cond.initialized RX11 ∈ zTg := ⟨zm_f 954 (by decide +kernel) rfl, zm_f 955 (by decide +kernel) rfl, zm_f 46 (by decide +kernel) rfl⟩
theorem ykRL_a : Cond.methodLink RL 86 yX9_init ∈ zTg ∧ Cond.instanceMethod yX9_init ∈ zTg ∧ Cond.initialized yX9_init.cls ∈ zTg ∧ Cond.code yX9_init cX9_init 1 none ∈ zTg := ⟨zm_f 59 (by decide +kernel) rfl, zm_f 60 (by decide +kernel) rfl, zm_f 37 (by decide +kernel) rfl, zm_f 61 (by decide +kernel) rfl⟩
theorem ykRL_ay : yX9_init.name = "<init>" ∧ yX9_init.cls ≠ "java/lang/invoke/MethodHandle" ∧ yX9_init.cls ≠ "java/lang/invoke/VarHandle" ∧ (parseMethodDescriptor yX9_init.desc).map (fun d => d.parameters.length) = some 0 := by decide +kernel
theorem ykRL_b : Cond.methodLink RL 89 yX11_init ∈ zTg ∧ Cond.instanceMethod yX11_init ∈ zTg ∧ Cond.initialized yX11_init.cls ∈ zTg ∧ Cond.code yX11_init cX11_init 1 none ∈ zTg := ⟨zm_f 956 (by decide +kernel) rfl, zm_f 957 (by decide +kernel) rfl, zm_f 46 (by decide +kernel) rfl, zm_f 958 (by decide +kernel) rfl⟩
theorem ykRL_by : yX11_init.name = "<init>" ∧ yX11_init.cls ≠ "java/lang/invoke/MethodHandle" ∧ yX11_init.cls ≠ "java/lang/invoke/VarHandle" ∧ (parseMethodDescriptor yX11_init.desc).map (fun d => d.parameters.length) = some 0 := by decide +kernel
theorem yaRL : Cond.arrayClass .long ∈ zTg := zm_f 1313 (by decide +kernel) rfl
theorem ydX9 : ∀ j, j < 3 → defaultValue (tyX9 j) = vp_V [.null, .null, .null] j := by
  intro j hj
  rcases (show j = 0 ∨ j = 1 ∨ j = 2 by omega) with rfl | rfl | rfl <;> rfl
theorem ydX11 : ∀ j, j < 2 → defaultValue (tyX11 j) = vp_V [.int 0, .null] j := by
  intro j hj
  rcases (show j = 0 ∨ j = 1 by omega) with rfl | rfl <;> rfl
set_option maxHeartbeats 4000000 in
set_option maxRecDepth 20000 in
theorem zlc_law {X : zX} (F : zLr X cL_law 9 RL) {b0 L mc ms fr lo : Nat} {xs : Nat → Int32} {B : State → Prop} (hX : zScr X b0 L xs) (hL : L ≤ 7) (hr : 12 ≤ fr ∧ 440 ≤ lo ∧ 1000 ≤ mc ∧ 5000 ≤ ms) (T : zN X mc ms fr lo B 9 1737 [] [.int 1] [] 1000 5000) : zN X mc ms fr lo B 9 0 [(0, .ref b0)] [] [] 0 0 := by
  have hck : ∀ a b : Nat, a ≤ 1000 → b ≤ 5000 → a ≤ mc ∧ b ≤ ms := fun a b h1 h2 => ⟨by omega, by omega⟩
  refine zn_new F (ci := 8) (N := 3) (fs := [.null, .null, .null]) dL_law_0 rfl zCl_8 tyX9_ok ynRL_8 ydX9 (hck 1 3 (by decide) (by decide)).1 (hck 1 3 (by decide) (by decide)).2 fun q0 => ?_
  refine zn_dup F dL_law_3 rfl ?_
  refine zn_call F (ws0 := []) zcWB dL_law_4 ykRL_a ykRL_ay rfl (Nat.le_of_ble_eq_true rfl) (Nat.le_trans (Nat.le_of_ble_eq_true rfl) hr.1) (Nat.le_trans (Nat.le_of_ble_eq_true rfl) hr.2.1) (Nat.le_trans (Nat.le_of_ble_eq_true rfl) hr.2.2.1) (Nat.le_trans (Nat.le_of_ble_eq_true rfl) hr.2.2.2) fun w1 hB1 => ?_
  obtain ⟨ad1, rfl, rfl⟩ := hB1
  refine zn_astore_n F (i := 1) (lv' := [(1, .ref (ad1 (0, 0, 0))), (0, .ref b0)]) dL_law_7 rfl (by decide) rfl ?_
  refine zn_new F (ci := 10) (N := 2) (fs := [.int 0, .null]) dL_law_8 rfl zCl_10 tyX11_ok ynRL_87 ydX11 (Nat.le_trans (Nat.le_of_ble_eq_true rfl) hr.2.2.1) (Nat.le_trans (Nat.le_of_ble_eq_true rfl) hr.2.2.2) fun h0 => ?_
  refine zn_dup F dL_law_11 rfl ?_
  refine zn_call F (ws0 := zwl (zcA X) ad1 [(2, [1, 2, 3]), (0, []), (0, []), (1, [])] [zm0, zfr0, zfr0, zm0]) zcMO2 dL_law_12 ykRL_b ykRL_by rfl (Nat.le_of_ble_eq_true rfl) (Nat.le_trans (Nat.le_of_ble_eq_true rfl) hr.1) (Nat.le_trans (Nat.le_of_ble_eq_true rfl) hr.2.1) (Nat.le_trans (Nat.le_of_ble_eq_true rfl) hr.2.2.1) (Nat.le_trans (Nat.le_of_ble_eq_true rfl) hr.2.2.2) fun w2 hB2 => ?_
  obtain ⟨l, rfl⟩ := hB2
  refine zn_astore_n F (i := 2) (lv' := [(2, .ref h0), (1, .ref (ad1 (0, 0, 0))), (0, .ref b0)]) dL_law_15 rfl (by decide) rfl ?_
  refine zn_iconst F (v := 1) dL_law_16 (by decide) ?_
  refine zn_newl F (N := 1) (t := 5) dL_law_17 yaRL (by decide) rfl (by decide) (by decide) (Nat.le_of_ble_eq_true rfl) (Nat.le_trans (Nat.le_of_ble_eq_true rfl) hr.2.2.1) (Nat.le_trans (Nat.le_of_ble_eq_true rfl) hr.2.2.2) fun q => ?_
  refine zn_perm (ws' := zwl (zcA X) ad1 [(2, [1, 2, 3]), (0, []), (0, []), (1, [])] [zm0, zfr0, zfr0, zm0] ++ [(q, .inl (zcA X 5, 1, .inr (.inl (fun _ => 0))))] ++ zwl (zcA X) (zadM h0 l) [(4, [1]), (3, [])] [zm0, zfr3]) (by rw [List.append_assoc, List.append_assoc]; exact List.Perm.append_left _ List.perm_append_comm) ?_
  refine zn_wid (ck' := 200) (sk' := 2000) (Nat.le_of_ble_eq_true rfl) (Nat.le_of_ble_eq_true rfl) ?_
  refine zn_astore_n F (i := 3) (lv' := [(3, .ref q), (2, .ref h0), (1, .ref (ad1 (0, 0, 0))), (0, .ref b0)]) dL_law_19 rfl (by decide) rfl ?_
  refine zn_iconst F (v := 0) dL_law_20 (by decide) ?_
  refine zn_istore F (i := 4) (lv' := [(4, .int 0), (3, .ref q), (2, .ref h0), (1, .ref (ad1 (0, 0, 0))), (0, .ref b0)]) dL_law_21 (by decide) rfl ?_
  refine zn_iload F (i := 4) (k := 0) dL_law_23 rfl ?_
  refine zn_aload_n F (i := 0) (k := 4) dL_law_25 rfl rfl ?_
  refine zn_slen F hX dL_law_26 rfl ?_
  refine zn_bipush F (v := 7) dL_law_27 (by decide) ?_
  refine zn_isub F dL_law_29 ?_
  refine zn_icmp_gt F (tgt := 1736) dL_law_30 (by decide) (fun _ => ?_) (fun hz => ?_)
  · refine zn_iconst F (v := 1) dL_law_1736 (by decide) ?_
    exact zn_pick [] rfl (zn_sub [] (ws' := []) rfl rfl (zn_wid (Nat.le_of_ble_eq_true rfl) (Nat.le_of_ble_eq_true rfl) T))
  · obtain rfl : L = 7 := by
      rcases (show L = 0 ∨ L = 1 ∨ L = 2 ∨ L = 3 ∨ L = 4 ∨ L = 5 ∨ L = 6 ∨ L = 7 by omega) with rfl | rfl | rfl | rfl | rfl | rfl | rfl | rfl
      · exact absurd (by decide) hz
      · exact absurd (by decide) hz
      · exact absurd (by decide) hz
      · exact absurd (by decide) hz
      · exact absurd (by decide) hz
      · exact absurd (by decide) hz
      · exact absurd (by decide) hz
      · rfl
    refine zlc_round F _ ad1 l hX hr ?_
    refine zn_iinc F (i := 4) (k := 0) (v := 7) (lv' := [(4, .int 7), (0, .ref b0)]) dL_law_1730 rfl (by decide) (by decide) rfl ?_
    refine zn_goto F (tgt := 23) dL_law_1733 (by decide) ?_
    refine zn_iload F (i := 4) (k := 0) dL_law_23 rfl ?_
    refine zn_aload_n F (i := 0) (k := 1) dL_law_25 rfl rfl ?_
    refine zn_slen F hX dL_law_26 rfl ?_
    refine zn_bipush F (v := 7) dL_law_27 (by decide) ?_
    refine zn_isub F dL_law_29 ?_
    refine zn_icmp_gt F (tgt := 1736) dL_law_30 (by decide) (fun _ => ?_) (fun hz => absurd (by decide) hz)
    refine zn_iconst F (v := 1) dL_law_1736 (by decide) ?_
    exact zn_pick [] rfl T
