/-! ===== made ===== -/
theorem yfRL_22 : zFl RL 22 9 7 := ⟨_, rfl, by decide, zm_f 725 (by decide +kernel) rfl⟩
theorem yfRL_71 : zFl RL 71 9 3 := ⟨_, rfl, by decide, zm_f 720 (by decide +kernel) rfl⟩
theorem ycRL_83 : Cond.methodLink RL 83 yX9_turbine ∈ zTg ∧ Cond.instanceMethod yX9_turbine ∈ zTg ∧ Cond.selects "WakeBanks" yX9_turbine yX9_turbine ∈ zTg ∧ Cond.initialized "WakeBanks" ∈ zTg ∧ Cond.code yX9_turbine cX9_turbine 4 (some .int) ∈ zTg := ⟨zm_f 870 (by decide +kernel) rfl, zm_f 823 (by decide +kernel) rfl, zm_f 824 (by decide +kernel) rfl, zm_f 21 (by decide +kernel) rfl, zm_f 825 (by decide +kernel) rfl⟩
theorem ycRL_54 : Cond.methodLink RL 54 yX9_blow ∈ zTg ∧ Cond.instanceMethod yX9_blow ∈ zTg ∧ Cond.selects "WakeBanks" yX9_blow yX9_blow ∈ zTg ∧ Cond.initialized "WakeBanks" ∈ zTg ∧ Cond.code yX9_blow cX9_blow 7 (some .int) ∈ zTg := ⟨zm_f 39 (by decide +kernel) rfl, zm_f 40 (by decide +kernel) rfl, zm_f 41 (by decide +kernel) rfl, zm_f 21 (by decide +kernel) rfl, zm_f 42 (by decide +kernel) rfl⟩
theorem yyyX9_blow : yX9_blow.cls = "WakeBanks" ∧ yX9_blow.cls ≠ "java/lang/invoke/MethodHandle" ∧ yX9_blow.cls ≠ "java/lang/invoke/VarHandle" ∧ (parseMethodDescriptor yX9_blow.desc).map (fun d => d.parameters.length) = some 6 := by decide +kernel
theorem knRL_31 : Cond.classLink RL 31 RX9 ∈ zTg ∧ Cond.instantiable RX9 3 ∈ zTg ∧ Cond.initialized RX9 ∈ zTg := ⟨zm_f 867 (by decide +kernel) rfl, zm_f 280 (by decide +kernel) rfl, zm_f 21 (by decide +kernel) rfl⟩
theorem kiRL_79 : Cond.methodLink RL 79 yX9_init ∈ zTg ∧ Cond.instanceMethod yX9_init ∈ zTg ∧ Cond.initialized yX9_init.cls ∈ zTg ∧ Cond.code yX9_init cX9_init 1 none ∈ zTg := ⟨zm_f 868 (by decide +kernel) rfl, zm_f 433 (by decide +kernel) rfl, zm_f 21 (by decide +kernel) rfl, zm_f 434 (by decide +kernel) rfl⟩
theorem kyX9_init : yX9_init.name = "<init>" ∧ yX9_init.cls ≠ "java/lang/invoke/MethodHandle" ∧ yX9_init.cls ≠ "java/lang/invoke/VarHandle" ∧ (parseMethodDescriptor yX9_init.desc).map (fun d => d.parameters.length) = some 0 := by decide +kernel
theorem ydX9 : ∀ j, j < 3 → defaultValue (tyX9 j) = vp_V [.null, .null, .null] j := by
  intro j hj
  rcases (show j = 0 ∨ j = 1 ∨ j = 2 by omega) with rfl | rfl | rfl <;> rfl
theorem ycRL_80 : Cond.methodLink RL 80 yX9_string ∈ zTg ∧ Cond.instanceMethod yX9_string ∈ zTg ∧ Cond.selects "WakeBanks" yX9_string yX9_string ∈ zTg ∧ Cond.initialized "WakeBanks" ∈ zTg ∧ Cond.code yX9_string cX9_string 2 (some .int) ∈ zTg := ⟨zm_f 869 (by decide +kernel) rfl, zm_f 794 (by decide +kernel) rfl, zm_f 795 (by decide +kernel) rfl, zm_f 21 (by decide +kernel) rfl, zm_f 796 (by decide +kernel) rfl⟩
set_option maxHeartbeats 4000000 in
set_option maxRecDepth 20000 in
theorem zm_loop1 {X : zX} (F : zLr X cL_made 5 RL) {ad : zR → Nat} {a : Nat → Nat} {x : Nat → Int32} {r : Nat → Nat} {g : Nat → Nat → Int32} {u : Nat → Nat} {v : Nat → Nat → Int32} {n : Nat} {s : zM} {pl : Int32} {mc ms fr lo ck sk : Nat} {B : State → Prop} (hroom : ck ≤ mc ∧ sk ≤ ms ∧ 8 ≤ fr ∧ 160 ≤ lo) (hn : n < 8) (h1 : x 1 = Int32.ofNat n) (hT : s_T n s) (hg : ∀ i, i < n → g i 0 = s 7 i 0 ∧ g i 1 = s 7 i 1) (kk : zN X mc ms fr lo B 5 62 [(2, .ref (ad (0, 0, 0))), (0, .ref (a 0)), (1, .int pl)] [] (zto (zcA X) a x r g u v ++ zww (zcA X) ad (s_mk s n) zfr0 zm0) ck sk) : ∀ d k, k + d = n → zN X mc ms fr lo B 5 26 ((3, .int (Int32.ofNat k)) :: [(2, .ref (ad (0, 0, 0))), (0, .ref (a 0)), (1, .int pl)]) [] (zto (zcA X) a x r g u v ++ zww (zcA X) ad (s_mk s k) zfr0 zm0) ck sk := by
  intro d
  induction d with
  | zero =>
    intro k hk
    obtain rfl : k = n := by omega
    refine zn_iload_n F (i := 3) (k := 0) dL_made_26 rfl rfl ?_
    refine zn_aload_n F (i := 0) (k := 2) dL_made_27 rfl rfl ?_
    refine zn_get F (j := 0) (v := .int (Int32.ofNat k)) dL_made_28 yfRL_22 zCl_9 rfl (by show some (Value.int (x 1)) = _; rw [h1]) ?_
    refine zn_icmp_ge F (tgt := 62) dL_made_31 (by decide) (fun _ => ?_) (fun z => absurd ((znle (by omega) (by omega)).mpr (Nat.le_refl k)) z)
    exact zn_pick [1, 2, 3] rfl kk
  | succ d ih =>
    intro k hk
    have hkn : k < n := by omega
    obtain ⟨mB, -, -⟩ := s_mkB s k
    have hs : fWB_turbine (s 7 k 0) (s 7 k 1) 0 zm0 (s_mk s k) zfr0 zm0 = some (.inl (Int32.ofNat k, s_mk s (k + 1))) := s_turbine (by omega) mB.2.1 mB.2.2.1 ⟨(hT.2.1 k hkn).1.1, by have := (hT.2.1 k hkn).1.2; omega⟩ ⟨(hT.2.1 k hkn).2.1, by have := (hT.2.1 k hkn).2.2; omega⟩ (by decide) (s_mk_free hT.2.2 hkn) zm0 zfr0 zm0
    refine zn_iload_n F (i := 3) (k := 0) dL_made_26 rfl rfl ?_
    refine zn_aload_n F (i := 0) (k := 2) dL_made_27 rfl rfl ?_
    refine zn_get F (j := 0) (v := .int ((Int32.ofNat n))) dL_made_28 yfRL_22 zCl_9 rfl (by show some (Value.int (x 1)) = _; rw [h1]) ?_
    refine zn_icmp_ge F (tgt := 62) dL_made_31 (by decide) (fun z => absurd hkn (by rw [znle (by omega) (by omega)] at z; omega)) (fun _ => ?_)
    refine zn_aload_n F (i := 2) (k := 1) dL_made_34 rfl rfl ?_
    refine zn_aload_n F (i := 0) (k := 2) dL_made_35 rfl rfl ?_
    refine zn_get F (j := 0) (v := .ref (a 3)) dL_made_36 yfRL_71 zCl_9 rfl rfl ?_
    refine zn_iload_n F (i := 3) (k := 0) dL_made_39 rfl rfl ?_
    refine zn_aald F (q0 := 1) (n := 8) (jn := k) (b := r k) dL_made_40 rfl (zvin (by omega) (by decide)) (zclm k (by omega)) rfl ?_
    refine zn_iconst F (v := 0) dL_made_41 (by decide) ?_
    refine zn_iald F (q0 := 6 + k) (n := 15) (f := g k) (jn := 0) (x := s 7 k 0) dL_made_42 (zto_row _ _ _ _ _ _ _ _ (by omega)) (vp_in_nI (n := 0) (by decide) (by decide)) (by decide) (hg k hkn).1 ?_
    refine zn_aload_n F (i := 0) (k := 2) dL_made_43 rfl rfl ?_
    refine zn_get F (j := 0) (v := .ref (a 3)) dL_made_44 yfRL_71 zCl_9 rfl rfl ?_
    refine zn_iload_n F (i := 3) (k := 0) dL_made_47 rfl rfl ?_
    refine zn_aald F (q0 := 1) (n := 8) (jn := k) (b := r k) dL_made_48 rfl (zvin (by omega) (by decide)) (zclm k (by omega)) rfl ?_
    refine zn_iconst F (v := 1) dL_made_49 (by decide) ?_
    refine zn_iald F (q0 := 6 + k) (n := 15) (f := g k) (jn := 1) (x := s 7 k 1) dL_made_50 (zto_row _ _ _ _ _ _ _ _ (by omega)) (vp_in_nI (n := 1) (by decide) (by decide)) (by decide) (hg k hkn).2 ?_
    refine zn_iconst F (v := 0) dL_made_51 (by decide) ?_
    refine zn_perm List.perm_append_comm ?_
    refine zn_callV F (h0 := ad (0, 0, 0)) (as := [.int ((s 7 k 0)), .int ((s 7 k 1)), .int (0)]) (st := []) (j0 := 0) (zx_turbine ad hs) dL_made_52 ycRL_83 yyyX9_turbine rfl (wsB := zto (zcA X) a x r g u v) rfl (ci := 8) rfl rfl rfl (Nat.le_of_ble_eq_true rfl) (by omega) (by omega) (by omega) (by omega) fun w1 w2 hB => ?_
    obtain ⟨rfl, rfl⟩ := hB
    refine zn_perm List.perm_append_comm ?_
    refine zn_pop F dL_made_55 rfl ?_
    refine zn_iinc F (i := 3) (k := 0) (v := Int32.ofNat (k + 1)) (lv' := [(3, .int (Int32.ofNat (k + 1))), (2, .ref ((ad (0, 0, 0)))), (0, .ref ((a 0))), (1, .int pl)]) dL_made_56 rfl (zn1 k) (by decide) rfl ?_
    refine zn_goto F (tgt := 26) dL_made_59 (by decide) ?_
    exact ih (k + 1) (by omega)
set_option maxHeartbeats 4000000 in
set_option maxRecDepth 20000 in
theorem zm_loop2 {X : zX} (F : zLr X cL_made 5 RL) {ad : zR → Nat} {a : Nat → Nat} {x : Nat → Int32} {r : Nat → Nat} {g : Nat → Nat → Int32} {u : Nat → Nat} {v : Nat → Nat → Int32} {n : Nat} {s : zM} {pl : Int32} {mc ms fr lo ck sk : Nat} {B : State → Prop} (hroom : ck ≤ mc ∧ sk ≤ ms ∧ 8 ≤ fr ∧ 160 ≤ lo) (hn : n < 8) {px py : Int32} (kk : ∀ S, zN X mc ms fr lo B 5 111 ((3, .int (s_P s n px py)) :: [(2, .ref (ad (0, 0, 0))), (0, .ref (a 0)), (1, .int pl)]) [] (zto (zcA X) a x r g u v ++ zww (zcA X) ad S zfr0 zm0) ck sk) : ∀ d k, k + d = 8 → ∀ S, s_M (n + 1) (s_pn n (s_x s) px) (s_pn n (s_y s) py) k S → zN X mc ms fr lo B 5 81 ((4, .int (Int32.ofNat k)) :: (3, .int (s_al (s_pn n (s_x s) px) (s_pn n (s_y s) py) (n + 1) k)) :: [(2, .ref (ad (0, 0, 0))), (0, .ref (a 0)), (1, .int pl)]) [] (zto (zcA X) a x r g u v ++ zww (zcA X) ad S zfr0 zm0) ck sk := by
  intro d
  induction d with
  | zero =>
    intro k hk S hM
    obtain rfl : k = 8 := by omega
    refine zn_iload F (i := 4) (k := 0) dL_made_81 rfl ?_
    refine zn_bipush F (v := 8) dL_made_83 (by decide) ?_
    refine zn_icmp_ge F (tgt := 111) dL_made_85 (by decide) (fun _ => ?_) (fun z => absurd (by decide) z)
    exact zn_pick [1, 2, 3, 4] rfl (kk S)
  | succ d ih =>
    intro k hk S hM
    obtain ⟨s2, hs, hM2⟩ := s_Mb (d := k) (dd := k) (by omega) hM (by omega)
    refine zn_iload F (i := 4) (k := 0) dL_made_81 rfl ?_
    refine zn_bipush F (v := 8) dL_made_83 (by decide) ?_
    refine zn_icmp_ge F (tgt := 111) dL_made_85 (by decide) (fun z => absurd z (by rw [show (8 : Int32) = Int32.ofNat 8 from rfl, znle (by omega) (by omega)]; omega)) (fun _ => ?_)
    refine zn_iload_n F (i := 3) (k := 1) dL_made_88 rfl rfl ?_
    refine zn_aload_n F (i := 2) (k := 2) dL_made_89 rfl rfl ?_
    refine zn_iconst F (v := 1) dL_made_90 (by decide) ?_
    refine zn_iload F (i := 4) (k := 0) dL_made_91 rfl ?_
    refine zn_bipush F (v := 10) dL_made_93 (by decide) ?_
    refine zn_iconst F (v := 0) dL_made_95 (by decide) ?_
    refine zn_iconst F (v := 0) dL_made_96 (by decide) ?_
    refine zn_sipush F (v := 20000) dL_made_97 (by decide) ?_
    refine zn_perm List.perm_append_comm ?_
    refine zn_callV F (h0 := ad (0, 0, 0)) (as := [.int (1), .int ((Int32.ofNat k)), .int (10), .int (0), .int (0), .int (20000)]) (st := [.int ((s_al (s_pn n (s_x s) px) (s_pn n (s_y s) py) (n + 1) k))]) (j0 := 0) (zx_blow ad (hs zm0 zfr0 zm0)) dL_made_100 ycRL_54 yyyX9_blow rfl (wsB := zto (zcA X) a x r g u v) rfl (ci := 8) rfl rfl rfl (Nat.le_of_ble_eq_true rfl) (by omega) (by omega) (by omega) (by omega) fun w1 w2 hB => ?_
    obtain ⟨rfl, rfl⟩ := hB
    refine zn_perm List.perm_append_comm ?_
    refine zn_iadd F dL_made_103 ?_
    refine zn_istore_n F (i := 3) (lv' := [(3, .int (((s_al (s_pn n (s_x s) px) (s_pn n (s_y s) py) (n + 1) k) + s_hr (s_pn n (s_x s) px) (s_pn n (s_y s) py) (Int32.ofNat k) (n + 1) (n + 1)))), (4, .int ((Int32.ofNat k))), (2, .ref ((ad (0, 0, 0)))), (0, .ref ((a 0))), (1, .int pl)]) dL_made_104 rfl (by decide) rfl ?_
    refine zn_iinc F (i := 4) (k := 1) (v := Int32.ofNat (k + 1)) (lv' := [(4, .int (Int32.ofNat (k + 1))), (3, .int (((s_al (s_pn n (s_x s) px) (s_pn n (s_y s) py) (n + 1) k) + s_hr (s_pn n (s_x s) px) (s_pn n (s_y s) py) (Int32.ofNat k) (n + 1) (n + 1)))), (2, .ref ((ad (0, 0, 0)))), (0, .ref ((a 0))), (1, .int pl)]) dL_made_105 rfl (zn1 k) (by decide) rfl ?_
    refine zn_goto F (tgt := 81) dL_made_108 (by decide) ?_
    exact ih (k + 1) (by omega) s2 hM2
set_option maxHeartbeats 4000000 in
set_option maxRecDepth 20000 in
theorem zt_made {a : Nat → Nat} {x : Nat → Int32} {r : Nat → Nat} {g : Nat → Nat → Int32} {u : Nat → Nat} {v : Nat → Nat → Int32} {n : Nat} {s : zM} {j : Nat} (hj : j < 400) {pl : Int32} (hpl : pl = Int32.ofNat j) (hn : n < 8) (h1 : x 1 = Int32.ofNat n) (hT : s_T n s) (hg : ∀ i, i < n → g i 0 = s 7 i 0 ∧ g i 1 = s 7 i 1) (hf : s_free n s (pl / 20) (pl % 20)) : zAl yL_made cL_made 5 (some .int) 8 160 110 1249 [.ref (a 0), .int pl] (fun cA => zto cA a x r g u v) (fun cA w ws => w = some (.int (s_P s n (pl / 20) (pl % 20))) ∧ ws = zto cA a x r g u v) := by
  refine zAl_of (by decide) (Nat.le_of_ble_eq_true rfl) fun X F hr hex => ?_
  obtain ⟨mB, -, -⟩ := s_mkB s n
  have q1 := s_dv20 hj
  have q2 := s_md20 hj
  rw [← hpl] at q1 q2
  have hs : fWB_turbine (pl / 20) (pl % 20) 1 zm0 (s_mk s n) zfr0 zm0 = some (.inl (Int32.ofNat n, s_tur (pl / 20) (pl % 20) 1 n (s_mk s n))) := s_turbine hn mB.2.1 mB.2.2.1 (by omega) (by omega) (by decide) (s_mk_new hf) zm0 zfr0 zm0
  show zN X _ _ _ _ _ 5 0 [(0, .ref (a 0)), (1, .int pl)] [] (zto (zcA X) a x r g u v) 0 0
  refine zn_new F (ci := 8) (N := 3) (fs := [.null, .null, .null]) dL_made_0 rfl zCl_8 tyX9_ok knRL_31 ydX9 (by omega) (by omega) fun q0 => ?_
  refine zn_dup F dL_made_3 rfl ?_
  refine zn_call F (ws0 := zto (zcA X) a x r g u v) zcWB dL_made_4 kiRL_79 kyX9_init rfl (Nat.le_of_ble_eq_true rfl) (by omega) (by omega) (by omega) (by omega) fun w1 hB => ?_
  obtain ⟨ad, rfl, rfl⟩ := hB
  refine zn_astore_n F (i := 2) (lv' := [(2, .ref (ad (0, 0, 0))), (0, .ref (a 0)), (1, .int pl)]) dL_made_7 rfl (by decide) rfl ?_
  refine zn_aload_n F (i := 2) (k := 0) dL_made_8 rfl rfl ?_
  refine zn_sipush F (v := 9999) dL_made_9 (by decide) ?_
  refine zn_perm List.perm_append_comm ?_
  refine zn_callV F (h0 := ad (0, 0, 0)) (as := [.int (9999)]) (st := []) (j0 := 0) (zx_string ad (s_string (k := 0) (r := 9999) (s := zfr0) (by decide) rfl (by decide) zm0 zfr0 zm0)) dL_made_12 ycRL_80 yyyX9_string rfl (wsB := zto (zcA X) a x r g u v) rfl (ci := 8) rfl rfl rfl (Nat.le_of_ble_eq_true rfl) (by omega) (by omega) (by omega) (by omega) fun w1 w2 hB => ?_
  obtain ⟨rfl, rfl⟩ := hB
  refine zn_perm List.perm_append_comm ?_
  refine zn_pop F dL_made_15 rfl ?_
  refine zn_aload_n F (i := 2) (k := 0) dL_made_16 rfl rfl ?_
  refine zn_sipush F (v := 9999) dL_made_17 (by decide) ?_
  refine zn_perm List.perm_append_comm ?_
  refine zn_callV F (h0 := ad (0, 0, 0)) (as := [.int (9999)]) (st := []) (j0 := 0) (zx_string ad (s_string (k := 1) (r := 9999) (s := (s_str 9999 0 zfr0)) (by decide) rfl (by decide) zm0 zfr0 zm0)) dL_made_20 ycRL_80 yyyX9_string rfl (wsB := zto (zcA X) a x r g u v) rfl (ci := 8) rfl rfl rfl (Nat.le_of_ble_eq_true rfl) (by omega) (by omega) (by omega) (by omega) fun w1 w2 hB => ?_
  obtain ⟨rfl, rfl⟩ := hB
  refine zn_perm List.perm_append_comm ?_
  refine zn_pop F dL_made_23 rfl ?_
  refine zn_iconst F (v := 0) dL_made_24 (by decide) ?_
  refine zn_istore_n F (i := 3) (lv' := [(3, .int 0), (2, .ref ((ad (0, 0, 0)))), (0, .ref ((a 0))), (1, .int pl)]) dL_made_25 rfl (by decide) rfl ?_
  refine zm_loop1 F ⟨by omega, by omega, by omega, by omega⟩ hn h1 hT hg ?_ n 0 (by omega)
  refine zn_aload_n F (i := 2) (k := 0) dL_made_62 rfl rfl ?_
  refine zn_iload_n F (i := 1) (k := 2) dL_made_63 rfl rfl ?_
  refine zn_bipush F (v := 20) dL_made_64 (by decide) ?_
  refine zn_idiv F dL_made_66 (by decide) ?_
  refine zn_iload_n F (i := 1) (k := 2) dL_made_67 rfl rfl ?_
  refine zn_bipush F (v := 20) dL_made_68 (by decide) ?_
  refine zn_irem F dL_made_70 (by decide) ?_
  refine zn_iconst F (v := 1) dL_made_71 (by decide) ?_
  refine zn_perm List.perm_append_comm ?_
  refine zn_callV F (h0 := ad (0, 0, 0)) (as := [.int ((pl / 20)), .int ((pl % 20)), .int (1)]) (st := []) (j0 := 0) (zx_turbine ad hs) dL_made_72 ycRL_83 yyyX9_turbine rfl (wsB := zto (zcA X) a x r g u v) rfl (ci := 8) rfl rfl rfl (Nat.le_of_ble_eq_true rfl) (by omega) (by omega) (by omega) (by omega) fun w1 w2 hB => ?_
  obtain ⟨rfl, rfl⟩ := hB
  refine zn_perm List.perm_append_comm ?_
  refine zn_pop F dL_made_75 rfl ?_
  refine zn_iconst F (v := 0) dL_made_76 (by decide) ?_
  refine zn_istore_n F (i := 3) (lv' := [(3, .int 0), (2, .ref ((ad (0, 0, 0)))), (0, .ref ((a 0))), (1, .int pl)]) dL_made_77 rfl (by decide) rfl ?_
  refine zn_iconst F (v := 0) dL_made_78 (by decide) ?_
  refine zn_istore F (i := 4) (lv' := [(4, .int 0), (3, .int 0), (2, .ref ((ad (0, 0, 0)))), (0, .ref ((a 0))), (1, .int pl)]) dL_made_79 (by decide) rfl ?_
  refine zm_loop2 F ⟨by omega, by omega, by omega, by omega⟩ hn (px := pl / 20) (py := pl % 20) (fun S => ?_) 8 0 (by omega) _ (s_mz hn s (pl / 20) (pl % 20))
  refine zn_iload_n F (i := 3) (k := 0) dL_made_111 rfl rfl ?_
  refine zn_perm List.perm_append_comm ?_
  refine zn_subA [] (ws' := []) rfl rfl ?_
  exact zn_ireturn F hr dL_made_112 ⟨rfl, rfl⟩ (by omega) (by omega)
