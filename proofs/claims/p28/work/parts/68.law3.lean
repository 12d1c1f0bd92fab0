/-! hours that come together -/
theorem yfRL_48 : zFl RL 48 9 10 := ⟨_, rfl, by decide, zm_f 727 (by decide +kernel) rfl⟩
theorem yfRL_51 : zFl RL 51 9 11 := ⟨_, rfl, by decide, zm_f 728 (by decide +kernel) rfl⟩
theorem s_FI {n : Nat} {s : zM} (hI : s_Iv n s) {i : Nat} {m : Int32} {u : zM} (h : s_F i 0 s = some (m, u)) : s_Iv n u ∧ ∀ o, u 4 0 o = s 4 0 o := by
  obtain ⟨r, e, k, I2⟩ := s_FT i 0 s hI
  rw [h] at e
  obtain rfl := Option.some.inj e
  exact ⟨I2, fun o => k 4 0 o fun z => by unfold s_PH at z; omega⟩
set_option maxHeartbeats 4000000 in
set_option maxRecDepth 20000 in
theorem zl_222 {X : zX} (F : zLr X cL_law 19 RL) {b : Nat} {ad ad' : zR → Nat} {a a' : Nat → Nat} {x x' : Nat → Int32} {r r' : Nat → Nat} {g g' : Nat → Nat → Int32} {u u' : Nat → Nat} {v v' : Nat → Nat → Int32} {n h : Nat} {tm kn wo : Int32} {s z t t' p p' : zM} {mc ms fr lo ck sk : Nat} {B : State → Prop} (hroom : ck ≤ mc ∧ sk ≤ ms ∧ 12 ≤ fr ∧ 300 ≤ lo) (h0' : a' 1 = ad' (0, 0, 0)) (hI : s_Iv n s) (hh : 1 ≤ h ∧ h ≤ 4) (h3 : 0 ≤ (x 3).toInt ∧ (x 3).toInt ≤ 7) (h4 : 0 ≤ (x 4).toInt ∧ (x 4).toInt ≤ 30) (w0 : s 4 0 0 = x 3) (w1 : s 4 0 1 = x 4) (w2 : s 4 0 2 = 0) (w3 : s 4 0 3 = 60) (w4 : s 4 0 4 = 20000) (hwo : ∀ m uu, s_F h 0 s = some (m, uu) → m = wo) (kk : ∀ m uu, s_F h 0 s = some (m, uu) → zN X mc ms fr lo B 19 502 [(0, .ref b), (1, .int tm), (2, .ref (a 0)), (3, .ref (a' 0)), (4, .ref (ad (0, 0, 0))), (5, .int kn)] [] (zto (zcA X) a x r g u v ++ (zto (zcA X) a' x' r' g' u' v' ++ (zww (zcA X) ad z t p ++ zww (zcA X) ad' uu t' p'))) ck sk) : ∀ d i, i + d = h → ∀ m uu, s_F i 0 s = some (m, uu) → zN X mc ms fr lo B 19 222 [(15, .int (Int32.ofNat i)), (14, .int m), (0, .ref b), (1, .int tm), (2, .ref (a 0)), (3, .ref (a' 0)), (4, .ref (ad (0, 0, 0))), (5, .int kn), (9, .int (Int32.ofNat h)), (12, .int wo)] [] (zto (zcA X) a x r g u v ++ (zto (zcA X) a' x' r' g' u' v' ++ (zww (zcA X) ad z t p ++ zww (zcA X) ad' uu t' p'))) ck sk := by
  intro d
  induction d with
  | zero =>
    intro i hi m uu hF
    obtain rfl : i = h := by omega
    refine zn_iload F (i := 15) (k := 0) dL_law_222 rfl ?_
    refine zn_iload F (i := 9) (k := 8) dL_law_224 rfl ?_
    refine zn_icmp_ge F (tgt := 262) dL_law_226 (by decide) (fun _ => ?_) (fun y => absurd ((znle (by omega) (by omega)).mpr (Nat.le_refl i)) y)
    refine zn_iload F (i := 14) (k := 1) dL_law_262 rfl ?_
    refine zn_iload F (i := 12) (k := 9) dL_law_264 rfl ?_
    refine zn_icmp_eq F (tgt := 502) dL_law_266 (by decide) (fun _ => ?_) (fun y => absurd (hwo m uu hF) y)
    exact zn_pick [2, 3, 4, 5, 6, 7] rfl (kk m uu hF)
  | succ d ih =>
    intro i hi m uu hF
    obtain ⟨Iu, wu⟩ := s_FI hI hF
    obtain ⟨q, eq, -, -, -⟩ := s_passHour Iu
    have hF2 : s_F (i + 1) 0 s = some (m + (0 + q.1), q.2) := by
      rw [s_Fs i 1 0 s, hF, Option.bind_some, s_F1, eq, Option.bind_some, Int32.zero_add]
    have hb : ∀ s0 z2 z3, fWB_blow 1 (x 3) (x 4) 0 60 20000 s0 uu z2 z3 = some (.inl (0 + q.1, q.2)) := fun s0 z2 z3 => by
      have y := s_blow (h := 1) (a := x 3) (b := x 4) (c := 0) (d := 60) (e := 20000) (s0 := s0) (s := uu) (s2 := z2) (s3 := z3) (by decide) (by decide) h3 h4 (by decide) (by decide) (by decide)
      rw [s_wx_id ((wu 0).trans w0) ((wu 1).trans w1) ((wu 2).trans w2) ((wu 3).trans w3) ((wu 4).trans w4), s_F1, eq, Option.bind_some, Option.bind_some] at y
      exact y
    refine zn_iload F (i := 15) (k := 0) dL_law_222 rfl ?_
    refine zn_iload F (i := 9) (k := 8) dL_law_224 rfl ?_
    refine zn_icmp_ge F (tgt := 262) dL_law_226 (by decide) (fun z => absurd z (fun y => by rw [znle (by omega) (by omega)] at y; omega)) (fun _ => ?_)
    refine zn_iload F (i := 14) (k := 1) dL_law_229 rfl ?_
    refine zn_aload_n F (i := 3) (k := 5) dL_law_231 rfl rfl ?_
    refine zn_get F (j := 14) (v := .ref ((ad' (0, 0, 0)))) dL_law_232 yfRL_14 zCl_9 rfl (by show some (Value.ref (a' 1)) = _; rw [h0']) ?_
    refine zn_iconst F (v := 1) dL_law_235 (by decide) ?_
    refine zn_aload_n F (i := 2) (k := 4) dL_law_236 rfl rfl ?_
    refine zn_get F (j := 0) (v := .int ((x 3))) dL_law_237 yfRL_48 zCl_9 rfl rfl ?_
    refine zn_aload_n F (i := 2) (k := 4) dL_law_240 rfl rfl ?_
    refine zn_get F (j := 0) (v := .int ((x 4))) dL_law_241 yfRL_51 zCl_9 rfl rfl ?_
    refine zn_iconst F (v := 0) dL_law_244 (by decide) ?_
    refine zn_bipush F (v := 60) dL_law_245 (by decide) ?_
    refine zn_sipush F (v := 20000) dL_law_247 (by decide) ?_
    refine zn_perm zpD ?_
    refine zn_callV F (h0 := ad' (0, 0, 0)) (as := [.int (1), .int ((x 3)), .int ((x 4)), .int (0), .int (60), .int (20000)]) (st := [.int m]) (j0 := 0) (zx_blow ad' (hb zm0 t' p')) dL_law_250 ycRL_54 yyyX9_blow rfl (wsB := zto (zcA X) a x r g u v ++ (zto (zcA X) a' x' r' g' u' v' ++ zww (zcA X) ad z t p)) rfl (ci := 8) rfl rfl rfl (Nat.le_of_ble_eq_true rfl) (by omega) (by omega) (by omega) (by omega) fun w1 w2 hB => ?_
    obtain ⟨rfl, rfl⟩ := hB
    refine zn_perm zpD.symm ?_
    refine zn_iadd F dL_law_253 ?_
    refine zn_istore F (i := 14) (lv' := [(14, .int ((m + (0 + q.1)))), (15, .int ((Int32.ofNat i))), (0, .ref b), (1, .int tm), (2, .ref ((a 0))), (3, .ref ((a' 0))), (4, .ref ((ad (0, 0, 0)))), (5, .int kn), (9, .int ((Int32.ofNat h))), (12, .int wo)]) dL_law_254 (by decide) rfl ?_
    refine zn_iinc F (i := 15) (k := 1) (v := Int32.ofNat (i + 1)) (lv' := [(15, .int (Int32.ofNat (i + 1))), (14, .int ((m + (0 + q.1)))), (0, .ref b), (1, .int tm), (2, .ref ((a 0))), (3, .ref ((a' 0))), (4, .ref ((ad (0, 0, 0)))), (5, .int kn), (9, .int ((Int32.ofNat h))), (12, .int wo)]) dL_law_256 rfl (zn1 i) (by decide) rfl ?_
    refine zn_goto F (tgt := 222) dL_law_259 (by decide) ?_
    exact zn_pick [0, 1, 2, 3, 4, 5, 6, 7, 8, 9] rfl (ih (i + 1) (by omega) (m + (0 + q.1)) q.2 hF2)
set_option maxHeartbeats 4000000 in
set_option maxRecDepth 20000 in
theorem zl_188 {X : zX} (F : zLr X cL_law 19 RL) {b : Nat} {ad ad' : zR → Nat} {a a' : Nat → Nat} {x x' : Nat → Int32} {r r' : Nat → Nat} {g g' : Nat → Nat → Int32} {u u' : Nat → Nat} {v v' : Nat → Nat → Int32} {n h : Nat} {tm kn wo : Int32} {s t t' p p' : zM} {mc ms fr lo ck sk : Nat} {B : State → Prop} (hroom : ck ≤ mc ∧ sk ≤ ms ∧ 12 ≤ fr ∧ 300 ≤ lo) (h0' : a' 1 = ad' (0, 0, 0)) (hI : s_Iv n s) (hh : 1 ≤ h ∧ h ≤ 4) (h3 : 0 ≤ (x 3).toInt ∧ (x 3).toInt ≤ 7) (h4 : 0 ≤ (x 4).toInt ∧ (x 4).toInt ≤ 30) (w0 : s 4 0 0 = x 3) (w1 : s 4 0 1 = x 4) (w2 : s 4 0 2 = 0) (w3 : s 4 0 3 = 60) (w4 : s 4 0 4 = 20000) (h0 : a 1 = ad (0, 0, 0)) {R : Int32 × zM} (hR : s_F h 0 s = some R) (hwo : wo = R.1) (kk : zN X mc ms fr lo B 19 502 [(0, .ref b), (1, .int tm), (2, .ref (a 0)), (3, .ref (a' 0)), (4, .ref (ad (0, 0, 0))), (5, .int kn)] [] (zto (zcA X) a x r g u v ++ (zto (zcA X) a' x' r' g' u' v' ++ (zww (zcA X) ad R.2 t p ++ zww (zcA X) ad' R.2 t' p'))) ck sk) : zN X mc ms fr lo B 19 188 [(0, .ref b), (1, .int tm), (2, .ref (a 0)), (3, .ref (a' 0)), (4, .ref (ad (0, 0, 0))), (5, .int kn), (9, .int (Int32.ofNat h)), (12, .int wo)] [] (zto (zcA X) a x r g u v ++ (zto (zcA X) a' x' r' g' u' v' ++ (zww (zcA X) ad s t p ++ zww (zcA X) ad' s t' p'))) ck sk := by
  have hb : ∀ s0 z2 z3, fWB_blow (Int32.ofNat h) (x 3) (x 4) 0 60 20000 s0 s z2 z3 = some (.inl (R.1, R.2)) := fun s0 z2 z3 => by
    have y := s_blow (h := h) (a := x 3) (b := x 4) (c := 0) (d := 60) (e := 20000) (s0 := s0) (s := s) (s2 := z2) (s3 := z3) (by omega) (by omega) h3 h4 (by decide) (by decide) (by decide)
    rw [s_wx_id w0 w1 w2 w3 w4, hR, Option.bind_some] at y
    exact y
  refine zn_aload F (i := 4) (k := 4) dL_law_188 rfl ?_
  refine zn_iload F (i := 9) (k := 6) dL_law_190 rfl ?_
  refine zn_aload_n F (i := 2) (k := 2) dL_law_192 rfl rfl ?_
  refine zn_get F (j := 0) (v := .int ((x 3))) dL_law_193 yfRL_48 zCl_9 rfl rfl ?_
  refine zn_aload_n F (i := 2) (k := 2) dL_law_196 rfl rfl ?_
  refine zn_get F (j := 0) (v := .int ((x 4))) dL_law_197 yfRL_51 zCl_9 rfl rfl ?_
  refine zn_iconst F (v := 0) dL_law_200 (by decide) ?_
  refine zn_bipush F (v := 60) dL_law_201 (by decide) ?_
  refine zn_sipush F (v := 20000) dL_law_203 (by decide) ?_
  refine zn_perm zpB ?_
  refine zn_callV F (h0 := ad (0, 0, 0)) (as := [.int ((Int32.ofNat h)), .int ((x 3)), .int ((x 4)), .int (0), .int (60), .int (20000)]) (st := []) (j0 := 0) (zx_blow ad (hb zm0 t p)) dL_law_206 ycRL_54 yyyX9_blow rfl (wsB := zto (zcA X) a x r g u v ++ (zto (zcA X) a' x' r' g' u' v' ++ zww (zcA X) ad' s t' p')) rfl (ci := 8) rfl rfl rfl (Nat.le_of_ble_eq_true rfl) (by omega) (by omega) (by omega) (by omega) fun w1 w2 hB => ?_
  obtain ⟨rfl, rfl⟩ := hB
  refine zn_perm zpB.symm ?_
  refine zn_iload F (i := 12) (k := 7) dL_law_209 rfl ?_
  refine zn_icmp_eq F (tgt := 216) dL_law_211 (by decide) (fun _ => ?_) (fun z => absurd hwo.symm z)
  refine zn_iconst F (v := 0) dL_law_216 (by decide) ?_
  refine zn_istore F (i := 14) (lv' := [(14, .int 0), (0, .ref b), (1, .int tm), (2, .ref ((a 0))), (3, .ref ((a' 0))), (4, .ref ((ad (0, 0, 0)))), (5, .int kn), (9, .int ((Int32.ofNat h))), (12, .int wo)]) dL_law_217 (by decide) rfl ?_
  refine zn_iconst F (v := 0) dL_law_219 (by decide) ?_
  refine zn_istore F (i := 15) (lv' := [(15, .int 0), (14, .int 0), (0, .ref b), (1, .int tm), (2, .ref ((a 0))), (3, .ref ((a' 0))), (4, .ref ((ad (0, 0, 0)))), (5, .int kn), (9, .int ((Int32.ofNat h))), (12, .int wo)]) dL_law_220 (by decide) rfl ?_
  exact zn_pick [0, 1, 2, 3, 4, 5, 6, 7, 8, 9] rfl (zl_222 F hroom h0' hI hh h3 h4 w0 w1 w2 w3 w4 (fun m uu q => by rw [hR] at q; rw [hwo]; exact (congrArg Prod.fst (Option.some.inj q)).symm) (fun m uu q => by rw [hR] at q; cases Option.some.inj q; exact kk) h 0 (by omega) 0 s rfl)
