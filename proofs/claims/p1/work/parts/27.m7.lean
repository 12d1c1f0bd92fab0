theorem dX9_ofVessel_0 : decode cX9_ofVessel 0 = .ok (.aload_n 0, 1) := by decide +kernel
theorem dX9_ofVessel_1 : decode cX9_ofVessel 1 = .ok (.iload_n 1, 1) := by decide +kernel
theorem dX9_ofVessel_2 : decode cX9_ofVessel 2 = .ok (.invokevirtual 147, 3) := by decide +kernel
theorem dX9_ofVessel_5 : decode cX9_ofVessel 5 = .ok (.aload_n 0, 1) := by decide +kernel
theorem dX9_ofVessel_6 : decode cX9_ofVessel 6 = .ok (.getfield 10, 3) := by decide +kernel
theorem dX9_ofVessel_9 : decode cX9_ofVessel 9 = .ok (.getfield 150, 3) := by decide +kernel
theorem dX9_ofVessel_12 : decode cX9_ofVessel 12 = .ok (.iload_n 1, 1) := by decide +kernel
theorem dX9_ofVessel_13 : decode cX9_ofVessel 13 = .ok (.aaload, 1) := by decide +kernel
theorem dX9_ofVessel_14 : decode cX9_ofVessel 14 = .ok (.astore_n 3, 1) := by decide +kernel
theorem dX9_ofVessel_15 : decode cX9_ofVessel 15 = .ok (.iload_n 2, 1) := by decide +kernel
theorem dX9_ofVessel_16 : decode cX9_ofVessel 16 = .ok (.tableswitch 69 0 4 #[36, 41, 54, 59, 64], 36) := by decide +kernel
theorem dX9_ofVessel_52 : decode cX9_ofVessel 52 = .ok (.aload_n 3, 1) := by decide +kernel
theorem dX9_ofVessel_53 : decode cX9_ofVessel 53 = .ok (.getfield 165, 3) := by decide +kernel
theorem dX9_ofVessel_56 : decode cX9_ofVessel 56 = .ok (.ireturn, 1) := by decide +kernel
theorem dX9_ofVessel_57 : decode cX9_ofVessel 57 = .ok (.aload_n 3, 1) := by decide +kernel
theorem dX9_ofVessel_58 : decode cX9_ofVessel 58 = .ok (.getfield 154, 3) := by decide +kernel
theorem dX9_ofVessel_61 : decode cX9_ofVessel 61 = .ok (.ifCond .eq 7, 3) := by decide +kernel
theorem dX9_ofVessel_64 : decode cX9_ofVessel 64 = .ok (.iconst 1, 1) := by decide +kernel
theorem dX9_ofVessel_65 : decode cX9_ofVessel 65 = .ok (.goto 4, 3) := by decide +kernel
theorem dX9_ofVessel_68 : decode cX9_ofVessel 68 = .ok (.iconst 0, 1) := by decide +kernel
theorem dX9_ofVessel_69 : decode cX9_ofVessel 69 = .ok (.ireturn, 1) := by decide +kernel
theorem dX9_ofVessel_70 : decode cX9_ofVessel 70 = .ok (.aload_n 3, 1) := by decide +kernel
theorem dX9_ofVessel_71 : decode cX9_ofVessel 71 = .ok (.getfield 274, 3) := by decide +kernel
theorem dX9_ofVessel_74 : decode cX9_ofVessel 74 = .ok (.ireturn, 1) := by decide +kernel
theorem dX9_ofVessel_75 : decode cX9_ofVessel 75 = .ok (.aload_n 3, 1) := by decide +kernel
theorem dX9_ofVessel_76 : decode cX9_ofVessel 76 = .ok (.getfield 277, 3) := by decide +kernel
theorem dX9_ofVessel_79 : decode cX9_ofVessel 79 = .ok (.ireturn, 1) := by decide +kernel
theorem dX9_ofVessel_80 : decode cX9_ofVessel 80 = .ok (.aload_n 3, 1) := by decide +kernel
theorem dX9_ofVessel_81 : decode cX9_ofVessel 81 = .ok (.getfield 280, 3) := by decide +kernel
theorem dX9_ofVessel_84 : decode cX9_ofVessel 84 = .ok (.ireturn, 1) := by decide +kernel
theorem dX9_ofVessel_85 : decode cX9_ofVessel 85 = .ok (.new 30, 3) := by decide +kernel
theorem dX9_ofVessel_88 : decode cX9_ofVessel 88 = .ok (.dup, 1) := by decide +kernel
theorem dX9_ofVessel_89 : decode cX9_ofVessel 89 = .ok (.ldc_w 283, 3) := by decide +kernel
theorem dX9_ofVessel_92 : decode cX9_ofVessel 92 = .ok (.invokespecial 34, 3) := by decide +kernel
theorem dX9_ofVessel_95 : decode cX9_ofVessel 95 = .ok (.athrow, 1) := by decide +kernel
theorem wsRX9_283 : (RX9, 283, "of a VESSEL 0 to 4 is asked") ∈ zstr := by decide +kernel
theorem wfRX9_274 : zFl RX9 274 6 3 := ⟨_, rfl, by decide, zm_f 260 (by decide +kernel) rfl⟩
theorem wfRX9_277 : zFl RX9 277 6 4 := ⟨_, rfl, by decide, zm_f 262 (by decide +kernel) rfl⟩
theorem wfRX9_280 : zFl RX9 280 6 5 := ⟨_, rfl, by decide, zm_f 265 (by decide +kernel) rfl⟩
def fWB_ofVessel (a1 : Int32) (a2 : Int32) (s0 : zM) (s1 : zM) (s2 : zM) (s3 : zM) : Option ((Int32) ⊕ (String)) :=
  Option.bind (fWB_checkVessel a1 s0 s1 s2 s3) (Sum.elim (fun (_ : Unit) =>
  zix a1 3 fun j2 =>
  if a2 < 0 ∨ 4 < a2 then
  some (.inr "java/lang/IllegalArgumentException")
else
  if a2 = 0 then
    some (.inl (s1 13 j2 1))
  else
    if a2 = 1 then
      if (s1 13 j2 2 &&& 1) = 0 then
        some (.inl (0 : Int32))
      else
        some (.inl (1 : Int32))
    else
      if a2 = 2 then
        some (.inl (s1 13 j2 3))
      else
        if a2 = 3 then
          some (.inl (s1 13 j2 4))
        else
          some (.inl (s1 13 j2 5))) (fun b => some (.inr b)))
set_option maxHeartbeats 4000000 in
set_option maxRecDepth 20000 in
theorem bfWB_ofVessel {X : zX} (F : zFr X cX9_ofVessel 4 RX9 (some .int)) (a1 : Int32) (a2 : Int32)  (s0 : zM) (s1 : zM) (s2 : zM) (s3 : zM) {κ : (Int32) ⊕ (String) → Option zO} (hκ : ∀ a, κ a = some ((zts (fun q => some (zi q)) (fun _ => [s0, s1, s2, s3]) (fun b => b) (fun _ => [s0, s1, s2, s3])) a)) : zZ X [(2, [1, 2, 3]), (0, []), (0, []), (1, [])] 7 111 4 0 [some (zr 0 0 0), some (zi a1), some (zi a2), none] [] [s0, s1, s2, s3] (Option.bind (fWB_ofVessel a1 a2 s0 s1 s2 s3) κ) := by
  unfold fWB_ofVessel
  refine zz_aload_n F (i := 0) dX9_ofVessel_0 rfl rfl ?_
  refine zz_iload_n F (i := 1) dX9_ofVessel_1 rfl rfl ?_
  refine zz_bind ?_
  refine zz_callVx F (ρ := [0, 1, 2, 3]) (so := fun _ => []) (Mo := fun _ => [s0, s1, s2, s3]) (Xo := fun _ => [s0, s1, s2, s3]) (zfWB_checkVessel a1 s0 s1 s2 s3) dX9_ofVessel_2 wcRX9_147 wy_yX9_checkVessel rfl ⟨rel2, rfl, rfl, Nat.le_of_ble_eq_true rfl, Nat.le_of_ble_eq_true rfl, Nat.le_of_ble_eq_true rfl⟩ (⟨zlb rfl, zlb rfl, zlb rfl⟩) rfl rfl rfl (fun _ => rfl) (fun _ => rfl) (fun _ => rfl) (fun _ => (hκ _)) fun _ => ?_
  dsimp only [Sum.elim_inl]
  refine zz_aload_n F (i := 0) dX9_ofVessel_5 rfl rfl ?_
  refine zz_getr F dX9_ofVessel_6 wfRX9_10 zCl_8 rfl (⟨zlb rfl, zlb rfl, zlb rfl⟩) rfl (by decide) rfl (r' := 1) (by decide) ?_
  refine zz_getr F dX9_ofVessel_9 wfRX9_150 zCl_3 rfl (⟨zlb rfl, zlb rfl, zlb rfl⟩) rfl (by decide) rfl (r' := 1) (by decide) ?_
  refine zz_iload_n F (i := 1) dX9_ofVessel_12 rfl rfl ?_
  refine zz_ix fun j2 hj2 hinj2 hej2 => zz_aal F dX9_ofVessel_13 rfl (⟨zlb rfl, zlb rfl, zlb rfl⟩) rfl (by decide) rfl hinj2 hej2 rfl ?_
  refine zz_astore_n F (i := 3) (L' := [some (zr 0 0 0), some (zi a1), some (zi a2), some (zr 1 13 j2)]) dX9_ofVessel_14 rfl (by decide) rfl rfl ?_
  refine zz_iload_n F (i := 2) dX9_ofVessel_15 rfl rfl ?_
  refine zz_sw (c := a2 < 0 ∨ 4 < a2) (fun h => ?_) (fun h => ?_)
  · refine zz_tableOut F (tgt := 85) dX9_ofVessel_16 (zsw_out (lw := 0) (hi := 4) (a := 0) (b := 4) (by decide) (by decide) h) (by decide) ?_
    exact zz_throwW F (cls := "java/lang/IllegalArgumentException") dX9_ofVessel_85 dX9_ofVessel_88 dX9_ofVessel_89 dX9_ofVessel_92 dX9_ofVessel_95 (by decide) wtRX9_30_34k wsRX9_283 wtRX9_30_34g wtRX9_30_34n wtRX9_30_34o (Nat.le_of_ble_eq_true rfl) (Nat.le_of_ble_eq_true rfl) (hκ _)
  · refine zz_sw (c := a2 = 0) (fun hv => ?_) (fun hn0 => ?_)
    · refine zz_tableIn F (tgt := 52) (off := 36) dX9_ofVessel_16 (by rw [zsw_at (k := 0) (a := 0) hv (by decide)]; decide) (by rw [zsw_at (k := 0) (a := 0) hv (by decide)]; decide) (by rw [zsw_at (k := 0) (a := 0) hv (by decide)]; rfl) (by decide) ?_
      refine zz_aload_n F (i := 3) dX9_ofVessel_52 rfl rfl ?_
      refine zz_getf F dX9_ofVessel_53 wfRX9_165 zCl_6 rfl (⟨zlb rfl, zlb rfl, hj2⟩) rfl (by decide) rfl rfl ?_
      exact zz_ireturn F dX9_ofVessel_56 rfl (hκ _)
    · refine zz_sw (c := a2 = 1) (fun hv => ?_) (fun hn1 => ?_)
      · refine zz_tableIn F (tgt := 57) (off := 41) dX9_ofVessel_16 (by rw [zsw_at (k := 1) (a := 1) hv (by decide)]; decide) (by rw [zsw_at (k := 1) (a := 1) hv (by decide)]; decide) (by rw [zsw_at (k := 1) (a := 1) hv (by decide)]; rfl) (by decide) ?_
        refine zz_aload_n F (i := 3) dX9_ofVessel_57 rfl rfl ?_
        refine zz_getb F dX9_ofVessel_58 wfRX9_154 zCl_6 rfl (⟨zlb rfl, zlb rfl, hj2⟩) rfl (by decide) rfl rfl ?_
        refine zz_if_eq F (tgt := 68) dX9_ofVessel_61 (by decide) (fun h => zz_t h ?_) (fun h => zz_f h ?_)
        · refine zz_iconst F (v := (0 : Int32)) dX9_ofVessel_68 (by decide) ?_
          exact zz_ireturn F dX9_ofVessel_69 rfl (hκ _)
        · refine zz_iconst F (v := (1 : Int32)) dX9_ofVessel_64 (by decide) ?_
          refine zz_goto F (tgt := 69) dX9_ofVessel_65 (by decide) ?_
          exact zz_ireturn F dX9_ofVessel_69 rfl (hκ _)
      · refine zz_sw (c := a2 = 2) (fun hv => ?_) (fun hn2 => ?_)
        · refine zz_tableIn F (tgt := 70) (off := 54) dX9_ofVessel_16 (by rw [zsw_at (k := 2) (a := 2) hv (by decide)]; decide) (by rw [zsw_at (k := 2) (a := 2) hv (by decide)]; decide) (by rw [zsw_at (k := 2) (a := 2) hv (by decide)]; rfl) (by decide) ?_
          refine zz_aload_n F (i := 3) dX9_ofVessel_70 rfl rfl ?_
          refine zz_getf F dX9_ofVessel_71 wfRX9_274 zCl_6 rfl (⟨zlb rfl, zlb rfl, hj2⟩) rfl (by decide) rfl rfl ?_
          exact zz_ireturn F dX9_ofVessel_74 rfl (hκ _)
        · refine zz_sw (c := a2 = 3) (fun hv => ?_) (fun hn3 => ?_)
          · refine zz_tableIn F (tgt := 75) (off := 59) dX9_ofVessel_16 (by rw [zsw_at (k := 3) (a := 3) hv (by decide)]; decide) (by rw [zsw_at (k := 3) (a := 3) hv (by decide)]; decide) (by rw [zsw_at (k := 3) (a := 3) hv (by decide)]; rfl) (by decide) ?_
            refine zz_aload_n F (i := 3) dX9_ofVessel_75 rfl rfl ?_
            refine zz_getf F dX9_ofVessel_76 wfRX9_277 zCl_6 rfl (⟨zlb rfl, zlb rfl, hj2⟩) rfl (by decide) rfl rfl ?_
            exact zz_ireturn F dX9_ofVessel_79 rfl (hκ _)
          · have hv : a2 = 4 := zsw_eq (a := 4) (by decide) (by have h1 := zsw_in (lw := 0) (hi := 4) (a := 0) (b := 4) (by decide) (by decide) h; have e0 := zsw_ne (a := 0) (by decide) hn0; have e1 := zsw_ne (a := 1) (by decide) hn1; have e2 := zsw_ne (a := 2) (by decide) hn2; have e3 := zsw_ne (a := 3) (by decide) hn3; omega)
            refine zz_tableIn F (tgt := 80) (off := 64) dX9_ofVessel_16 (by rw [zsw_at (k := 4) (a := 4) hv (by decide)]; decide) (by rw [zsw_at (k := 4) (a := 4) hv (by decide)]; decide) (by rw [zsw_at (k := 4) (a := 4) hv (by decide)]; rfl) (by decide) ?_
            refine zz_aload_n F (i := 3) dX9_ofVessel_80 rfl rfl ?_
            refine zz_getf F dX9_ofVessel_81 wfRX9_280 zCl_6 rfl (⟨zlb rfl, zlb rfl, hj2⟩) rfl (by decide) rfl rfl ?_
            exact zz_ireturn F dX9_ofVessel_84 rfl (hκ _)
theorem zfWB_ofVessel (a1 : Int32) (a2 : Int32)  (s0 : zM) (s1 : zM) (s2 : zM) (s3 : zM) : ∀ a, fWB_ofVessel a1 a2 s0 s1 s2 s3 = some a → zMet yX9_ofVessel cX9_ofVessel 4 (some .int) 7 111 [(2, [1, 2, 3]), (0, []), (0, []), (1, [])] [zr 0 0 0, zi a1, zi a2] [s0, s1, s2, s3] ((zts (fun q => some (zi q)) (fun _ => [s0, s1, s2, s3]) (fun b => b) (fun _ => [s0, s1, s2, s3])) a) := fun a ha => zMet_of (L0 := [some (zr 0 0 0), some (zi a1), some (zi a2), none]) (φ := Option.bind (fWB_ofVessel a1 a2 s0 s1 s2 s3) (fun a => some ((zts (fun q => some (zi q)) (fun _ => [s0, s1, s2, s3]) (fun b => b) (fun _ => [s0, s1, s2, s3])) a))) (by decide) (fun _ => Nat.le_of_ble_eq_true rfl) (zl0 1 rfl) (fun X F => bfWB_ofVessel F a1 a2 s0 s1 s2 s3 (fun _ => rfl)) (by rw [ha]; rfl)

theorem dX3_countOf_0 : decode cX3_countOf 0 = .ok (.iconst 0, 1) := by decide +kernel
theorem dX3_countOf_1 : decode cX3_countOf 1 = .ok (.istore_n 2, 1) := by decide +kernel
theorem dX3_countOf_2 : decode cX3_countOf 2 = .ok (.iconst 0, 1) := by decide +kernel
theorem dX3_countOf_3 : decode cX3_countOf 3 = .ok (.istore_n 3, 1) := by decide +kernel
theorem dX3_countOf_4 : decode cX3_countOf 4 = .ok (.iload_n 3, 1) := by decide +kernel
theorem dX3_countOf_5 : decode cX3_countOf 5 = .ok (.aload_n 0, 1) := by decide +kernel
theorem dX3_countOf_6 : decode cX3_countOf 6 = .ok (.getfield 56, 3) := by decide +kernel
theorem dX3_countOf_9 : decode cX3_countOf 9 = .ok (.if_icmp .ge 25, 3) := by decide +kernel
theorem dX3_countOf_12 : decode cX3_countOf 12 = .ok (.aload_n 0, 1) := by decide +kernel
theorem dX3_countOf_13 : decode cX3_countOf 13 = .ok (.getfield 11, 3) := by decide +kernel
theorem dX3_countOf_16 : decode cX3_countOf 16 = .ok (.iload_n 3, 1) := by decide +kernel
theorem dX3_countOf_17 : decode cX3_countOf 17 = .ok (.aaload, 1) := by decide +kernel
theorem dX3_countOf_18 : decode cX3_countOf 18 = .ok (.getfield 99, 3) := by decide +kernel
theorem dX3_countOf_21 : decode cX3_countOf 21 = .ok (.iload_n 1, 1) := by decide +kernel
theorem dX3_countOf_22 : decode cX3_countOf 22 = .ok (.if_icmp .ne 6, 3) := by decide +kernel
theorem dX3_countOf_25 : decode cX3_countOf 25 = .ok (.iinc 2 1, 3) := by decide +kernel
theorem dX3_countOf_28 : decode cX3_countOf 28 = .ok (.iinc 3 1, 3) := by decide +kernel
theorem dX3_countOf_31 : decode cX3_countOf 31 = .ok (.goto (-27), 3) := by decide +kernel
theorem dX3_countOf_34 : decode cX3_countOf 34 = .ok (.iload_n 2, 1) := by decide +kernel
theorem dX3_countOf_35 : decode cX3_countOf 35 = .ok (.ireturn, 1) := by decide +kernel
def fSe_countOf_l4 (a1 : Int32) (s0 : zM) (q1 : Int32 × Int32) : Option ((Int32 × Int32) ⊕ ((Int32))) :=
  if (s0 0 0 5) ≤ q1.2 then
  some (.inr q1.1)
else
  zix q1.2 8 fun j3 =>
    Option.bind (if (s0 7 j3 3) = a1 then
    zlet (q1.1 + 1) fun v8 =>
      some v8
  else
    some q1.1) fun q4 =>
    zlet (q1.2 + 1) fun v9 =>
    some (.inl (q4, v9))
def fSe_countOf (a1 : Int32) (s0 : zM) : Option (Int32) :=
  Option.bind (ziter (fSe_countOf_l4 a1 s0) 1000 ((0 : Int32), (0 : Int32))) fun q2 =>
  some q2
set_option maxHeartbeats 4000000 in
set_option maxRecDepth 20000 in
theorem bfSe_countOf_l4 {X : zX} (F : zFr X cX3_countOf 4 RX3 (some .int)) (a1 : Int32) (s0 : zM)  {ψ : (Int32 × Int32) ⊕ ((Int32)) → Option zO} (h1 : ∀ q1 : Int32 × Int32, zZ X [(0, [])] 0 0 4 4 [some (zr 0 0 0), some (zi a1), some (zi q1.1), some (zi q1.2)] [] [s0] (ψ (.inl q1))) (h2 : ∀ q2 : Int32, zZ X [(0, [])] 0 0 4 34 [none, none, some (zi q2), none] [] [s0] (ψ (.inr q2))) (q1 : Int32 × Int32) : zZ X [(0, [])] 0 0 4 4 [some (zr 0 0 0), some (zi a1), some (zi q1.1), some (zi q1.2)] [] [s0] (Option.bind (fSe_countOf_l4 a1 s0 q1) ψ) := by
  unfold fSe_countOf_l4
  refine zz_iload_n F (i := 3) dX3_countOf_4 rfl rfl ?_
  refine zz_aload_n F (i := 0) dX3_countOf_5 rfl rfl ?_
  refine zz_getf F dX3_countOf_6 wfRX3_56 zCl_3 rfl (⟨zlb rfl, zlb rfl, zlb rfl⟩) rfl (by decide) rfl rfl ?_
  refine zz_icmp_ge F (tgt := 34) dX3_countOf_9 (by decide) (fun h => zz_t h ?_) (fun h => zz_f h ?_)
  · exact zz_sub (zs_n (zs_n (zs_k (zs_n zs_z)))) (h2 q1.1)
  · refine zz_aload_n F (i := 0) dX3_countOf_12 rfl rfl ?_
    refine zz_getr F dX3_countOf_13 wfRX3_11 zCl_3 rfl (⟨zlb rfl, zlb rfl, zlb rfl⟩) rfl (by decide) rfl (r' := 0) (by decide) ?_
    refine zz_iload_n F (i := 3) dX3_countOf_16 rfl rfl ?_
    refine zz_ix fun j3 hj3 hinj3 hej3 => zz_aal F dX3_countOf_17 rfl (⟨zlb rfl, zlb rfl, zlb rfl⟩) rfl (by decide) rfl hinj3 hej3 rfl ?_
    refine zz_getf F dX3_countOf_18 wfRX3_99 zCl_5 rfl (⟨zlb rfl, zlb rfl, hj3⟩) rfl (by decide) rfl rfl ?_
    refine zz_iload_n F (i := 1) dX3_countOf_21 rfl rfl ?_
    refine zz_join (pj := 28) (Lj := fun q4 => [some (zr 0 0 0), some (zi a1), some (zi q4), some (zi q1.2)]) (Sj := fun q4 => []) (Mj := fun q4 => [s0]) (fun q4 => ?_) (fun κ6 hj5 => ?_)
    · refine zz_iinc F (i := 3) (v := q1.2 + 1) (L' := [some (zr 0 0 0), some (zi a1), some (zi q4), some (zi (q1.2 + 1))]) dX3_countOf_28 rfl (by first | rfl | decide) (by decide) rfl rfl ?_
      refine zz_letl (Lf := fun v9 => [some (zr 0 0 0), some (zi a1), some (zi q4), some (zi v9)]) fun v9 => ?_
      refine zz_goto F (tgt := 4) dX3_countOf_31 (by decide) ?_
      exact zz_sub (zs_k (zs_k (zs_k (zs_k zs_z)))) (h1 (q4, v9))
    · refine zz_icmp_ne F (tgt := 28) dX3_countOf_22 (by decide) (fun h => zz_f h ?_) (fun h => zz_t h ?_)
      · exact zz_sub (zs_k (zs_k (zs_k (zs_k zs_z)))) (hj5 q1.1)
      · refine zz_iinc F (i := 2) (v := q1.1 + 1) (L' := [some (zr 0 0 0), some (zi a1), some (zi (q1.1 + 1)), some (zi q1.2)]) dX3_countOf_25 rfl (by first | rfl | decide) (by decide) rfl rfl ?_
        refine zz_letl (Lf := fun v8 => [some (zr 0 0 0), some (zi a1), some (zi v8), some (zi q1.2)]) fun v8 => ?_
        exact zz_sub (zs_k (zs_k (zs_k (zs_k zs_z)))) (hj5 v8)
set_option maxHeartbeats 4000000 in
set_option maxRecDepth 20000 in
theorem bfSe_countOf {X : zX} (F : zFr X cX3_countOf 4 RX3 (some .int)) (a1 : Int32)  (s0 : zM) {κ : Int32 → Option zO} (hκ : ∀ a, κ a = some ((fun a => ((.inl ((fun q => some (zi q)) a), (fun _ => [s0]) a) : zO)) a)) : zZ X [(0, [])] 0 0 4 0 [some (zr 0 0 0), some (zi a1), none, none] [] [s0] (Option.bind (fSe_countOf a1 s0) κ) := by
  unfold fSe_countOf
  refine zz_iconst F (v := (0 : Int32)) dX3_countOf_0 (by decide) ?_
  refine zz_istore_n F (i := 2) (L' := [some (zr 0 0 0), some (zi a1), some (zi (0 : Int32)), none]) dX3_countOf_1 rfl (by decide) rfl rfl ?_
  refine zz_iconst F (v := (0 : Int32)) dX3_countOf_2 (by decide) ?_
  refine zz_istore_n F (i := 3) (L' := [some (zr 0 0 0), some (zi a1), some (zi (0 : Int32)), some (zi (0 : Int32))]) dX3_countOf_3 rfl (by decide) rfl rfl ?_
  refine zz_sub (zs_k (zs_k (zs_k (zs_k zs_z)))) ?_
  refine zz_bind ?_
  refine zz_iter (Lf := fun q1 => [some (zr 0 0 0), some (zi a1), some (zi q1.1), some (zi q1.2)]) (Mf := fun q1 => [s0]) (fun q1 _ e10 e11 => bfSe_countOf_l4 F a1 s0  e10 (fun q2 => ?_)  q1) 1000 ((0 : Int32), (0 : Int32))
  rw [e11]
  refine zz_iload_n F (i := 2) dX3_countOf_34 rfl rfl ?_
  exact zz_ireturn F dX3_countOf_35 rfl (hκ _)
theorem zfSe_countOf (a1 : Int32)  (s0 : zM) : ∀ a, fSe_countOf a1 s0 = some a → zMet yX3_countOf cX3_countOf 4 (some .int) 0 0 [(0, [])] [zr 0 0 0, zi a1] [s0] ((fun a => ((.inl ((fun q => some (zi q)) a), (fun _ => [s0]) a) : zO)) a) := fun a ha => zMet_of (L0 := [some (zr 0 0 0), some (zi a1), none, none]) (φ := Option.bind (fSe_countOf a1 s0) (fun a => some ((fun a => ((.inl ((fun q => some (zi q)) a), (fun _ => [s0]) a) : zO)) a))) (by decide) (fun _ => Nat.le_of_ble_eq_true rfl) (zl0 2 rfl) (fun X F => bfSe_countOf F a1 s0 (fun _ => rfl)) (by rw [ha]; rfl)

theorem dX3_cycles_0 : decode cX3_cycles 0 = .ok (.iconst 0, 1) := by decide +kernel
theorem dX3_cycles_1 : decode cX3_cycles 1 = .ok (.istore_n 1, 1) := by decide +kernel
theorem dX3_cycles_2 : decode cX3_cycles 2 = .ok (.iconst 0, 1) := by decide +kernel
theorem dX3_cycles_3 : decode cX3_cycles 3 = .ok (.istore_n 2, 1) := by decide +kernel
theorem dX3_cycles_4 : decode cX3_cycles 4 = .ok (.iload_n 2, 1) := by decide +kernel
theorem dX3_cycles_5 : decode cX3_cycles 5 = .ok (.aload_n 0, 1) := by decide +kernel
theorem dX3_cycles_6 : decode cX3_cycles 6 = .ok (.getfield 56, 3) := by decide +kernel
theorem dX3_cycles_9 : decode cX3_cycles 9 = .ok (.if_icmp .ge 24, 3) := by decide +kernel
theorem dX3_cycles_12 : decode cX3_cycles 12 = .ok (.iload_n 1, 1) := by decide +kernel
theorem dX3_cycles_13 : decode cX3_cycles 13 = .ok (.aload_n 0, 1) := by decide +kernel
theorem dX3_cycles_14 : decode cX3_cycles 14 = .ok (.getfield 11, 3) := by decide +kernel
theorem dX3_cycles_17 : decode cX3_cycles 17 = .ok (.iload_n 2, 1) := by decide +kernel
theorem dX3_cycles_18 : decode cX3_cycles 18 = .ok (.aaload, 1) := by decide +kernel
theorem dX3_cycles_19 : decode cX3_cycles 19 = .ok (.getfield 102, 3) := by decide +kernel
theorem dX3_cycles_22 : decode cX3_cycles 22 = .ok (.getfield 106, 3) := by decide +kernel
theorem dX3_cycles_25 : decode cX3_cycles 25 = .ok (.iadd, 1) := by decide +kernel
theorem dX3_cycles_26 : decode cX3_cycles 26 = .ok (.istore_n 1, 1) := by decide +kernel
theorem dX3_cycles_27 : decode cX3_cycles 27 = .ok (.iinc 2 1, 3) := by decide +kernel
theorem dX3_cycles_30 : decode cX3_cycles 30 = .ok (.goto (-26), 3) := by decide +kernel
theorem dX3_cycles_33 : decode cX3_cycles 33 = .ok (.iload_n 1, 1) := by decide +kernel
theorem dX3_cycles_34 : decode cX3_cycles 34 = .ok (.ireturn, 1) := by decide +kernel
theorem wfRX3_102 : zFl RX3 102 5 13 := ⟨_, rfl, by decide, zm_f 194 (by decide +kernel) rfl⟩
theorem wfRX3_106 : zFl RX3 106 1 3 := ⟨_, rfl, by decide, zm_f 152 (by decide +kernel) rfl⟩
def fSe_cycles_l4 (s0 : zM) (q1 : Int32 × Int32) : Option ((Int32 × Int32) ⊕ ((Int32))) :=
  if (s0 0 0 5) ≤ q1.2 then
  some (.inr q1.1)
else
  zix q1.2 8 fun j3 =>
    zlet ((q1.1 + (s0 10 j3 3))) fun v4 =>
    zlet (q1.2 + 1) fun v5 =>
    some (.inl (v4, v5))
def fSe_cycles  (s0 : zM) : Option (Int32) :=
  Option.bind (ziter (fSe_cycles_l4 s0) 1000 ((0 : Int32), (0 : Int32))) fun q2 =>
  some q2
set_option maxHeartbeats 4000000 in
set_option maxRecDepth 20000 in
theorem bfSe_cycles_l4 {X : zX} (F : zFr X cX3_cycles 3 RX3 (some .int)) (s0 : zM)  {ψ : (Int32 × Int32) ⊕ ((Int32)) → Option zO} (h1 : ∀ q1 : Int32 × Int32, zZ X [(0, [])] 0 0 3 4 [some (zr 0 0 0), some (zi q1.1), some (zi q1.2)] [] [s0] (ψ (.inl q1))) (h2 : ∀ q2 : Int32, zZ X [(0, [])] 0 0 3 33 [none, some (zi q2), none] [] [s0] (ψ (.inr q2))) (q1 : Int32 × Int32) : zZ X [(0, [])] 0 0 3 4 [some (zr 0 0 0), some (zi q1.1), some (zi q1.2)] [] [s0] (Option.bind (fSe_cycles_l4 s0 q1) ψ) := by
  unfold fSe_cycles_l4
  refine zz_iload_n F (i := 2) dX3_cycles_4 rfl rfl ?_
  refine zz_aload_n F (i := 0) dX3_cycles_5 rfl rfl ?_
  refine zz_getf F dX3_cycles_6 wfRX3_56 zCl_3 rfl (⟨zlb rfl, zlb rfl, zlb rfl⟩) rfl (by decide) rfl rfl ?_
  refine zz_icmp_ge F (tgt := 33) dX3_cycles_9 (by decide) (fun h => zz_t h ?_) (fun h => zz_f h ?_)
  · exact zz_sub (zs_n (zs_k (zs_n zs_z))) (h2 q1.1)
  · refine zz_iload_n F (i := 1) dX3_cycles_12 rfl rfl ?_
    refine zz_aload_n F (i := 0) dX3_cycles_13 rfl rfl ?_
    refine zz_getr F dX3_cycles_14 wfRX3_11 zCl_3 rfl (⟨zlb rfl, zlb rfl, zlb rfl⟩) rfl (by decide) rfl (r' := 0) (by decide) ?_
    refine zz_iload_n F (i := 2) dX3_cycles_17 rfl rfl ?_
    refine zz_ix fun j3 hj3 hinj3 hej3 => zz_aal F dX3_cycles_18 rfl (⟨zlb rfl, zlb rfl, zlb rfl⟩) rfl (by decide) rfl hinj3 hej3 rfl ?_
    refine zz_getr F dX3_cycles_19 wfRX3_102 zCl_5 rfl (⟨zlb rfl, zlb rfl, hj3⟩) rfl (by decide) rfl (r' := 0) (by decide) ?_
    refine zz_getf F dX3_cycles_22 wfRX3_106 zCl_1 rfl (⟨zlb rfl, zlb rfl, hj3⟩) rfl (by decide) rfl rfl ?_
    refine zz_iadd F dX3_cycles_25 ?_
    refine zz_istore_n F (i := 1) (L' := [some (zr 0 0 0), some (zi (q1.1 + (s0 10 j3 3))), some (zi q1.2)]) dX3_cycles_26 rfl (by decide) rfl rfl ?_
    refine zz_letl (Lf := fun v4 => [some (zr 0 0 0), some (zi v4), some (zi q1.2)]) fun v4 => ?_
    refine zz_iinc F (i := 2) (v := q1.2 + 1) (L' := [some (zr 0 0 0), some (zi v4), some (zi (q1.2 + 1))]) dX3_cycles_27 rfl (by first | rfl | decide) (by decide) rfl rfl ?_
    refine zz_letl (Lf := fun v5 => [some (zr 0 0 0), some (zi v4), some (zi v5)]) fun v5 => ?_
    refine zz_goto F (tgt := 4) dX3_cycles_30 (by decide) ?_
    exact zz_sub (zs_k (zs_k (zs_k zs_z))) (h1 (v4, v5))
set_option maxHeartbeats 4000000 in
set_option maxRecDepth 20000 in
theorem bfSe_cycles {X : zX} (F : zFr X cX3_cycles 3 RX3 (some .int))   (s0 : zM) {κ : Int32 → Option zO} (hκ : ∀ a, κ a = some ((fun a => ((.inl ((fun q => some (zi q)) a), (fun _ => [s0]) a) : zO)) a)) : zZ X [(0, [])] 0 0 3 0 [some (zr 0 0 0), none, none] [] [s0] (Option.bind (fSe_cycles s0) κ) := by
  unfold fSe_cycles
  refine zz_iconst F (v := (0 : Int32)) dX3_cycles_0 (by decide) ?_
  refine zz_istore_n F (i := 1) (L' := [some (zr 0 0 0), some (zi (0 : Int32)), none]) dX3_cycles_1 rfl (by decide) rfl rfl ?_
  refine zz_iconst F (v := (0 : Int32)) dX3_cycles_2 (by decide) ?_
  refine zz_istore_n F (i := 2) (L' := [some (zr 0 0 0), some (zi (0 : Int32)), some (zi (0 : Int32))]) dX3_cycles_3 rfl (by decide) rfl rfl ?_
  refine zz_sub (zs_k (zs_k (zs_k zs_z))) ?_
  refine zz_bind ?_
  refine zz_iter (Lf := fun q1 => [some (zr 0 0 0), some (zi q1.1), some (zi q1.2)]) (Mf := fun q1 => [s0]) (fun q1 _ e6 e7 => bfSe_cycles_l4 F s0  e6 (fun q2 => ?_)  q1) 1000 ((0 : Int32), (0 : Int32))
  rw [e7]
  refine zz_iload_n F (i := 1) dX3_cycles_33 rfl rfl ?_
  exact zz_ireturn F dX3_cycles_34 rfl (hκ _)
theorem zfSe_cycles   (s0 : zM) : ∀ a, fSe_cycles s0 = some a → zMet yX3_cycles cX3_cycles 3 (some .int) 0 0 [(0, [])] [zr 0 0 0] [s0] ((fun a => ((.inl ((fun q => some (zi q)) a), (fun _ => [s0]) a) : zO)) a) := fun a ha => zMet_of (L0 := [some (zr 0 0 0), none, none]) (φ := Option.bind (fSe_cycles s0) (fun a => some ((fun a => ((.inl ((fun q => some (zi q)) a), (fun _ => [s0]) a) : zO)) a))) (by decide) (fun _ => Nat.le_of_ble_eq_true rfl) (zl0 2 rfl) (fun X F => bfSe_cycles F s0 (fun _ => rfl)) (by rw [ha]; rfl)

theorem dX9_many_0 : decode cX9_many 0 = .ok (.iload_n 1, 1) := by decide +kernel
theorem dX9_many_1 : decode cX9_many 1 = .ok (.tableswitch 201 0 13 #[71, 79, 87, 95, 103, 112, 121, 130, 141, 152, 163, 174, 182, 190], 71) := by decide +kernel
theorem dX9_many_72 : decode cX9_many 72 = .ok (.aload_n 0, 1) := by decide +kernel
theorem dX9_many_73 : decode cX9_many 73 = .ok (.getfield 10, 3) := by decide +kernel
theorem dX9_many_76 : decode cX9_many 76 = .ok (.getfield 56, 3) := by decide +kernel
theorem dX9_many_79 : decode cX9_many 79 = .ok (.ireturn, 1) := by decide +kernel
theorem dX9_many_80 : decode cX9_many 80 = .ok (.aload_n 0, 1) := by decide +kernel
theorem dX9_many_81 : decode cX9_many 81 = .ok (.getfield 10, 3) := by decide +kernel
theorem dX9_many_84 : decode cX9_many 84 = .ok (.getfield 37, 3) := by decide +kernel
theorem dX9_many_87 : decode cX9_many 87 = .ok (.ireturn, 1) := by decide +kernel
theorem dX9_many_88 : decode cX9_many 88 = .ok (.aload_n 0, 1) := by decide +kernel
theorem dX9_many_89 : decode cX9_many 89 = .ok (.getfield 10, 3) := by decide +kernel
theorem dX9_many_92 : decode cX9_many 92 = .ok (.getfield 71, 3) := by decide +kernel
theorem dX9_many_95 : decode cX9_many 95 = .ok (.ireturn, 1) := by decide +kernel
theorem dX9_many_96 : decode cX9_many 96 = .ok (.aload_n 0, 1) := by decide +kernel
theorem dX9_many_97 : decode cX9_many 97 = .ok (.getfield 10, 3) := by decide +kernel
theorem dX9_many_100 : decode cX9_many 100 = .ok (.getfield 79, 3) := by decide +kernel
theorem dX9_many_103 : decode cX9_many 103 = .ok (.ireturn, 1) := by decide +kernel
theorem dX9_many_104 : decode cX9_many 104 = .ok (.aload_n 0, 1) := by decide +kernel
theorem dX9_many_105 : decode cX9_many 105 = .ok (.getfield 10, 3) := by decide +kernel
theorem dX9_many_108 : decode cX9_many 108 = .ok (.iconst 2, 1) := by decide +kernel
theorem dX9_many_109 : decode cX9_many 109 = .ok (.invokevirtual 285, 3) := by decide +kernel
theorem dX9_many_112 : decode cX9_many 112 = .ok (.ireturn, 1) := by decide +kernel
theorem dX9_many_113 : decode cX9_many 113 = .ok (.aload_n 0, 1) := by decide +kernel
theorem dX9_many_114 : decode cX9_many 114 = .ok (.getfield 10, 3) := by decide +kernel
theorem dX9_many_117 : decode cX9_many 117 = .ok (.iconst 3, 1) := by decide +kernel
theorem dX9_many_118 : decode cX9_many 118 = .ok (.invokevirtual 285, 3) := by decide +kernel
theorem dX9_many_121 : decode cX9_many 121 = .ok (.ireturn, 1) := by decide +kernel
theorem dX9_many_122 : decode cX9_many 122 = .ok (.aload_n 0, 1) := by decide +kernel
theorem dX9_many_123 : decode cX9_many 123 = .ok (.getfield 10, 3) := by decide +kernel
theorem dX9_many_126 : decode cX9_many 126 = .ok (.iconst 4, 1) := by decide +kernel
theorem dX9_many_127 : decode cX9_many 127 = .ok (.invokevirtual 285, 3) := by decide +kernel
theorem dX9_many_130 : decode cX9_many 130 = .ok (.ireturn, 1) := by decide +kernel
theorem dX9_many_131 : decode cX9_many 131 = .ok (.aload_n 0, 1) := by decide +kernel
theorem dX9_many_132 : decode cX9_many 132 = .ok (.getfield 10, 3) := by decide +kernel
theorem dX9_many_135 : decode cX9_many 135 = .ok (.getfield 84, 3) := by decide +kernel
theorem dX9_many_138 : decode cX9_many 138 = .ok (.getfield 288, 3) := by decide +kernel
theorem dX9_many_141 : decode cX9_many 141 = .ok (.ireturn, 1) := by decide +kernel
theorem dX9_many_142 : decode cX9_many 142 = .ok (.aload_n 0, 1) := by decide +kernel
theorem dX9_many_143 : decode cX9_many 143 = .ok (.getfield 10, 3) := by decide +kernel
theorem dX9_many_146 : decode cX9_many 146 = .ok (.getfield 84, 3) := by decide +kernel
theorem dX9_many_149 : decode cX9_many 149 = .ok (.getfield 291, 3) := by decide +kernel
theorem dX9_many_152 : decode cX9_many 152 = .ok (.ireturn, 1) := by decide +kernel
theorem dX9_many_153 : decode cX9_many 153 = .ok (.aload_n 0, 1) := by decide +kernel
theorem dX9_many_154 : decode cX9_many 154 = .ok (.getfield 10, 3) := by decide +kernel
theorem dX9_many_157 : decode cX9_many 157 = .ok (.getfield 84, 3) := by decide +kernel
theorem dX9_many_160 : decode cX9_many 160 = .ok (.getfield 294, 3) := by decide +kernel
theorem dX9_many_163 : decode cX9_many 163 = .ok (.ireturn, 1) := by decide +kernel
theorem dX9_many_164 : decode cX9_many 164 = .ok (.aload_n 0, 1) := by decide +kernel
theorem dX9_many_165 : decode cX9_many 165 = .ok (.getfield 10, 3) := by decide +kernel
theorem dX9_many_168 : decode cX9_many 168 = .ok (.getfield 84, 3) := by decide +kernel
theorem dX9_many_171 : decode cX9_many 171 = .ok (.invokevirtual 94, 3) := by decide +kernel
theorem dX9_many_174 : decode cX9_many 174 = .ok (.ireturn, 1) := by decide +kernel
theorem dX9_many_175 : decode cX9_many 175 = .ok (.aload_n 0, 1) := by decide +kernel
theorem dX9_many_176 : decode cX9_many 176 = .ok (.getfield 10, 3) := by decide +kernel
theorem dX9_many_179 : decode cX9_many 179 = .ok (.getfield 297, 3) := by decide +kernel
theorem dX9_many_182 : decode cX9_many 182 = .ok (.ireturn, 1) := by decide +kernel
theorem dX9_many_183 : decode cX9_many 183 = .ok (.aload_n 0, 1) := by decide +kernel
theorem dX9_many_184 : decode cX9_many 184 = .ok (.getfield 10, 3) := by decide +kernel
theorem dX9_many_187 : decode cX9_many 187 = .ok (.invokevirtual 300, 3) := by decide +kernel
theorem dX9_many_190 : decode cX9_many 190 = .ok (.ireturn, 1) := by decide +kernel
theorem dX9_many_191 : decode cX9_many 191 = .ok (.aload_n 0, 1) := by decide +kernel
theorem dX9_many_192 : decode cX9_many 192 = .ok (.getfield 10, 3) := by decide +kernel
theorem dX9_many_195 : decode cX9_many 195 = .ok (.getfield 84, 3) := by decide +kernel
theorem dX9_many_198 : decode cX9_many 198 = .ok (.getfield 303, 3) := by decide +kernel
theorem dX9_many_201 : decode cX9_many 201 = .ok (.ireturn, 1) := by decide +kernel
theorem dX9_many_202 : decode cX9_many 202 = .ok (.new 30, 3) := by decide +kernel
theorem dX9_many_205 : decode cX9_many 205 = .ok (.dup, 1) := by decide +kernel
theorem dX9_many_206 : decode cX9_many 206 = .ok (.ldc_w 306, 3) := by decide +kernel
theorem dX9_many_209 : decode cX9_many 209 = .ok (.invokespecial 34, 3) := by decide +kernel
theorem dX9_many_212 : decode cX9_many 212 = .ok (.athrow, 1) := by decide +kernel
theorem wsRX9_306 : (RX9, 306, "0 to 13 is asked") ∈ zstr := by decide +kernel
theorem wcRX9_285 : Cond.methodLink RX9 285 yX3_countOf ∈ zTg ∧ Cond.instanceMethod yX3_countOf ∈ zTg ∧ Cond.selects RX3 yX3_countOf yX3_countOf ∈ zTg ∧ Cond.initialized RX3 ∈ zTg ∧ Cond.code yX3_countOf cX3_countOf 4 (some .int) ∈ zTg := ⟨zm_f 408 (by decide +kernel) rfl, zm_f 409 (by decide +kernel) rfl, zm_f 410 (by decide +kernel) rfl, zm_f 38 (by decide +kernel) rfl, zm_f 411 (by decide +kernel) rfl⟩
theorem wy_yX3_countOf : yX3_countOf.cls = RX3 ∧ yX3_countOf.cls ≠ "java/lang/invoke/MethodHandle" ∧ yX3_countOf.cls ≠ "java/lang/invoke/VarHandle" ∧ (parseMethodDescriptor yX3_countOf.desc).map (fun d => d.parameters.length) = some 1 := by decide +kernel
theorem wfRX9_288 : zFl RX9 288 2 1 := ⟨_, rfl, by decide, zm_f 115 (by decide +kernel) rfl⟩
theorem wfRX9_291 : zFl RX9 291 2 2 := ⟨_, rfl, by decide, zm_f 117 (by decide +kernel) rfl⟩
theorem wfRX9_294 : zFl RX9 294 2 4 := ⟨_, rfl, by decide, zm_f 121 (by decide +kernel) rfl⟩
theorem wfRX9_297 : zFl RX9 297 3 10 := ⟨_, rfl, by decide, zm_f 302 (by decide +kernel) rfl⟩
theorem wcRX9_300 : Cond.methodLink RX9 300 yX3_cycles ∈ zTg ∧ Cond.instanceMethod yX3_cycles ∈ zTg ∧ Cond.selects RX3 yX3_cycles yX3_cycles ∈ zTg ∧ Cond.initialized RX3 ∈ zTg ∧ Cond.code yX3_cycles cX3_cycles 3 (some .int) ∈ zTg := ⟨zm_f 416 (by decide +kernel) rfl, zm_f 417 (by decide +kernel) rfl, zm_f 418 (by decide +kernel) rfl, zm_f 38 (by decide +kernel) rfl, zm_f 419 (by decide +kernel) rfl⟩
theorem wy_yX3_cycles : yX3_cycles.cls = RX3 ∧ yX3_cycles.cls ≠ "java/lang/invoke/MethodHandle" ∧ yX3_cycles.cls ≠ "java/lang/invoke/VarHandle" ∧ (parseMethodDescriptor yX3_cycles.desc).map (fun d => d.parameters.length) = some 0 := by decide +kernel
theorem wfRX9_303 : zFl RX9 303 2 3 := ⟨_, rfl, by decide, zm_f 119 (by decide +kernel) rfl⟩
def fWB_many (a1 : Int32) (s0 : zM) (s1 : zM) (s2 : zM) (s3 : zM) : Option ((Int32) ⊕ (String)) :=
  if a1 < 0 ∨ 13 < a1 then
  some (.inr "java/lang/IllegalArgumentException")
else
  if a1 = 0 then
    some (.inl (s1 0 0 5))
  else
    if a1 = 1 then
      some (.inl (s1 0 0 6))
    else
      if a1 = 2 then
        some (.inl (s1 0 0 7))
      else
        if a1 = 3 then
          some (.inl (s1 0 0 8))
        else
          if a1 = 4 then
            Option.bind (fSe_countOf (2 : Int32) s1) fun q1 =>
              some (.inl q1)
          else
            if a1 = 5 then
              Option.bind (fSe_countOf (3 : Int32) s1) fun q2 =>
                some (.inl q2)
            else
              if a1 = 6 then
                Option.bind (fSe_countOf (4 : Int32) s1) fun q3 =>
                  some (.inl q3)
              else
                if a1 = 7 then
                  some (.inl (s1 5 0 1))
                else
                  if a1 = 8 then
                    some (.inl (s1 5 0 2))
                  else
                    if a1 = 9 then
                      some (.inl (s1 5 0 4))
                    else
                      if a1 = 10 then
                        Option.bind (fLe_nominatedCount s1) fun q4 =>
                          some (.inl q4)
                      else
                        if a1 = 11 then
                          some (.inl (s1 0 0 10))
                        else
                          if a1 = 12 then
                            Option.bind (fSe_cycles s1) fun q5 =>
                              some (.inl q5)
                          else
                            some (.inl (s1 5 0 3))
set_option maxHeartbeats 4000000 in
set_option maxRecDepth 20000 in
theorem bfWB_many {X : zX} (F : zFr X cX9_many 2 RX9 (some .int)) (a1 : Int32)  (s0 : zM) (s1 : zM) (s2 : zM) (s3 : zM) {κ : (Int32) ⊕ (String) → Option zO} (hκ : ∀ a, κ a = some ((zts (fun q => some (zi q)) (fun _ => [s0, s1, s2, s3]) (fun b => b) (fun _ => [s0, s1, s2, s3])) a)) : zZ X [(2, [1, 2, 3]), (0, []), (0, []), (1, [])] 6 90 2 0 [some (zr 0 0 0), some (zi a1)] [] [s0, s1, s2, s3] (Option.bind (fWB_many a1 s0 s1 s2 s3) κ) := by
  unfold fWB_many
  refine zz_iload_n F (i := 1) dX9_many_0 rfl rfl ?_
  refine zz_sw (c := a1 < 0 ∨ 13 < a1) (fun h => ?_) (fun h => ?_)
  · refine zz_tableOut F (tgt := 202) dX9_many_1 (zsw_out (lw := 0) (hi := 13) (a := 0) (b := 13) (by decide) (by decide) h) (by decide) ?_
    exact zz_throwW F (cls := "java/lang/IllegalArgumentException") dX9_many_202 dX9_many_205 dX9_many_206 dX9_many_209 dX9_many_212 (by decide) wtRX9_30_34k wsRX9_306 wtRX9_30_34g wtRX9_30_34n wtRX9_30_34o (Nat.le_of_ble_eq_true rfl) (Nat.le_of_ble_eq_true rfl) (hκ _)
  · refine zz_sw (c := a1 = 0) (fun hv => ?_) (fun hn0 => ?_)
    · refine zz_tableIn F (tgt := 72) (off := 71) dX9_many_1 (by rw [zsw_at (k := 0) (a := 0) hv (by decide)]; decide) (by rw [zsw_at (k := 0) (a := 0) hv (by decide)]; decide) (by rw [zsw_at (k := 0) (a := 0) hv (by decide)]; rfl) (by decide) ?_
      refine zz_aload_n F (i := 0) dX9_many_72 rfl rfl ?_
      refine zz_getr F dX9_many_73 wfRX9_10 zCl_8 rfl (⟨zlb rfl, zlb rfl, zlb rfl⟩) rfl (by decide) rfl (r' := 1) (by decide) ?_
      refine zz_getf F dX9_many_76 wfRX9_56 zCl_3 rfl (⟨zlb rfl, zlb rfl, zlb rfl⟩) rfl (by decide) rfl rfl ?_
      exact zz_ireturn F dX9_many_79 rfl (hκ _)
    · refine zz_sw (c := a1 = 1) (fun hv => ?_) (fun hn1 => ?_)
      · refine zz_tableIn F (tgt := 80) (off := 79) dX9_many_1 (by rw [zsw_at (k := 1) (a := 1) hv (by decide)]; decide) (by rw [zsw_at (k := 1) (a := 1) hv (by decide)]; decide) (by rw [zsw_at (k := 1) (a := 1) hv (by decide)]; rfl) (by decide) ?_
        refine zz_aload_n F (i := 0) dX9_many_80 rfl rfl ?_
        refine zz_getr F dX9_many_81 wfRX9_10 zCl_8 rfl (⟨zlb rfl, zlb rfl, zlb rfl⟩) rfl (by decide) rfl (r' := 1) (by decide) ?_
        refine zz_getf F dX9_many_84 wfRX9_37 zCl_3 rfl (⟨zlb rfl, zlb rfl, zlb rfl⟩) rfl (by decide) rfl rfl ?_
        exact zz_ireturn F dX9_many_87 rfl (hκ _)
      · refine zz_sw (c := a1 = 2) (fun hv => ?_) (fun hn2 => ?_)
        · refine zz_tableIn F (tgt := 88) (off := 87) dX9_many_1 (by rw [zsw_at (k := 2) (a := 2) hv (by decide)]; decide) (by rw [zsw_at (k := 2) (a := 2) hv (by decide)]; decide) (by rw [zsw_at (k := 2) (a := 2) hv (by decide)]; rfl) (by decide) ?_
          refine zz_aload_n F (i := 0) dX9_many_88 rfl rfl ?_
          refine zz_getr F dX9_many_89 wfRX9_10 zCl_8 rfl (⟨zlb rfl, zlb rfl, zlb rfl⟩) rfl (by decide) rfl (r' := 1) (by decide) ?_
          refine zz_getf F dX9_many_92 wfRX9_71 zCl_3 rfl (⟨zlb rfl, zlb rfl, zlb rfl⟩) rfl (by decide) rfl rfl ?_
          exact zz_ireturn F dX9_many_95 rfl (hκ _)
        · refine zz_sw (c := a1 = 3) (fun hv => ?_) (fun hn3 => ?_)
          · refine zz_tableIn F (tgt := 96) (off := 95) dX9_many_1 (by rw [zsw_at (k := 3) (a := 3) hv (by decide)]; decide) (by rw [zsw_at (k := 3) (a := 3) hv (by decide)]; decide) (by rw [zsw_at (k := 3) (a := 3) hv (by decide)]; rfl) (by decide) ?_
            refine zz_aload_n F (i := 0) dX9_many_96 rfl rfl ?_
            refine zz_getr F dX9_many_97 wfRX9_10 zCl_8 rfl (⟨zlb rfl, zlb rfl, zlb rfl⟩) rfl (by decide) rfl (r' := 1) (by decide) ?_
            refine zz_getf F dX9_many_100 wfRX9_79 zCl_3 rfl (⟨zlb rfl, zlb rfl, zlb rfl⟩) rfl (by decide) rfl rfl ?_
            exact zz_ireturn F dX9_many_103 rfl (hκ _)
          · refine zz_sw (c := a1 = 4) (fun hv => ?_) (fun hn4 => ?_)
            · refine zz_tableIn F (tgt := 104) (off := 103) dX9_many_1 (by rw [zsw_at (k := 4) (a := 4) hv (by decide)]; decide) (by rw [zsw_at (k := 4) (a := 4) hv (by decide)]; decide) (by rw [zsw_at (k := 4) (a := 4) hv (by decide)]; rfl) (by decide) ?_
              refine zz_aload_n F (i := 0) dX9_many_104 rfl rfl ?_
              refine zz_getr F dX9_many_105 wfRX9_10 zCl_8 rfl (⟨zlb rfl, zlb rfl, zlb rfl⟩) rfl (by decide) rfl (r' := 1) (by decide) ?_
              refine zz_iconst F (v := (2 : Int32)) dX9_many_108 (by decide) ?_
              refine zz_bind ?_
              refine zz_callVr F (ρ := [1]) (so := fun q1 => [zi q1]) (Mo := fun q1 => [s0, s1, s2, s3]) (zfSe_countOf (2 : Int32) s1) dX9_many_109 wcRX9_285 wy_yX3_countOf rfl ⟨rel1, rfl, rfl, Nat.le_of_ble_eq_true rfl, Nat.le_of_ble_eq_true rfl, Nat.le_of_ble_eq_true rfl⟩ (⟨zlb rfl, zlb rfl, zlb rfl⟩) rfl rfl rfl (fun _ => rfl) (fun _ => rfl) fun q1 => ?_
              exact zz_ireturn F dX9_many_112 rfl (hκ _)
            · refine zz_sw (c := a1 = 5) (fun hv => ?_) (fun hn5 => ?_)
              · refine zz_tableIn F (tgt := 113) (off := 112) dX9_many_1 (by rw [zsw_at (k := 5) (a := 5) hv (by decide)]; decide) (by rw [zsw_at (k := 5) (a := 5) hv (by decide)]; decide) (by rw [zsw_at (k := 5) (a := 5) hv (by decide)]; rfl) (by decide) ?_
                refine zz_aload_n F (i := 0) dX9_many_113 rfl rfl ?_
                refine zz_getr F dX9_many_114 wfRX9_10 zCl_8 rfl (⟨zlb rfl, zlb rfl, zlb rfl⟩) rfl (by decide) rfl (r' := 1) (by decide) ?_
                refine zz_iconst F (v := (3 : Int32)) dX9_many_117 (by decide) ?_
                refine zz_bind ?_
                refine zz_callVr F (ρ := [1]) (so := fun q2 => [zi q2]) (Mo := fun q2 => [s0, s1, s2, s3]) (zfSe_countOf (3 : Int32) s1) dX9_many_118 wcRX9_285 wy_yX3_countOf rfl ⟨rel1, rfl, rfl, Nat.le_of_ble_eq_true rfl, Nat.le_of_ble_eq_true rfl, Nat.le_of_ble_eq_true rfl⟩ (⟨zlb rfl, zlb rfl, zlb rfl⟩) rfl rfl rfl (fun _ => rfl) (fun _ => rfl) fun q2 => ?_
                exact zz_ireturn F dX9_many_121 rfl (hκ _)
              · refine zz_sw (c := a1 = 6) (fun hv => ?_) (fun hn6 => ?_)
                · refine zz_tableIn F (tgt := 122) (off := 121) dX9_many_1 (by rw [zsw_at (k := 6) (a := 6) hv (by decide)]; decide) (by rw [zsw_at (k := 6) (a := 6) hv (by decide)]; decide) (by rw [zsw_at (k := 6) (a := 6) hv (by decide)]; rfl) (by decide) ?_
                  refine zz_aload_n F (i := 0) dX9_many_122 rfl rfl ?_
                  refine zz_getr F dX9_many_123 wfRX9_10 zCl_8 rfl (⟨zlb rfl, zlb rfl, zlb rfl⟩) rfl (by decide) rfl (r' := 1) (by decide) ?_
                  refine zz_iconst F (v := (4 : Int32)) dX9_many_126 (by decide) ?_
                  refine zz_bind ?_
                  refine zz_callVr F (ρ := [1]) (so := fun q3 => [zi q3]) (Mo := fun q3 => [s0, s1, s2, s3]) (zfSe_countOf (4 : Int32) s1) dX9_many_127 wcRX9_285 wy_yX3_countOf rfl ⟨rel1, rfl, rfl, Nat.le_of_ble_eq_true rfl, Nat.le_of_ble_eq_true rfl, Nat.le_of_ble_eq_true rfl⟩ (⟨zlb rfl, zlb rfl, zlb rfl⟩) rfl rfl rfl (fun _ => rfl) (fun _ => rfl) fun q3 => ?_
                  exact zz_ireturn F dX9_many_130 rfl (hκ _)
                · refine zz_sw (c := a1 = 7) (fun hv => ?_) (fun hn7 => ?_)
                  · refine zz_tableIn F (tgt := 131) (off := 130) dX9_many_1 (by rw [zsw_at (k := 7) (a := 7) hv (by decide)]; decide) (by rw [zsw_at (k := 7) (a := 7) hv (by decide)]; decide) (by rw [zsw_at (k := 7) (a := 7) hv (by decide)]; rfl) (by decide) ?_
                    refine zz_aload_n F (i := 0) dX9_many_131 rfl rfl ?_
                    refine zz_getr F dX9_many_132 wfRX9_10 zCl_8 rfl (⟨zlb rfl, zlb rfl, zlb rfl⟩) rfl (by decide) rfl (r' := 1) (by decide) ?_
                    refine zz_getr F dX9_many_135 wfRX9_84 zCl_3 rfl (⟨zlb rfl, zlb rfl, zlb rfl⟩) rfl (by decide) rfl (r' := 1) (by decide) ?_
                    refine zz_getf F dX9_many_138 wfRX9_288 zCl_2 rfl (⟨zlb rfl, zlb rfl, zlb rfl⟩) rfl (by decide) rfl rfl ?_
                    exact zz_ireturn F dX9_many_141 rfl (hκ _)
                  · refine zz_sw (c := a1 = 8) (fun hv => ?_) (fun hn8 => ?_)
                    · refine zz_tableIn F (tgt := 142) (off := 141) dX9_many_1 (by rw [zsw_at (k := 8) (a := 8) hv (by decide)]; decide) (by rw [zsw_at (k := 8) (a := 8) hv (by decide)]; decide) (by rw [zsw_at (k := 8) (a := 8) hv (by decide)]; rfl) (by decide) ?_
                      refine zz_aload_n F (i := 0) dX9_many_142 rfl rfl ?_
                      refine zz_getr F dX9_many_143 wfRX9_10 zCl_8 rfl (⟨zlb rfl, zlb rfl, zlb rfl⟩) rfl (by decide) rfl (r' := 1) (by decide) ?_
                      refine zz_getr F dX9_many_146 wfRX9_84 zCl_3 rfl (⟨zlb rfl, zlb rfl, zlb rfl⟩) rfl (by decide) rfl (r' := 1) (by decide) ?_
                      refine zz_getf F dX9_many_149 wfRX9_291 zCl_2 rfl (⟨zlb rfl, zlb rfl, zlb rfl⟩) rfl (by decide) rfl rfl ?_
                      exact zz_ireturn F dX9_many_152 rfl (hκ _)
                    · refine zz_sw (c := a1 = 9) (fun hv => ?_) (fun hn9 => ?_)
                      · refine zz_tableIn F (tgt := 153) (off := 152) dX9_many_1 (by rw [zsw_at (k := 9) (a := 9) hv (by decide)]; decide) (by rw [zsw_at (k := 9) (a := 9) hv (by decide)]; decide) (by rw [zsw_at (k := 9) (a := 9) hv (by decide)]; rfl) (by decide) ?_
                        refine zz_aload_n F (i := 0) dX9_many_153 rfl rfl ?_
                        refine zz_getr F dX9_many_154 wfRX9_10 zCl_8 rfl (⟨zlb rfl, zlb rfl, zlb rfl⟩) rfl (by decide) rfl (r' := 1) (by decide) ?_
                        refine zz_getr F dX9_many_157 wfRX9_84 zCl_3 rfl (⟨zlb rfl, zlb rfl, zlb rfl⟩) rfl (by decide) rfl (r' := 1) (by decide) ?_
                        refine zz_getf F dX9_many_160 wfRX9_294 zCl_2 rfl (⟨zlb rfl, zlb rfl, zlb rfl⟩) rfl (by decide) rfl rfl ?_
                        exact zz_ireturn F dX9_many_163 rfl (hκ _)
                      · refine zz_sw (c := a1 = 10) (fun hv => ?_) (fun hn10 => ?_)
                        · refine zz_tableIn F (tgt := 164) (off := 163) dX9_many_1 (by rw [zsw_at (k := 10) (a := 10) hv (by decide)]; decide) (by rw [zsw_at (k := 10) (a := 10) hv (by decide)]; decide) (by rw [zsw_at (k := 10) (a := 10) hv (by decide)]; rfl) (by decide) ?_
                          refine zz_aload_n F (i := 0) dX9_many_164 rfl rfl ?_
                          refine zz_getr F dX9_many_165 wfRX9_10 zCl_8 rfl (⟨zlb rfl, zlb rfl, zlb rfl⟩) rfl (by decide) rfl (r' := 1) (by decide) ?_
                          refine zz_getr F dX9_many_168 wfRX9_84 zCl_3 rfl (⟨zlb rfl, zlb rfl, zlb rfl⟩) rfl (by decide) rfl (r' := 1) (by decide) ?_
                          refine zz_bind ?_
                          refine zz_callVr F (ρ := [1]) (so := fun q4 => [zi q4]) (Mo := fun q4 => [s0, s1, s2, s3]) (zfLe_nominatedCount s1) dX9_many_171 wcRX9_94 wy_yX2_nominatedCount rfl ⟨rel1, rfl, rfl, Nat.le_of_ble_eq_true rfl, Nat.le_of_ble_eq_true rfl, Nat.le_of_ble_eq_true rfl⟩ (⟨zlb rfl, zlb rfl, zlb rfl⟩) rfl rfl rfl (fun _ => rfl) (fun _ => rfl) fun q4 => ?_
                          exact zz_ireturn F dX9_many_174 rfl (hκ _)
                        · refine zz_sw (c := a1 = 11) (fun hv => ?_) (fun hn11 => ?_)
                          · refine zz_tableIn F (tgt := 175) (off := 174) dX9_many_1 (by rw [zsw_at (k := 11) (a := 11) hv (by decide)]; decide) (by rw [zsw_at (k := 11) (a := 11) hv (by decide)]; decide) (by rw [zsw_at (k := 11) (a := 11) hv (by decide)]; rfl) (by decide) ?_
                            refine zz_aload_n F (i := 0) dX9_many_175 rfl rfl ?_
                            refine zz_getr F dX9_many_176 wfRX9_10 zCl_8 rfl (⟨zlb rfl, zlb rfl, zlb rfl⟩) rfl (by decide) rfl (r' := 1) (by decide) ?_
                            refine zz_getf F dX9_many_179 wfRX9_297 zCl_3 rfl (⟨zlb rfl, zlb rfl, zlb rfl⟩) rfl (by decide) rfl rfl ?_
                            exact zz_ireturn F dX9_many_182 rfl (hκ _)
                          · refine zz_sw (c := a1 = 12) (fun hv => ?_) (fun hn12 => ?_)
                            · refine zz_tableIn F (tgt := 183) (off := 182) dX9_many_1 (by rw [zsw_at (k := 12) (a := 12) hv (by decide)]; decide) (by rw [zsw_at (k := 12) (a := 12) hv (by decide)]; decide) (by rw [zsw_at (k := 12) (a := 12) hv (by decide)]; rfl) (by decide) ?_
                              refine zz_aload_n F (i := 0) dX9_many_183 rfl rfl ?_
                              refine zz_getr F dX9_many_184 wfRX9_10 zCl_8 rfl (⟨zlb rfl, zlb rfl, zlb rfl⟩) rfl (by decide) rfl (r' := 1) (by decide) ?_
                              refine zz_bind ?_
                              refine zz_callVr F (ρ := [1]) (so := fun q5 => [zi q5]) (Mo := fun q5 => [s0, s1, s2, s3]) (zfSe_cycles s1) dX9_many_187 wcRX9_300 wy_yX3_cycles rfl ⟨rel1, rfl, rfl, Nat.le_of_ble_eq_true rfl, Nat.le_of_ble_eq_true rfl, Nat.le_of_ble_eq_true rfl⟩ (⟨zlb rfl, zlb rfl, zlb rfl⟩) rfl rfl rfl (fun _ => rfl) (fun _ => rfl) fun q5 => ?_
                              exact zz_ireturn F dX9_many_190 rfl (hκ _)
                            · have hv : a1 = 13 := zsw_eq (a := 13) (by decide) (by have h1 := zsw_in (lw := 0) (hi := 13) (a := 0) (b := 13) (by decide) (by decide) h; have e0 := zsw_ne (a := 0) (by decide) hn0; have e1 := zsw_ne (a := 1) (by decide) hn1; have e2 := zsw_ne (a := 2) (by decide) hn2; have e3 := zsw_ne (a := 3) (by decide) hn3; have e4 := zsw_ne (a := 4) (by decide) hn4; have e5 := zsw_ne (a := 5) (by decide) hn5; have e6 := zsw_ne (a := 6) (by decide) hn6; have e7 := zsw_ne (a := 7) (by decide) hn7; have e8 := zsw_ne (a := 8) (by decide) hn8; have e9 := zsw_ne (a := 9) (by decide) hn9; have e10 := zsw_ne (a := 10) (by decide) hn10; have e11 := zsw_ne (a := 11) (by decide) hn11; have e12 := zsw_ne (a := 12) (by decide) hn12; omega)
                              refine zz_tableIn F (tgt := 191) (off := 190) dX9_many_1 (by rw [zsw_at (k := 13) (a := 13) hv (by decide)]; decide) (by rw [zsw_at (k := 13) (a := 13) hv (by decide)]; decide) (by rw [zsw_at (k := 13) (a := 13) hv (by decide)]; rfl) (by decide) ?_
                              refine zz_aload_n F (i := 0) dX9_many_191 rfl rfl ?_
                              refine zz_getr F dX9_many_192 wfRX9_10 zCl_8 rfl (⟨zlb rfl, zlb rfl, zlb rfl⟩) rfl (by decide) rfl (r' := 1) (by decide) ?_
                              refine zz_getr F dX9_many_195 wfRX9_84 zCl_3 rfl (⟨zlb rfl, zlb rfl, zlb rfl⟩) rfl (by decide) rfl (r' := 1) (by decide) ?_
                              refine zz_getf F dX9_many_198 wfRX9_303 zCl_2 rfl (⟨zlb rfl, zlb rfl, zlb rfl⟩) rfl (by decide) rfl rfl ?_
                              exact zz_ireturn F dX9_many_201 rfl (hκ _)
theorem zfWB_many (a1 : Int32)  (s0 : zM) (s1 : zM) (s2 : zM) (s3 : zM) : ∀ a, fWB_many a1 s0 s1 s2 s3 = some a → zMet yX9_many cX9_many 2 (some .int) 6 90 [(2, [1, 2, 3]), (0, []), (0, []), (1, [])] [zr 0 0 0, zi a1] [s0, s1, s2, s3] ((zts (fun q => some (zi q)) (fun _ => [s0, s1, s2, s3]) (fun b => b) (fun _ => [s0, s1, s2, s3])) a) := fun a ha => zMet_of (L0 := [some (zr 0 0 0), some (zi a1)]) (φ := Option.bind (fWB_many a1 s0 s1 s2 s3) (fun a => some ((zts (fun q => some (zi q)) (fun _ => [s0, s1, s2, s3]) (fun b => b) (fun _ => [s0, s1, s2, s3])) a))) (by decide) (fun _ => Nat.le_of_ble_eq_true rfl) (zl0 0 rfl) (fun X F => bfWB_many F a1 s0 s1 s2 s3 (fun _ => rfl)) (by rw [ha]; rfl)

theorem dX8_copyFrom_0 : decode cX8_copyFrom 0 = .ok (.aload_n 0, 1) := by decide +kernel
theorem dX8_copyFrom_1 : decode cX8_copyFrom 1 = .ok (.aload_n 1, 1) := by decide +kernel
theorem dX8_copyFrom_2 : decode cX8_copyFrom 2 = .ok (.getfield 15, 3) := by decide +kernel
theorem dX8_copyFrom_5 : decode cX8_copyFrom 5 = .ok (.aload_n 1, 1) := by decide +kernel
theorem dX8_copyFrom_6 : decode cX8_copyFrom 6 = .ok (.getfield 18, 3) := by decide +kernel
theorem dX8_copyFrom_9 : decode cX8_copyFrom 9 = .ok (.aload_n 1, 1) := by decide +kernel
theorem dX8_copyFrom_10 : decode cX8_copyFrom 10 = .ok (.getfield 21, 3) := by decide +kernel
theorem dX8_copyFrom_13 : decode cX8_copyFrom 13 = .ok (.aload_n 1, 1) := by decide +kernel
theorem dX8_copyFrom_14 : decode cX8_copyFrom 14 = .ok (.getfield 24, 3) := by decide +kernel
theorem dX8_copyFrom_17 : decode cX8_copyFrom 17 = .ok (.aload_n 1, 1) := by decide +kernel
theorem dX8_copyFrom_18 : decode cX8_copyFrom 18 = .ok (.getfield 9, 3) := by decide +kernel
theorem dX8_copyFrom_21 : decode cX8_copyFrom 21 = .ok (.invokevirtual 27, 3) := by decide +kernel
theorem dX8_copyFrom_24 : decode cX8_copyFrom 24 = .ok (.return_, 1) := by decide +kernel
theorem wfRX8_15 : zFl RX8 15 7 0 := ⟨_, rfl, by decide, zm_f 83 (by decide +kernel) rfl⟩
theorem wfRX8_18 : zFl RX8 18 7 1 := ⟨_, rfl, by decide, zm_f 85 (by decide +kernel) rfl⟩
theorem wfRX8_21 : zFl RX8 21 7 2 := ⟨_, rfl, by decide, zm_f 88 (by decide +kernel) rfl⟩
theorem wfRX8_24 : zFl RX8 24 7 3 := ⟨_, rfl, by decide, zm_f 91 (by decide +kernel) rfl⟩
theorem wfRX8_9 : zFl RX8 9 7 4 := ⟨_, rfl, by decide, zm_f 94 (by decide +kernel) rfl⟩
theorem wcRX8_27 : Cond.methodLink RX8 27 yX8_set ∈ zTg ∧ Cond.instanceMethod yX8_set ∈ zTg ∧ Cond.selects RX8 yX8_set yX8_set ∈ zTg ∧ Cond.initialized RX8 ∈ zTg ∧ Cond.code yX8_set cX8_set 6 none ∈ zTg := ⟨zm_f 572 (by decide +kernel) rfl, zm_f 573 (by decide +kernel) rfl, zm_f 574 (by decide +kernel) rfl, zm_f 39 (by decide +kernel) rfl, zm_f 575 (by decide +kernel) rfl⟩
theorem rel6 : zRel [0] [(0, []), (0, [])] [(0, [])] := by unfold zRel; decide
def fWe_copyFrom  (s0 : zM) (s1 : zM) : Option (zM) :=
  Option.bind (fWe_set (s1 4 0 0) (s1 4 0 1) (s1 4 0 2) (s1 4 0 3) (s1 4 0 4) s0) fun q1 =>
  some q1
set_option maxHeartbeats 4000000 in
set_option maxRecDepth 20000 in
theorem bfWe_copyFrom {X : zX} (F : zFr X cX8_copyFrom 2 RX8 none)   (s0 : zM) (s1 : zM) {κ : zM → Option zO} (hκ : ∀ a, κ a = some ((fun a => ((.inl ((fun _ => (none : Option zV)) a), (fun q => [q, s1]) a) : zO)) a)) : zZ X [(0, []), (0, [])] 1 25 2 0 [some (zr 0 4 0), some (zr 1 4 0)] [] [s0, s1] (Option.bind (fWe_copyFrom s0 s1) κ) := by
  unfold fWe_copyFrom
  refine zz_aload_n F (i := 0) dX8_copyFrom_0 rfl rfl ?_
  refine zz_aload_n F (i := 1) dX8_copyFrom_1 rfl rfl ?_
  refine zz_getf F dX8_copyFrom_2 wfRX8_15 zCl_7 rfl (⟨zlb rfl, zlb rfl, zlb rfl⟩) rfl (by decide) rfl rfl ?_
  refine zz_aload_n F (i := 1) dX8_copyFrom_5 rfl rfl ?_
  refine zz_getf F dX8_copyFrom_6 wfRX8_18 zCl_7 rfl (⟨zlb rfl, zlb rfl, zlb rfl⟩) rfl (by decide) rfl rfl ?_
  refine zz_aload_n F (i := 1) dX8_copyFrom_9 rfl rfl ?_
  refine zz_getf F dX8_copyFrom_10 wfRX8_21 zCl_7 rfl (⟨zlb rfl, zlb rfl, zlb rfl⟩) rfl (by decide) rfl rfl ?_
  refine zz_aload_n F (i := 1) dX8_copyFrom_13 rfl rfl ?_
  refine zz_getf F dX8_copyFrom_14 wfRX8_24 zCl_7 rfl (⟨zlb rfl, zlb rfl, zlb rfl⟩) rfl (by decide) rfl rfl ?_
  refine zz_aload_n F (i := 1) dX8_copyFrom_17 rfl rfl ?_
  refine zz_getf F dX8_copyFrom_18 wfRX8_9 zCl_7 rfl (⟨zlb rfl, zlb rfl, zlb rfl⟩) rfl (by decide) rfl rfl ?_
  refine zz_bind ?_
  refine zz_callVr F (ρ := [0]) (so := fun q1 => []) (Mo := fun q1 => [q1, s1]) (zfWe_set (s1 4 0 0) (s1 4 0 1) (s1 4 0 2) (s1 4 0 3) (s1 4 0 4) s0) dX8_copyFrom_21 wcRX8_27 wy_yX8_set rfl ⟨rel6, rfl, rfl, Nat.le_of_ble_eq_true rfl, Nat.le_of_ble_eq_true rfl, Nat.le_of_ble_eq_true rfl⟩ (⟨zlb rfl, zlb rfl, zlb rfl⟩) rfl rfl rfl (fun _ => rfl) (fun _ => rfl) fun q1 => ?_
  exact zz_return F dX8_copyFrom_24 rfl (hκ _)
theorem zfWe_copyFrom   (s0 : zM) (s1 : zM) : ∀ a, fWe_copyFrom s0 s1 = some a → zMet yX8_copyFrom cX8_copyFrom 2 none 1 25 [(0, []), (0, [])] [zr 0 4 0, zr 1 4 0] [s0, s1] ((fun a => ((.inl ((fun _ => (none : Option zV)) a), (fun q => [q, s1]) a) : zO)) a) := fun a ha => zMet_of (L0 := [some (zr 0 4 0), some (zr 1 4 0)]) (φ := Option.bind (fWe_copyFrom s0 s1) (fun a => some ((fun a => ((.inl ((fun _ => (none : Option zV)) a), (fun q => [q, s1]) a) : zO)) a))) (by decide) (fun _ => Nat.le_of_ble_eq_true rfl) (zl0 0 rfl) (fun X F => bfWe_copyFrom F s0 s1 (fun _ => rfl)) (by rw [ha]; rfl)

theorem dX2_copyFrom_0 : decode cX2_copyFrom 0 = .ok (.aload_n 1, 1) := by decide +kernel
theorem dX2_copyFrom_1 : decode cX2_copyFrom 1 = .ok (.getfield 9, 3) := by decide +kernel
theorem dX2_copyFrom_4 : decode cX2_copyFrom 4 = .ok (.iconst 0, 1) := by decide +kernel
theorem dX2_copyFrom_5 : decode cX2_copyFrom 5 = .ok (.aload_n 0, 1) := by decide +kernel
theorem dX2_copyFrom_6 : decode cX2_copyFrom 6 = .ok (.getfield 9, 3) := by decide +kernel
theorem dX2_copyFrom_9 : decode cX2_copyFrom 9 = .ok (.iconst 0, 1) := by decide +kernel
theorem dX2_copyFrom_10 : decode cX2_copyFrom 10 = .ok (.bipush 24, 2) := by decide +kernel
theorem dX2_copyFrom_12 : decode cX2_copyFrom 12 = .ok (.invokestatic 15, 3) := by decide +kernel
theorem dX2_copyFrom_15 : decode cX2_copyFrom 15 = .ok (.aload_n 0, 1) := by decide +kernel
theorem dX2_copyFrom_16 : decode cX2_copyFrom 16 = .ok (.aload_n 1, 1) := by decide +kernel
theorem dX2_copyFrom_17 : decode cX2_copyFrom 17 = .ok (.getfield 21, 3) := by decide +kernel
theorem dX2_copyFrom_20 : decode cX2_copyFrom 20 = .ok (.putfield 21, 3) := by decide +kernel
theorem dX2_copyFrom_23 : decode cX2_copyFrom 23 = .ok (.aload_n 0, 1) := by decide +kernel
theorem dX2_copyFrom_24 : decode cX2_copyFrom 24 = .ok (.aload_n 1, 1) := by decide +kernel
theorem dX2_copyFrom_25 : decode cX2_copyFrom 25 = .ok (.getfield 25, 3) := by decide +kernel
theorem dX2_copyFrom_28 : decode cX2_copyFrom 28 = .ok (.putfield 25, 3) := by decide +kernel
theorem dX2_copyFrom_31 : decode cX2_copyFrom 31 = .ok (.aload_n 0, 1) := by decide +kernel
theorem dX2_copyFrom_32 : decode cX2_copyFrom 32 = .ok (.aload_n 1, 1) := by decide +kernel
theorem dX2_copyFrom_33 : decode cX2_copyFrom 33 = .ok (.getfield 28, 3) := by decide +kernel
theorem dX2_copyFrom_36 : decode cX2_copyFrom 36 = .ok (.putfield 28, 3) := by decide +kernel
theorem dX2_copyFrom_39 : decode cX2_copyFrom 39 = .ok (.aload_n 0, 1) := by decide +kernel
theorem dX2_copyFrom_40 : decode cX2_copyFrom 40 = .ok (.aload_n 1, 1) := by decide +kernel
theorem dX2_copyFrom_41 : decode cX2_copyFrom 41 = .ok (.getfield 31, 3) := by decide +kernel
theorem dX2_copyFrom_44 : decode cX2_copyFrom 44 = .ok (.putfield 31, 3) := by decide +kernel
theorem dX2_copyFrom_47 : decode cX2_copyFrom 47 = .ok (.return_, 1) := by decide +kernel
theorem wmRX2_15 : Cond.methodLink RX2 15 arraycopyName ∈ zTg := zm_f 580 (by decide +kernel) rfl
theorem wCopy : Cond.native arraycopyName ∈ zTg ∧ Cond.static arraycopyName ∈ zTg ∧ Cond.initialized "java/lang/System" ∈ zTg := ⟨zm_f 582 (by decide +kernel) rfl, zm_f 581 (by decide +kernel) rfl, zm_f 54 (by decide +kernel) rfl⟩
theorem wfRX2_28 : zFl RX2 28 2 3 := ⟨_, rfl, by decide, zm_f 118 (by decide +kernel) rfl⟩
def fLe_copyFrom  (s0 : zM) (s1 : zM) : Option (zM) :=
  zlet (zur s0 6 0 (va_cpy (s1 6 0) (s0 6 0) 0 0 24)) fun s0_1 =>
  zlet (zu s0_1 5 0 1 (s1 5 0 1)) fun s0_2 =>
  zlet (zu s0_2 5 0 2 (s1 5 0 2)) fun s0_3 =>
  zlet (zu s0_3 5 0 3 (s1 5 0 3)) fun s0_4 =>
  zlet (zu s0_4 5 0 4 (s1 5 0 4)) fun s0_5 =>
  some s0_5
set_option maxHeartbeats 4000000 in
set_option maxRecDepth 20000 in
theorem bfLe_copyFrom {X : zX} (F : zFr X cX2_copyFrom 2 RX2 none)   (s0 : zM) (s1 : zM) {κ : zM → Option zO} (hκ : ∀ a, κ a = some ((fun a => ((.inl ((fun _ => (none : Option zV)) a), (fun q => [q, s1]) a) : zO)) a)) : zZ X [(0, []), (0, [])] 1 60 2 0 [some (zr 0 5 0), some (zr 1 5 0)] [] [s0, s1] (Option.bind (fLe_copyFrom s0 s1) κ) := by
  unfold fLe_copyFrom
  refine zz_aload_n F (i := 1) dX2_copyFrom_0 rfl rfl ?_
  refine zz_getr F dX2_copyFrom_1 wfRX2_9 zCl_2 rfl (⟨zlb rfl, zlb rfl, zlb rfl⟩) rfl (by decide) rfl (r' := 1) (by decide) ?_
  refine zz_iconst F (v := (0 : Int32)) dX2_copyFrom_4 (by decide) ?_
  refine zz_aload_n F (i := 0) dX2_copyFrom_5 rfl rfl ?_
  refine zz_getr F dX2_copyFrom_6 wfRX2_9 zCl_2 rfl (⟨zlb rfl, zlb rfl, zlb rfl⟩) rfl (by decide) rfl (r' := 0) (by decide) ?_
  refine zz_iconst F (v := (0 : Int32)) dX2_copyFrom_9 (by decide) ?_
  refine zz_bipush F (v := (24 : Int32)) dX2_copyFrom_10 (by decide) ?_
  refine zz_copy F (Ms' := [(zur s0 6 0 (va_cpy (s1 6 0) (s0 6 0) 0 0 24)), s1]) dX2_copyFrom_12 wmRX2_15 wCopy rfl (⟨zlb rfl, zlb rfl, zlb rfl⟩) rfl rfl (⟨zlb rfl, zlb rfl, zlb rfl⟩) rfl (by decide) (by decide) (by decide) (Nat.le_of_ble_eq_true rfl) (Nat.le_of_ble_eq_true rfl) (Nat.le_of_ble_eq_true rfl) (Nat.le_of_ble_eq_true rfl) rfl ?_
  refine zz_letm (Mf := fun s0_1 => [s0_1, s1]) fun s0_1 => ?_
  refine zz_aload_n F (i := 0) dX2_copyFrom_15 rfl rfl ?_
  refine zz_aload_n F (i := 1) dX2_copyFrom_16 rfl rfl ?_
  refine zz_getf F dX2_copyFrom_17 wfRX2_21 zCl_2 rfl (⟨zlb rfl, zlb rfl, zlb rfl⟩) rfl (by decide) rfl rfl ?_
  refine zz_put F (Ms' := [(zu s0_1 5 0 1 (s1 5 0 1)), s1]) dX2_copyFrom_20 wpRX2_21 zCl_2 rfl (⟨zlb rfl, zlb rfl, zlb rfl⟩) rfl (by decide) rfl rfl rfl ?_
  refine zz_letm (Mf := fun s0_2 => [s0_2, s1]) fun s0_2 => ?_
  refine zz_aload_n F (i := 0) dX2_copyFrom_23 rfl rfl ?_
  refine zz_aload_n F (i := 1) dX2_copyFrom_24 rfl rfl ?_
  refine zz_getf F dX2_copyFrom_25 wfRX2_25 zCl_2 rfl (⟨zlb rfl, zlb rfl, zlb rfl⟩) rfl (by decide) rfl rfl ?_
  refine zz_put F (Ms' := [(zu s0_2 5 0 2 (s1 5 0 2)), s1]) dX2_copyFrom_28 wpRX2_25 zCl_2 rfl (⟨zlb rfl, zlb rfl, zlb rfl⟩) rfl (by decide) rfl rfl rfl ?_
  refine zz_letm (Mf := fun s0_3 => [s0_3, s1]) fun s0_3 => ?_
  refine zz_aload_n F (i := 0) dX2_copyFrom_31 rfl rfl ?_
  refine zz_aload_n F (i := 1) dX2_copyFrom_32 rfl rfl ?_
  refine zz_getf F dX2_copyFrom_33 wfRX2_28 zCl_2 rfl (⟨zlb rfl, zlb rfl, zlb rfl⟩) rfl (by decide) rfl rfl ?_
  refine zz_put F (Ms' := [(zu s0_3 5 0 3 (s1 5 0 3)), s1]) dX2_copyFrom_36 wpRX2_28 zCl_2 rfl (⟨zlb rfl, zlb rfl, zlb rfl⟩) rfl (by decide) rfl rfl rfl ?_
  refine zz_letm (Mf := fun s0_4 => [s0_4, s1]) fun s0_4 => ?_
  refine zz_aload_n F (i := 0) dX2_copyFrom_39 rfl rfl ?_
  refine zz_aload_n F (i := 1) dX2_copyFrom_40 rfl rfl ?_
  refine zz_getf F dX2_copyFrom_41 wfRX2_31 zCl_2 rfl (⟨zlb rfl, zlb rfl, zlb rfl⟩) rfl (by decide) rfl rfl ?_
  refine zz_put F (Ms' := [(zu s0_4 5 0 4 (s1 5 0 4)), s1]) dX2_copyFrom_44 wpRX2_31 zCl_2 rfl (⟨zlb rfl, zlb rfl, zlb rfl⟩) rfl (by decide) rfl rfl rfl ?_
  refine zz_letm (Mf := fun s0_5 => [s0_5, s1]) fun s0_5 => ?_
  exact zz_return F dX2_copyFrom_47 rfl (hκ _)
theorem zfLe_copyFrom   (s0 : zM) (s1 : zM) : ∀ a, fLe_copyFrom s0 s1 = some a → zMet yX2_copyFrom cX2_copyFrom 2 none 1 60 [(0, []), (0, [])] [zr 0 5 0, zr 1 5 0] [s0, s1] ((fun a => ((.inl ((fun _ => (none : Option zV)) a), (fun q => [q, s1]) a) : zO)) a) := fun a ha => zMet_of (L0 := [some (zr 0 5 0), some (zr 1 5 0)]) (φ := Option.bind (fLe_copyFrom s0 s1) (fun a => some ((fun a => ((.inl ((fun _ => (none : Option zV)) a), (fun q => [q, s1]) a) : zO)) a))) (by decide) (fun _ => Nat.le_of_ble_eq_true rfl) (zl0 0 rfl) (fun X F => bfLe_copyFrom F s0 s1 (fun _ => rfl)) (by rw [ha]; rfl)

theorem dX1_copyFrom_0 : decode cX1_copyFrom 0 = .ok (.aload_n 1, 1) := by decide +kernel
theorem dX1_copyFrom_1 : decode cX1_copyFrom 1 = .ok (.getfield 9, 3) := by decide +kernel
theorem dX1_copyFrom_4 : decode cX1_copyFrom 4 = .ok (.iconst 0, 1) := by decide +kernel
theorem dX1_copyFrom_5 : decode cX1_copyFrom 5 = .ok (.aload_n 0, 1) := by decide +kernel
theorem dX1_copyFrom_6 : decode cX1_copyFrom 6 = .ok (.getfield 9, 3) := by decide +kernel
theorem dX1_copyFrom_9 : decode cX1_copyFrom 9 = .ok (.iconst 0, 1) := by decide +kernel
theorem dX1_copyFrom_10 : decode cX1_copyFrom 10 = .ok (.bipush 30, 2) := by decide +kernel
theorem dX1_copyFrom_12 : decode cX1_copyFrom 12 = .ok (.invokestatic 15, 3) := by decide +kernel
theorem dX1_copyFrom_15 : decode cX1_copyFrom 15 = .ok (.aload_n 0, 1) := by decide +kernel
theorem dX1_copyFrom_16 : decode cX1_copyFrom 16 = .ok (.aload_n 1, 1) := by decide +kernel
theorem dX1_copyFrom_17 : decode cX1_copyFrom 17 = .ok (.getfield 21, 3) := by decide +kernel
theorem dX1_copyFrom_20 : decode cX1_copyFrom 20 = .ok (.putfield 21, 3) := by decide +kernel
theorem dX1_copyFrom_23 : decode cX1_copyFrom 23 = .ok (.aload_n 0, 1) := by decide +kernel
theorem dX1_copyFrom_24 : decode cX1_copyFrom 24 = .ok (.aload_n 1, 1) := by decide +kernel
theorem dX1_copyFrom_25 : decode cX1_copyFrom 25 = .ok (.getfield 25, 3) := by decide +kernel
theorem dX1_copyFrom_28 : decode cX1_copyFrom 28 = .ok (.putfield 25, 3) := by decide +kernel
theorem dX1_copyFrom_31 : decode cX1_copyFrom 31 = .ok (.aload_n 0, 1) := by decide +kernel
theorem dX1_copyFrom_32 : decode cX1_copyFrom 32 = .ok (.aload_n 1, 1) := by decide +kernel
theorem dX1_copyFrom_33 : decode cX1_copyFrom 33 = .ok (.getfield 28, 3) := by decide +kernel
theorem dX1_copyFrom_36 : decode cX1_copyFrom 36 = .ok (.putfield 28, 3) := by decide +kernel
theorem dX1_copyFrom_39 : decode cX1_copyFrom 39 = .ok (.return_, 1) := by decide +kernel
theorem wmRX1_15 : Cond.methodLink RX1 15 arraycopyName ∈ zTg := zm_f 592 (by decide +kernel) rfl
def fEx_copyFrom (i : Nat) (j : Nat) (s0 : zM) (s1 : zM) : Option (zM) :=
  zlet (zur s0 11 i (va_cpy (s1 11 j) (s0 11 i) 0 0 30)) fun s0_1 =>
  zlet (zu s0_1 10 i 1 (s1 10 j 1)) fun s0_2 =>
  zlet (zu s0_2 10 i 2 (s1 10 j 2)) fun s0_3 =>
  zlet (zu s0_3 10 i 3 (s1 10 j 3)) fun s0_4 =>
  some s0_4
set_option maxHeartbeats 4000000 in
set_option maxRecDepth 20000 in
theorem bfEx_copyFrom {X : zX} (F : zFr X cX1_copyFrom 2 RX1 none) (i : Nat) (j : Nat) (hi : i < 8) (hj : j < 8) (s0 : zM) (s1 : zM) {κ : zM → Option zO} (hκ : ∀ a, κ a = some ((fun a => ((.inl ((fun _ => (none : Option zV)) a), (fun q => [q, s1]) a) : zO)) a)) : zZ X [(0, []), (0, [])] 1 60 2 0 [some (zr 0 10 i), some (zr 1 10 j)] [] [s0, s1] (Option.bind (fEx_copyFrom i j s0 s1) κ) := by
  unfold fEx_copyFrom
  refine zz_aload_n F (i := 1) dX1_copyFrom_0 rfl rfl ?_
  refine zz_getr F dX1_copyFrom_1 wfRX1_9 zCl_1 rfl (⟨zlb rfl, zlb rfl, hj⟩) rfl (by decide) rfl (r' := 1) (by decide) ?_
  refine zz_iconst F (v := (0 : Int32)) dX1_copyFrom_4 (by decide) ?_
  refine zz_aload_n F (i := 0) dX1_copyFrom_5 rfl rfl ?_
  refine zz_getr F dX1_copyFrom_6 wfRX1_9 zCl_1 rfl (⟨zlb rfl, zlb rfl, hi⟩) rfl (by decide) rfl (r' := 0) (by decide) ?_
  refine zz_iconst F (v := (0 : Int32)) dX1_copyFrom_9 (by decide) ?_
  refine zz_bipush F (v := (30 : Int32)) dX1_copyFrom_10 (by decide) ?_
  refine zz_copy F (Ms' := [(zur s0 11 i (va_cpy (s1 11 j) (s0 11 i) 0 0 30)), s1]) dX1_copyFrom_12 wmRX1_15 wCopy rfl (⟨zlb rfl, zlb rfl, hj⟩) rfl rfl (⟨zlb rfl, zlb rfl, hi⟩) rfl (by decide) (by decide) (by decide) (Nat.le_of_ble_eq_true rfl) (Nat.le_of_ble_eq_true rfl) (Nat.le_of_ble_eq_true rfl) (Nat.le_of_ble_eq_true rfl) rfl ?_
  refine zz_letm (Mf := fun s0_1 => [s0_1, s1]) fun s0_1 => ?_
  refine zz_aload_n F (i := 0) dX1_copyFrom_15 rfl rfl ?_
  refine zz_aload_n F (i := 1) dX1_copyFrom_16 rfl rfl ?_
  refine zz_getf F dX1_copyFrom_17 wfRX1_21 zCl_1 rfl (⟨zlb rfl, zlb rfl, hj⟩) rfl (by decide) rfl rfl ?_
  refine zz_put F (Ms' := [(zu s0_1 10 i 1 (s1 10 j 1)), s1]) dX1_copyFrom_20 wpRX1_21 zCl_1 rfl (⟨zlb rfl, zlb rfl, hi⟩) rfl (by decide) rfl rfl rfl ?_
  refine zz_letm (Mf := fun s0_2 => [s0_2, s1]) fun s0_2 => ?_
  refine zz_aload_n F (i := 0) dX1_copyFrom_23 rfl rfl ?_
  refine zz_aload_n F (i := 1) dX1_copyFrom_24 rfl rfl ?_
  refine zz_getf F dX1_copyFrom_25 wfRX1_25 zCl_1 rfl (⟨zlb rfl, zlb rfl, hj⟩) rfl (by decide) rfl rfl ?_
  refine zz_put F (Ms' := [(zu s0_2 10 i 2 (s1 10 j 2)), s1]) dX1_copyFrom_28 wpRX1_25 zCl_1 rfl (⟨zlb rfl, zlb rfl, hi⟩) rfl (by decide) rfl rfl rfl ?_
  refine zz_letm (Mf := fun s0_3 => [s0_3, s1]) fun s0_3 => ?_
  refine zz_aload_n F (i := 0) dX1_copyFrom_31 rfl rfl ?_
  refine zz_aload_n F (i := 1) dX1_copyFrom_32 rfl rfl ?_
  refine zz_getf F dX1_copyFrom_33 wfRX1_28 zCl_1 rfl (⟨zlb rfl, zlb rfl, hj⟩) rfl (by decide) rfl rfl ?_
  refine zz_put F (Ms' := [(zu s0_3 10 i 3 (s1 10 j 3)), s1]) dX1_copyFrom_36 wpRX1_28 zCl_1 rfl (⟨zlb rfl, zlb rfl, hi⟩) rfl (by decide) rfl rfl rfl ?_
  refine zz_letm (Mf := fun s0_4 => [s0_4, s1]) fun s0_4 => ?_
  exact zz_return F dX1_copyFrom_39 rfl (hκ _)
theorem zfEx_copyFrom (i : Nat) (j : Nat) (hi : i < 8) (hj : j < 8) (s0 : zM) (s1 : zM) : ∀ a, fEx_copyFrom i j s0 s1 = some a → zMet yX1_copyFrom cX1_copyFrom 2 none 1 60 [(0, []), (0, [])] [zr 0 10 i, zr 1 10 j] [s0, s1] ((fun a => ((.inl ((fun _ => (none : Option zV)) a), (fun q => [q, s1]) a) : zO)) a) := fun a ha => zMet_of (L0 := [some (zr 0 10 i), some (zr 1 10 j)]) (φ := Option.bind (fEx_copyFrom i j s0 s1) (fun a => some ((fun a => ((.inl ((fun _ => (none : Option zV)) a), (fun q => [q, s1]) a) : zO)) a))) (by decide) (fun _ => Nat.le_of_ble_eq_true rfl) (zl0 0 rfl) (fun X F => bfEx_copyFrom F i j hi hj s0 s1 (fun _ => rfl)) (by rw [ha]; rfl)

theorem dX5_copyFrom_0 : decode cX5_copyFrom 0 = .ok (.aload_n 0, 1) := by decide +kernel
theorem dX5_copyFrom_1 : decode cX5_copyFrom 1 = .ok (.aload_n 1, 1) := by decide +kernel
theorem dX5_copyFrom_2 : decode cX5_copyFrom 2 = .ok (.getfield 38, 3) := by decide +kernel
theorem dX5_copyFrom_5 : decode cX5_copyFrom 5 = .ok (.putfield 38, 3) := by decide +kernel
theorem dX5_copyFrom_8 : decode cX5_copyFrom 8 = .ok (.aload_n 0, 1) := by decide +kernel
theorem dX5_copyFrom_9 : decode cX5_copyFrom 9 = .ok (.aload_n 1, 1) := by decide +kernel
theorem dX5_copyFrom_10 : decode cX5_copyFrom 10 = .ok (.getfield 41, 3) := by decide +kernel
theorem dX5_copyFrom_13 : decode cX5_copyFrom 13 = .ok (.putfield 41, 3) := by decide +kernel
theorem dX5_copyFrom_16 : decode cX5_copyFrom 16 = .ok (.aload_n 0, 1) := by decide +kernel
theorem dX5_copyFrom_17 : decode cX5_copyFrom 17 = .ok (.aload_n 1, 1) := by decide +kernel
theorem dX5_copyFrom_18 : decode cX5_copyFrom 18 = .ok (.getfield 44, 3) := by decide +kernel
theorem dX5_copyFrom_21 : decode cX5_copyFrom 21 = .ok (.putfield 44, 3) := by decide +kernel
theorem dX5_copyFrom_24 : decode cX5_copyFrom 24 = .ok (.aload_n 0, 1) := by decide +kernel
theorem dX5_copyFrom_25 : decode cX5_copyFrom 25 = .ok (.aload_n 1, 1) := by decide +kernel
theorem dX5_copyFrom_26 : decode cX5_copyFrom 26 = .ok (.getfield 9, 3) := by decide +kernel
theorem dX5_copyFrom_29 : decode cX5_copyFrom 29 = .ok (.putfield 9, 3) := by decide +kernel
theorem dX5_copyFrom_32 : decode cX5_copyFrom 32 = .ok (.aload_n 0, 1) := by decide +kernel
theorem dX5_copyFrom_33 : decode cX5_copyFrom 33 = .ok (.aload_n 1, 1) := by decide +kernel
theorem dX5_copyFrom_34 : decode cX5_copyFrom 34 = .ok (.getfield 15, 3) := by decide +kernel
theorem dX5_copyFrom_37 : decode cX5_copyFrom 37 = .ok (.putfield 15, 3) := by decide +kernel
theorem dX5_copyFrom_40 : decode cX5_copyFrom 40 = .ok (.aload_n 0, 1) := by decide +kernel
theorem dX5_copyFrom_41 : decode cX5_copyFrom 41 = .ok (.aload_n 1, 1) := by decide +kernel
theorem dX5_copyFrom_42 : decode cX5_copyFrom 42 = .ok (.getfield 18, 3) := by decide +kernel
theorem dX5_copyFrom_45 : decode cX5_copyFrom 45 = .ok (.putfield 18, 3) := by decide +kernel
theorem dX5_copyFrom_48 : decode cX5_copyFrom 48 = .ok (.aload_n 0, 1) := by decide +kernel
theorem dX5_copyFrom_49 : decode cX5_copyFrom 49 = .ok (.aload_n 1, 1) := by decide +kernel
theorem dX5_copyFrom_50 : decode cX5_copyFrom 50 = .ok (.getfield 21, 3) := by decide +kernel
theorem dX5_copyFrom_53 : decode cX5_copyFrom 53 = .ok (.putfield 21, 3) := by decide +kernel
theorem dX5_copyFrom_56 : decode cX5_copyFrom 56 = .ok (.aload_n 0, 1) := by decide +kernel
theorem dX5_copyFrom_57 : decode cX5_copyFrom 57 = .ok (.aload_n 1, 1) := by decide +kernel
theorem dX5_copyFrom_58 : decode cX5_copyFrom 58 = .ok (.getfield 47, 3) := by decide +kernel
theorem dX5_copyFrom_61 : decode cX5_copyFrom 61 = .ok (.putfield 47, 3) := by decide +kernel
theorem dX5_copyFrom_64 : decode cX5_copyFrom 64 = .ok (.aload_n 0, 1) := by decide +kernel
theorem dX5_copyFrom_65 : decode cX5_copyFrom 65 = .ok (.aload_n 1, 1) := by decide +kernel
theorem dX5_copyFrom_66 : decode cX5_copyFrom 66 = .ok (.getfield 50, 3) := by decide +kernel
theorem dX5_copyFrom_69 : decode cX5_copyFrom 69 = .ok (.putfield 50, 3) := by decide +kernel
theorem dX5_copyFrom_72 : decode cX5_copyFrom 72 = .ok (.aload_n 0, 1) := by decide +kernel
theorem dX5_copyFrom_73 : decode cX5_copyFrom 73 = .ok (.aload_n 1, 1) := by decide +kernel
theorem dX5_copyFrom_74 : decode cX5_copyFrom 74 = .ok (.getfield 53, 3) := by decide +kernel
theorem dX5_copyFrom_77 : decode cX5_copyFrom 77 = .ok (.putfield 53, 3) := by decide +kernel
theorem dX5_copyFrom_80 : decode cX5_copyFrom 80 = .ok (.aload_n 0, 1) := by decide +kernel
theorem dX5_copyFrom_81 : decode cX5_copyFrom 81 = .ok (.aload_n 1, 1) := by decide +kernel
theorem dX5_copyFrom_82 : decode cX5_copyFrom 82 = .ok (.getfield 56, 3) := by decide +kernel
theorem dX5_copyFrom_85 : decode cX5_copyFrom 85 = .ok (.putfield 56, 3) := by decide +kernel
theorem dX5_copyFrom_88 : decode cX5_copyFrom 88 = .ok (.aload_n 1, 1) := by decide +kernel
theorem dX5_copyFrom_89 : decode cX5_copyFrom 89 = .ok (.getfield 24, 3) := by decide +kernel
theorem dX5_copyFrom_92 : decode cX5_copyFrom 92 = .ok (.iconst 0, 1) := by decide +kernel
theorem dX5_copyFrom_93 : decode cX5_copyFrom 93 = .ok (.aload_n 0, 1) := by decide +kernel
theorem dX5_copyFrom_94 : decode cX5_copyFrom 94 = .ok (.getfield 24, 3) := by decide +kernel
theorem dX5_copyFrom_97 : decode cX5_copyFrom 97 = .ok (.iconst 0, 1) := by decide +kernel
theorem dX5_copyFrom_98 : decode cX5_copyFrom 98 = .ok (.iconst 3, 1) := by decide +kernel
theorem dX5_copyFrom_99 : decode cX5_copyFrom 99 = .ok (.invokestatic 59, 3) := by decide +kernel
theorem dX5_copyFrom_102 : decode cX5_copyFrom 102 = .ok (.aload_n 1, 1) := by decide +kernel
theorem dX5_copyFrom_103 : decode cX5_copyFrom 103 = .ok (.getfield 28, 3) := by decide +kernel
theorem dX5_copyFrom_106 : decode cX5_copyFrom 106 = .ok (.iconst 0, 1) := by decide +kernel
theorem dX5_copyFrom_107 : decode cX5_copyFrom 107 = .ok (.aload_n 0, 1) := by decide +kernel
theorem dX5_copyFrom_108 : decode cX5_copyFrom 108 = .ok (.getfield 28, 3) := by decide +kernel
theorem dX5_copyFrom_111 : decode cX5_copyFrom 111 = .ok (.iconst 0, 1) := by decide +kernel
theorem dX5_copyFrom_112 : decode cX5_copyFrom 112 = .ok (.bipush 8, 2) := by decide +kernel
theorem dX5_copyFrom_114 : decode cX5_copyFrom 114 = .ok (.invokestatic 59, 3) := by decide +kernel
theorem dX5_copyFrom_117 : decode cX5_copyFrom 117 = .ok (.aload_n 0, 1) := by decide +kernel
theorem dX5_copyFrom_118 : decode cX5_copyFrom 118 = .ok (.getfield 34, 3) := by decide +kernel
theorem dX5_copyFrom_121 : decode cX5_copyFrom 121 = .ok (.aload_n 1, 1) := by decide +kernel
theorem dX5_copyFrom_122 : decode cX5_copyFrom 122 = .ok (.getfield 34, 3) := by decide +kernel
theorem dX5_copyFrom_125 : decode cX5_copyFrom 125 = .ok (.invokevirtual 65, 3) := by decide +kernel
theorem dX5_copyFrom_128 : decode cX5_copyFrom 128 = .ok (.return_, 1) := by decide +kernel
theorem wfRX5_38 : zFl RX5 38 5 0 := ⟨_, rfl, by decide, zm_f 162 (by decide +kernel) rfl⟩
theorem wpRX5_38 : zFw RX5 38 5 0 .int := ⟨_, rfl, by decide, zm_f 162 (by decide +kernel) rfl, rfl, by decide +kernel⟩
theorem wfRX5_41 : zFl RX5 41 5 1 := ⟨_, rfl, by decide, zm_f 165 (by decide +kernel) rfl⟩
theorem wpRX5_41 : zFw RX5 41 5 1 .int := ⟨_, rfl, by decide, zm_f 165 (by decide +kernel) rfl, rfl, by decide +kernel⟩
theorem wfRX5_44 : zFl RX5 44 5 2 := ⟨_, rfl, by decide, zm_f 168 (by decide +kernel) rfl⟩
theorem wpRX5_44 : zFw RX5 44 5 2 .int := ⟨_, rfl, by decide, zm_f 168 (by decide +kernel) rfl, rfl, by decide +kernel⟩
theorem wfRX5_18 : zFl RX5 18 5 5 := ⟨_, rfl, by decide, zm_f 175 (by decide +kernel) rfl⟩
theorem wfRX5_21 : zFl RX5 21 5 6 := ⟨_, rfl, by decide, zm_f 177 (by decide +kernel) rfl⟩
theorem wpRX5_47 : zFw RX5 47 5 7 .int := ⟨_, rfl, by decide, zm_f 179 (by decide +kernel) rfl, rfl, by decide +kernel⟩
theorem wmRX5_59 : Cond.methodLink RX5 59 arraycopyName ∈ zTg := zm_f 587 (by decide +kernel) rfl
theorem wcRX5_65 : Cond.methodLink RX5 65 yX1_copyFrom ∈ zTg ∧ Cond.instanceMethod yX1_copyFrom ∈ zTg ∧ Cond.selects RX1 yX1_copyFrom yX1_copyFrom ∈ zTg ∧ Cond.initialized RX1 ∈ zTg ∧ Cond.code yX1_copyFrom cX1_copyFrom 2 none ∈ zTg := ⟨zm_f 588 (by decide +kernel) rfl, zm_f 589 (by decide +kernel) rfl, zm_f 590 (by decide +kernel) rfl, zm_f 42 (by decide +kernel) rfl, zm_f 591 (by decide +kernel) rfl⟩
theorem wy_yX1_copyFrom : yX1_copyFrom.cls = RX1 ∧ yX1_copyFrom.cls ≠ "java/lang/invoke/MethodHandle" ∧ yX1_copyFrom.cls ≠ "java/lang/invoke/VarHandle" ∧ (parseMethodDescriptor yX1_copyFrom.desc).map (fun d => d.parameters.length) = some 1 := by decide +kernel
theorem rel7 : zRel [0, 1] [(0, []), (0, [])] [(0, []), (0, [])] := by unfold zRel; decide
def fTu_copyFrom (i : Nat) (j : Nat) (s0 : zM) (s1 : zM) : Option (zM) :=
  zlet (zu s0 7 i 0 (s1 7 j 0)) fun s0_1 =>
  zlet (zu s0_1 7 i 1 (s1 7 j 1)) fun s0_2 =>
  zlet (zu s0_2 7 i 2 (s1 7 j 2)) fun s0_3 =>
  zlet (zu s0_3 7 i 3 (s1 7 j 3)) fun s0_4 =>
  zlet (zu s0_4 7 i 4 (s1 7 j 4)) fun s0_5 =>
  zlet (zu s0_5 7 i 5 (s1 7 j 5)) fun s0_6 =>
  zlet (zu s0_6 7 i 6 (s1 7 j 6)) fun s0_7 =>
  zlet (zu s0_7 7 i 7 (s1 7 j 7)) fun s0_8 =>
  zlet (zu s0_8 7 i 8 (s1 7 j 8)) fun s0_9 =>
  zlet (zu s0_9 7 i 9 (s1 7 j 9)) fun s0_10 =>
  zlet (zu s0_10 7 i 10 (s1 7 j 10)) fun s0_11 =>
  zlet (zur s0_11 8 i (va_cpy (s1 8 j) (s0_11 8 i) 0 0 3)) fun s0_12 =>
  zlet (zur s0_12 9 i (va_cpy (s1 9 j) (s0_12 9 i) 0 0 8)) fun s0_13 =>
  Option.bind (fEx_copyFrom i j s0_13 s1) fun q14 =>
  some q14
set_option maxHeartbeats 4000000 in
set_option maxRecDepth 20000 in
theorem bfTu_copyFrom {X : zX} (F : zFr X cX5_copyFrom 2 RX5 none) (i : Nat) (j : Nat) (hi : i < 8) (hj : j < 8) (s0 : zM) (s1 : zM) {κ : zM → Option zO} (hκ : ∀ a, κ a = some ((fun a => ((.inl ((fun _ => (none : Option zV)) a), (fun q => [q, s1]) a) : zO)) a)) : zZ X [(0, []), (0, [])] 2 81 2 0 [some (zr 0 7 i), some (zr 1 7 j)] [] [s0, s1] (Option.bind (fTu_copyFrom i j s0 s1) κ) := by
  unfold fTu_copyFrom
  refine zz_aload_n F (i := 0) dX5_copyFrom_0 rfl rfl ?_
  refine zz_aload_n F (i := 1) dX5_copyFrom_1 rfl rfl ?_
  refine zz_getf F dX5_copyFrom_2 wfRX5_38 zCl_5 rfl (⟨zlb rfl, zlb rfl, hj⟩) rfl (by decide) rfl rfl ?_
  refine zz_put F (Ms' := [(zu s0 7 i 0 (s1 7 j 0)), s1]) dX5_copyFrom_5 wpRX5_38 zCl_5 rfl (⟨zlb rfl, zlb rfl, hi⟩) rfl (by decide) rfl rfl rfl ?_
  refine zz_letm (Mf := fun s0_1 => [s0_1, s1]) fun s0_1 => ?_
  refine zz_aload_n F (i := 0) dX5_copyFrom_8 rfl rfl ?_
  refine zz_aload_n F (i := 1) dX5_copyFrom_9 rfl rfl ?_
  refine zz_getf F dX5_copyFrom_10 wfRX5_41 zCl_5 rfl (⟨zlb rfl, zlb rfl, hj⟩) rfl (by decide) rfl rfl ?_
  refine zz_put F (Ms' := [(zu s0_1 7 i 1 (s1 7 j 1)), s1]) dX5_copyFrom_13 wpRX5_41 zCl_5 rfl (⟨zlb rfl, zlb rfl, hi⟩) rfl (by decide) rfl rfl rfl ?_
  refine zz_letm (Mf := fun s0_2 => [s0_2, s1]) fun s0_2 => ?_
  refine zz_aload_n F (i := 0) dX5_copyFrom_16 rfl rfl ?_
  refine zz_aload_n F (i := 1) dX5_copyFrom_17 rfl rfl ?_
  refine zz_getf F dX5_copyFrom_18 wfRX5_44 zCl_5 rfl (⟨zlb rfl, zlb rfl, hj⟩) rfl (by decide) rfl rfl ?_
  refine zz_put F (Ms' := [(zu s0_2 7 i 2 (s1 7 j 2)), s1]) dX5_copyFrom_21 wpRX5_44 zCl_5 rfl (⟨zlb rfl, zlb rfl, hi⟩) rfl (by decide) rfl rfl rfl ?_
  refine zz_letm (Mf := fun s0_3 => [s0_3, s1]) fun s0_3 => ?_
  refine zz_aload_n F (i := 0) dX5_copyFrom_24 rfl rfl ?_
  refine zz_aload_n F (i := 1) dX5_copyFrom_25 rfl rfl ?_
  refine zz_getf F dX5_copyFrom_26 wfRX5_9 zCl_5 rfl (⟨zlb rfl, zlb rfl, hj⟩) rfl (by decide) rfl rfl ?_
  refine zz_put F (Ms' := [(zu s0_3 7 i 3 (s1 7 j 3)), s1]) dX5_copyFrom_29 wpRX5_9 zCl_5 rfl (⟨zlb rfl, zlb rfl, hi⟩) rfl (by decide) rfl rfl rfl ?_
  refine zz_letm (Mf := fun s0_4 => [s0_4, s1]) fun s0_4 => ?_
  refine zz_aload_n F (i := 0) dX5_copyFrom_32 rfl rfl ?_
  refine zz_aload_n F (i := 1) dX5_copyFrom_33 rfl rfl ?_
  refine zz_getf F dX5_copyFrom_34 wfRX5_15 zCl_5 rfl (⟨zlb rfl, zlb rfl, hj⟩) rfl (by decide) rfl rfl ?_
  refine zz_put F (Ms' := [(zu s0_4 7 i 4 (s1 7 j 4)), s1]) dX5_copyFrom_37 wpRX5_15 zCl_5 rfl (⟨zlb rfl, zlb rfl, hi⟩) rfl (by decide) rfl rfl rfl ?_
  refine zz_letm (Mf := fun s0_5 => [s0_5, s1]) fun s0_5 => ?_
  refine zz_aload_n F (i := 0) dX5_copyFrom_40 rfl rfl ?_
  refine zz_aload_n F (i := 1) dX5_copyFrom_41 rfl rfl ?_
  refine zz_getf F dX5_copyFrom_42 wfRX5_18 zCl_5 rfl (⟨zlb rfl, zlb rfl, hj⟩) rfl (by decide) rfl rfl ?_
  refine zz_put F (Ms' := [(zu s0_5 7 i 5 (s1 7 j 5)), s1]) dX5_copyFrom_45 wpRX5_18 zCl_5 rfl (⟨zlb rfl, zlb rfl, hi⟩) rfl (by decide) rfl rfl rfl ?_
  refine zz_letm (Mf := fun s0_6 => [s0_6, s1]) fun s0_6 => ?_
  refine zz_aload_n F (i := 0) dX5_copyFrom_48 rfl rfl ?_
  refine zz_aload_n F (i := 1) dX5_copyFrom_49 rfl rfl ?_
  refine zz_getf F dX5_copyFrom_50 wfRX5_21 zCl_5 rfl (⟨zlb rfl, zlb rfl, hj⟩) rfl (by decide) rfl rfl ?_
  refine zz_put F (Ms' := [(zu s0_6 7 i 6 (s1 7 j 6)), s1]) dX5_copyFrom_53 wpRX5_21 zCl_5 rfl (⟨zlb rfl, zlb rfl, hi⟩) rfl (by decide) rfl rfl rfl ?_
  refine zz_letm (Mf := fun s0_7 => [s0_7, s1]) fun s0_7 => ?_
  refine zz_aload_n F (i := 0) dX5_copyFrom_56 rfl rfl ?_
  refine zz_aload_n F (i := 1) dX5_copyFrom_57 rfl rfl ?_
  refine zz_getf F dX5_copyFrom_58 wfRX5_47 zCl_5 rfl (⟨zlb rfl, zlb rfl, hj⟩) rfl (by decide) rfl rfl ?_
  refine zz_put F (Ms' := [(zu s0_7 7 i 7 (s1 7 j 7)), s1]) dX5_copyFrom_61 wpRX5_47 zCl_5 rfl (⟨zlb rfl, zlb rfl, hi⟩) rfl (by decide) rfl rfl rfl ?_
  refine zz_letm (Mf := fun s0_8 => [s0_8, s1]) fun s0_8 => ?_
  refine zz_aload_n F (i := 0) dX5_copyFrom_64 rfl rfl ?_
  refine zz_aload_n F (i := 1) dX5_copyFrom_65 rfl rfl ?_
  refine zz_getf F dX5_copyFrom_66 wfRX5_50 zCl_5 rfl (⟨zlb rfl, zlb rfl, hj⟩) rfl (by decide) rfl rfl ?_
  refine zz_put F (Ms' := [(zu s0_8 7 i 8 (s1 7 j 8)), s1]) dX5_copyFrom_69 wpRX5_50 zCl_5 rfl (⟨zlb rfl, zlb rfl, hi⟩) rfl (by decide) rfl rfl rfl ?_
  refine zz_letm (Mf := fun s0_9 => [s0_9, s1]) fun s0_9 => ?_
  refine zz_aload_n F (i := 0) dX5_copyFrom_72 rfl rfl ?_
  refine zz_aload_n F (i := 1) dX5_copyFrom_73 rfl rfl ?_
  refine zz_getf F dX5_copyFrom_74 wfRX5_53 zCl_5 rfl (⟨zlb rfl, zlb rfl, hj⟩) rfl (by decide) rfl rfl ?_
  refine zz_put F (Ms' := [(zu s0_9 7 i 9 (s1 7 j 9)), s1]) dX5_copyFrom_77 wpRX5_53 zCl_5 rfl (⟨zlb rfl, zlb rfl, hi⟩) rfl (by decide) rfl rfl rfl ?_
  refine zz_letm (Mf := fun s0_10 => [s0_10, s1]) fun s0_10 => ?_
  refine zz_aload_n F (i := 0) dX5_copyFrom_80 rfl rfl ?_
  refine zz_aload_n F (i := 1) dX5_copyFrom_81 rfl rfl ?_
  refine zz_getf F dX5_copyFrom_82 wfRX5_56 zCl_5 rfl (⟨zlb rfl, zlb rfl, hj⟩) rfl (by decide) rfl rfl ?_
  refine zz_put F (Ms' := [(zu s0_10 7 i 10 (s1 7 j 10)), s1]) dX5_copyFrom_85 wpRX5_56 zCl_5 rfl (⟨zlb rfl, zlb rfl, hi⟩) rfl (by decide) rfl rfl rfl ?_
  refine zz_letm (Mf := fun s0_11 => [s0_11, s1]) fun s0_11 => ?_
  refine zz_aload_n F (i := 1) dX5_copyFrom_88 rfl rfl ?_
  refine zz_getr F dX5_copyFrom_89 wfRX5_24 zCl_5 rfl (⟨zlb rfl, zlb rfl, hj⟩) rfl (by decide) rfl (r' := 1) (by decide) ?_
  refine zz_iconst F (v := (0 : Int32)) dX5_copyFrom_92 (by decide) ?_
  refine zz_aload_n F (i := 0) dX5_copyFrom_93 rfl rfl ?_
  refine zz_getr F dX5_copyFrom_94 wfRX5_24 zCl_5 rfl (⟨zlb rfl, zlb rfl, hi⟩) rfl (by decide) rfl (r' := 0) (by decide) ?_
  refine zz_iconst F (v := (0 : Int32)) dX5_copyFrom_97 (by decide) ?_
  refine zz_iconst F (v := (3 : Int32)) dX5_copyFrom_98 (by decide) ?_
  refine zz_copy F (Ms' := [(zur s0_11 8 i (va_cpy (s1 8 j) (s0_11 8 i) 0 0 3)), s1]) dX5_copyFrom_99 wmRX5_59 wCopy rfl (⟨zlb rfl, zlb rfl, hj⟩) rfl rfl (⟨zlb rfl, zlb rfl, hi⟩) rfl (by decide) (by decide) (by decide) (Nat.le_of_ble_eq_true rfl) (Nat.le_of_ble_eq_true rfl) (Nat.le_of_ble_eq_true rfl) (Nat.le_of_ble_eq_true rfl) rfl ?_
  refine zz_letm (Mf := fun s0_12 => [s0_12, s1]) fun s0_12 => ?_
  refine zz_aload_n F (i := 1) dX5_copyFrom_102 rfl rfl ?_
  refine zz_getr F dX5_copyFrom_103 wfRX5_28 zCl_5 rfl (⟨zlb rfl, zlb rfl, hj⟩) rfl (by decide) rfl (r' := 1) (by decide) ?_
  refine zz_iconst F (v := (0 : Int32)) dX5_copyFrom_106 (by decide) ?_
  refine zz_aload_n F (i := 0) dX5_copyFrom_107 rfl rfl ?_
  refine zz_getr F dX5_copyFrom_108 wfRX5_28 zCl_5 rfl (⟨zlb rfl, zlb rfl, hi⟩) rfl (by decide) rfl (r' := 0) (by decide) ?_
  refine zz_iconst F (v := (0 : Int32)) dX5_copyFrom_111 (by decide) ?_
  refine zz_bipush F (v := (8 : Int32)) dX5_copyFrom_112 (by decide) ?_
  refine zz_copy F (Ms' := [(zur s0_12 9 i (va_cpy (s1 9 j) (s0_12 9 i) 0 0 8)), s1]) dX5_copyFrom_114 wmRX5_59 wCopy rfl (⟨zlb rfl, zlb rfl, hj⟩) rfl rfl (⟨zlb rfl, zlb rfl, hi⟩) rfl (by decide) (by decide) (by decide) (Nat.le_of_ble_eq_true rfl) (Nat.le_of_ble_eq_true rfl) (Nat.le_of_ble_eq_true rfl) (Nat.le_of_ble_eq_true rfl) rfl ?_
  refine zz_letm (Mf := fun s0_13 => [s0_13, s1]) fun s0_13 => ?_
  refine zz_aload_n F (i := 0) dX5_copyFrom_117 rfl rfl ?_
  refine zz_getr F dX5_copyFrom_118 wfRX5_34 zCl_5 rfl (⟨zlb rfl, zlb rfl, hi⟩) rfl (by decide) rfl (r' := 0) (by decide) ?_
  refine zz_aload_n F (i := 1) dX5_copyFrom_121 rfl rfl ?_
  refine zz_getr F dX5_copyFrom_122 wfRX5_34 zCl_5 rfl (⟨zlb rfl, zlb rfl, hj⟩) rfl (by decide) rfl (r' := 1) (by decide) ?_
  refine zz_bind ?_
  refine zz_callVr F (ρ := [0, 1]) (so := fun q14 => []) (Mo := fun q14 => [q14, s1]) (zfEx_copyFrom i j hi hj s0_13 s1) dX5_copyFrom_125 wcRX5_65 wy_yX1_copyFrom rfl ⟨rel7, rfl, rfl, Nat.le_of_ble_eq_true rfl, Nat.le_of_ble_eq_true rfl, Nat.le_of_ble_eq_true rfl⟩ (⟨zlb rfl, zlb rfl, hi⟩) rfl rfl rfl (fun _ => rfl) (fun _ => rfl) fun q14 => ?_
  exact zz_return F dX5_copyFrom_128 rfl (hκ _)
theorem zfTu_copyFrom (i : Nat) (j : Nat) (hi : i < 8) (hj : j < 8) (s0 : zM) (s1 : zM) : ∀ a, fTu_copyFrom i j s0 s1 = some a → zMet yX5_copyFrom cX5_copyFrom 2 none 2 81 [(0, []), (0, [])] [zr 0 7 i, zr 1 7 j] [s0, s1] ((fun a => ((.inl ((fun _ => (none : Option zV)) a), (fun q => [q, s1]) a) : zO)) a) := fun a ha => zMet_of (L0 := [some (zr 0 7 i), some (zr 1 7 j)]) (φ := Option.bind (fTu_copyFrom i j s0 s1) (fun a => some ((fun a => ((.inl ((fun _ => (none : Option zV)) a), (fun q => [q, s1]) a) : zO)) a))) (by decide) (fun _ => Nat.le_of_ble_eq_true rfl) (zl0 0 rfl) (fun X F => bfTu_copyFrom F i j hi hj s0 s1 (fun _ => rfl)) (by rw [ha]; rfl)
