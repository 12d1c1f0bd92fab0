theorem dX9_bestTurn_0 : decode cX9_bestTurn 0 = .ok (.aload_n 0, 1) := by decide +kernel
theorem dX9_bestTurn_1 : decode cX9_bestTurn 1 = .ok (.iload_n 1, 1) := by decide +kernel
theorem dX9_bestTurn_2 : decode cX9_bestTurn 2 = .ok (.invokevirtual 113, 3) := by decide +kernel
theorem dX9_bestTurn_5 : decode cX9_bestTurn 5 = .ok (.iconst 0, 1) := by decide +kernel
theorem dX9_bestTurn_6 : decode cX9_bestTurn 6 = .ok (.istore_n 2, 1) := by decide +kernel
theorem dX9_bestTurn_7 : decode cX9_bestTurn 7 = .ok (.iconst (-1), 1) := by decide +kernel
theorem dX9_bestTurn_8 : decode cX9_bestTurn 8 = .ok (.istore_n 3, 1) := by decide +kernel
theorem dX9_bestTurn_9 : decode cX9_bestTurn 9 = .ok (.iconst 0, 1) := by decide +kernel
theorem dX9_bestTurn_10 : decode cX9_bestTurn 10 = .ok (.istore 4, 2) := by decide +kernel
theorem dX9_bestTurn_12 : decode cX9_bestTurn 12 = .ok (.iload 4, 2) := by decide +kernel
theorem dX9_bestTurn_14 : decode cX9_bestTurn 14 = .ok (.getstatic 314, 3) := by decide +kernel
theorem dX9_bestTurn_17 : decode cX9_bestTurn 17 = .ok (.arraylength, 1) := by decide +kernel
theorem dX9_bestTurn_18 : decode cX9_bestTurn 18 = .ok (.if_icmp .ge 63, 3) := by decide +kernel
theorem dX9_bestTurn_21 : decode cX9_bestTurn 21 = .ok (.aload_n 0, 1) := by decide +kernel
theorem dX9_bestTurn_22 : decode cX9_bestTurn 22 = .ok (.getfield 16, 3) := by decide +kernel
theorem dX9_bestTurn_25 : decode cX9_bestTurn 25 = .ok (.aload_n 0, 1) := by decide +kernel
theorem dX9_bestTurn_26 : decode cX9_bestTurn 26 = .ok (.getfield 10, 3) := by decide +kernel
theorem dX9_bestTurn_29 : decode cX9_bestTurn 29 = .ok (.invokevirtual 310, 3) := by decide +kernel
theorem dX9_bestTurn_32 : decode cX9_bestTurn 32 = .ok (.aload_n 0, 1) := by decide +kernel
theorem dX9_bestTurn_33 : decode cX9_bestTurn 33 = .ok (.getfield 16, 3) := by decide +kernel
theorem dX9_bestTurn_36 : decode cX9_bestTurn 36 = .ok (.getfield 118, 3) := by decide +kernel
theorem dX9_bestTurn_39 : decode cX9_bestTurn 39 = .ok (.iload_n 1, 1) := by decide +kernel
theorem dX9_bestTurn_40 : decode cX9_bestTurn 40 = .ok (.aaload, 1) := by decide +kernel
theorem dX9_bestTurn_41 : decode cX9_bestTurn 41 = .ok (.getstatic 314, 3) := by decide +kernel
theorem dX9_bestTurn_44 : decode cX9_bestTurn 44 = .ok (.iload 4, 2) := by decide +kernel
theorem dX9_bestTurn_46 : decode cX9_bestTurn 46 = .ok (.iaload, 1) := by decide +kernel
theorem dX9_bestTurn_47 : decode cX9_bestTurn 47 = .ok (.putfield 122, 3) := by decide +kernel
theorem dX9_bestTurn_50 : decode cX9_bestTurn 50 = .ok (.aload_n 0, 1) := by decide +kernel
theorem dX9_bestTurn_51 : decode cX9_bestTurn 51 = .ok (.getfield 16, 3) := by decide +kernel
theorem dX9_bestTurn_54 : decode cX9_bestTurn 54 = .ok (.invokevirtual 317, 3) := by decide +kernel
theorem dX9_bestTurn_57 : decode cX9_bestTurn 57 = .ok (.istore 5, 2) := by decide +kernel
theorem dX9_bestTurn_59 : decode cX9_bestTurn 59 = .ok (.iload 5, 2) := by decide +kernel
theorem dX9_bestTurn_61 : decode cX9_bestTurn 61 = .ok (.iload_n 3, 1) := by decide +kernel
theorem dX9_bestTurn_62 : decode cX9_bestTurn 62 = .ok (.if_icmp .le 13, 3) := by decide +kernel
theorem dX9_bestTurn_65 : decode cX9_bestTurn 65 = .ok (.iload 5, 2) := by decide +kernel
theorem dX9_bestTurn_67 : decode cX9_bestTurn 67 = .ok (.istore_n 3, 1) := by decide +kernel
theorem dX9_bestTurn_68 : decode cX9_bestTurn 68 = .ok (.getstatic 314, 3) := by decide +kernel
theorem dX9_bestTurn_71 : decode cX9_bestTurn 71 = .ok (.iload 4, 2) := by decide +kernel
theorem dX9_bestTurn_73 : decode cX9_bestTurn 73 = .ok (.iaload, 1) := by decide +kernel
theorem dX9_bestTurn_74 : decode cX9_bestTurn 74 = .ok (.istore_n 2, 1) := by decide +kernel
theorem dX9_bestTurn_75 : decode cX9_bestTurn 75 = .ok (.iinc 4 1, 3) := by decide +kernel
theorem dX9_bestTurn_78 : decode cX9_bestTurn 78 = .ok (.goto (-66), 3) := by decide +kernel
theorem dX9_bestTurn_81 : decode cX9_bestTurn 81 = .ok (.iload_n 2, 1) := by decide +kernel
theorem dX9_bestTurn_82 : decode cX9_bestTurn 82 = .ok (.ireturn, 1) := by decide +kernel
theorem wgRX9_314 : Cond.fieldLink RX9 314 "WakeBanks" "TURNS" "[I" ∈ zTg := zm_f 343 (by decide +kernel) rfl
theorem wcRX9_317 : Cond.methodLink RX9 317 yX3_passHour ∈ zTg ∧ Cond.instanceMethod yX3_passHour ∈ zTg ∧ Cond.selects RX3 yX3_passHour yX3_passHour ∈ zTg ∧ Cond.initialized RX3 ∈ zTg ∧ Cond.code yX3_passHour cX3_passHour 4 (some .int) ∈ zTg := ⟨zm_f 345 (by decide +kernel) rfl, zm_f 125 (by decide +kernel) rfl, zm_f 126 (by decide +kernel) rfl, zm_f 22 (by decide +kernel) rfl, zm_f 127 (by decide +kernel) rfl⟩
def fWB_bestTurn_l12 (a1 : Int32) (s1 : zM) (q2 : Int32 × Int32 × Int32 × zM) : Option ((Int32 × Int32 × Int32 × zM) ⊕ ((Int32 × zM))) :=
  if (5 : Int32) ≤ q2.2.2.1 then
  some (.inr (q2.1, q2.2.2.2))
else
  Option.bind (fSe_copyFrom q2.2.2.2 s1) fun q4 =>
    zix a1 8 fun j5 =>
    zix q2.2.2.1 5 fun j6 =>
    zlet (zu q4 7 j5 7 (zk4.getD j6 0)) fun s2_7 =>
    Option.bind (fSe_passHour s2_7) fun q8 =>
    Option.bind (if q8.1 ≤ q2.2.1 then
    some (q2.1, q2.2.1)
  else
    zix q2.2.2.1 5 fun j13 =>
      zlet ((zk4.getD j13 0)) fun v14 =>
      some (v14, q8.1)) fun q9 =>
    zlet (q2.2.2.1 + 1) fun v15 =>
    some (.inl (q9.1, q9.2, v15, q8.2))
def fWB_bestTurn (a1 : Int32) (s0 : zM) (s1 : zM) (s2 : zM) (s3 : zM) : Option ((Int32 × zM) ⊕ (String × zM)) :=
  Option.bind (fWB_checkTurbine a1 s0 s1 s2 s3) (Sum.elim (fun (_ : Unit) =>
  Option.bind (ziter (fWB_bestTurn_l12 a1 s1) 1000 ((0 : Int32), (-1 : Int32), (0 : Int32), s2)) fun q3 =>
  some (.inl (q3.1, q3.2))) (fun b => some (.inr (b, s2))))
set_option maxHeartbeats 4000000 in
set_option maxRecDepth 20000 in
theorem bfWB_bestTurn_l12 {X : zX} (F : zFr X cX9_bestTurn 6 RX9 (some .int)) (a1 : Int32) (s1 : zM) (s0 : zM) (s3 : zM)  {ψ : (Int32 × Int32 × Int32 × zM) ⊕ ((Int32 × zM)) → Option zO} (h1 : ∀ q2 : Int32 × Int32 × Int32 × zM, zZ X [(2, [1, 2, 3]), (0, []), (0, []), (1, [])] 7 124 6 12 [some (zr 0 0 0), some (zi a1), some (zi q2.1), some (zi q2.2.1), some (zi q2.2.2.1), none] [] [s0, s1, q2.2.2.2, s3] (ψ (.inl q2))) (h2 : ∀ q3 : Int32 × zM, zZ X [(2, [1, 2, 3]), (0, []), (0, []), (1, [])] 7 124 6 81 [none, none, some (zi q3.1), none, none, none] [] [s0, s1, q3.2, s3] (ψ (.inr q3))) (q2 : Int32 × Int32 × Int32 × zM) : zZ X [(2, [1, 2, 3]), (0, []), (0, []), (1, [])] 7 124 6 12 [some (zr 0 0 0), some (zi a1), some (zi q2.1), some (zi q2.2.1), some (zi q2.2.2.1), none] [] [s0, s1, q2.2.2.2, s3] (Option.bind (fWB_bestTurn_l12 a1 s1 q2) ψ) := by
  unfold fWB_bestTurn_l12
  refine zz_iload F (i := 4) dX9_bestTurn_12 rfl ?_
  refine zz_gets F (j := 4) (q := zst4) dX9_bestTurn_14 rfl wgRX9_314 ?_
  refine zz_tlen F (j := 4) (q := zst4) (v := (5 : Int32)) dX9_bestTurn_17 rfl rfl (by decide) ?_
  refine zz_icmp_ge F (tgt := 81) dX9_bestTurn_18 (by decide) (fun h => zz_t h ?_) (fun h => zz_f h ?_)
  · exact zz_sub (zs_n (zs_n (zs_k (zs_n (zs_n (zs_k zs_z)))))) (h2 (q2.1, q2.2.2.2))
  · refine zz_aload_n F (i := 0) dX9_bestTurn_21 rfl rfl ?_
    refine zz_getr F dX9_bestTurn_22 wfRX9_16 zCl_8 rfl (⟨zlb rfl, zlb rfl, zlb rfl⟩) rfl (by decide) rfl (r' := 2) (by decide) ?_
    refine zz_aload_n F (i := 0) dX9_bestTurn_25 rfl rfl ?_
    refine zz_getr F dX9_bestTurn_26 wfRX9_10 zCl_8 rfl (⟨zlb rfl, zlb rfl, zlb rfl⟩) rfl (by decide) rfl (r' := 1) (by decide) ?_
    refine zz_bind ?_
    refine zz_callVr F (ρ := [2, 1]) (so := fun q4 => []) (Mo := fun q4 => [s0, s1, q4, s3]) (zfSe_copyFrom q2.2.2.2 s1) dX9_bestTurn_29 wcRX9_310 wy_yX3_copyFrom rfl ⟨rel8, rfl, rfl, Nat.le_of_ble_eq_true rfl, Nat.le_of_ble_eq_true rfl, Nat.le_of_ble_eq_true rfl⟩ (⟨zlb rfl, zlb rfl, zlb rfl⟩) rfl rfl rfl (fun _ => rfl) (fun _ => rfl) fun q4 => ?_
    refine zz_aload_n F (i := 0) dX9_bestTurn_32 rfl rfl ?_
    refine zz_getr F dX9_bestTurn_33 wfRX9_16 zCl_8 rfl (⟨zlb rfl, zlb rfl, zlb rfl⟩) rfl (by decide) rfl (r' := 2) (by decide) ?_
    refine zz_getr F dX9_bestTurn_36 wfRX9_118 zCl_3 rfl (⟨zlb rfl, zlb rfl, zlb rfl⟩) rfl (by decide) rfl (r' := 2) (by decide) ?_
    refine zz_iload_n F (i := 1) dX9_bestTurn_39 rfl rfl ?_
    refine zz_ix fun j5 hj5 hinj5 hej5 => zz_aal F dX9_bestTurn_40 rfl (⟨zlb rfl, zlb rfl, zlb rfl⟩) rfl (by decide) rfl hinj5 hej5 rfl ?_
    refine zz_gets F (j := 4) (q := zst4) dX9_bestTurn_41 rfl wgRX9_314 ?_
    refine zz_iload F (i := 4) dX9_bestTurn_44 rfl ?_
    refine zz_ix fun j6 hj6 hinj6 hej6 => zz_tld F (j := 4) (q := zst4) dX9_bestTurn_46 rfl rfl hinj6 hej6 ?_
    refine zz_put F (Ms' := [s0, s1, (zu q4 7 j5 7 (zk4.getD j6 0)), s3]) dX9_bestTurn_47 wpRX9_122 zCl_5 rfl (⟨zlb rfl, zlb rfl, hj5⟩) rfl (by decide) rfl rfl rfl ?_
    refine zz_letm (Mf := fun s2_7 => [s0, s1, s2_7, s3]) fun s2_7 => ?_
    refine zz_aload_n F (i := 0) dX9_bestTurn_50 rfl rfl ?_
    refine zz_getr F dX9_bestTurn_51 wfRX9_16 zCl_8 rfl (⟨zlb rfl, zlb rfl, zlb rfl⟩) rfl (by decide) rfl (r' := 2) (by decide) ?_
    refine zz_bind ?_
    refine zz_callVr F (ρ := [2]) (so := fun q8 => [zi q8.1]) (Mo := fun q8 => [s0, s1, q8.2, s3]) (zfSe_passHour s2_7) dX9_bestTurn_54 wcRX9_317 wy_yX3_passHour rfl ⟨rel9, rfl, rfl, Nat.le_of_ble_eq_true rfl, Nat.le_of_ble_eq_true rfl, Nat.le_of_ble_eq_true rfl⟩ (⟨zlb rfl, zlb rfl, zlb rfl⟩) rfl rfl rfl (fun _ => rfl) (fun _ => rfl) fun q8 => ?_
    refine zz_istore F (i := 5) (L' := [some (zr 0 0 0), some (zi a1), some (zi q2.1), some (zi q2.2.1), some (zi q2.2.2.1), some (zi q8.1)]) dX9_bestTurn_57 (by decide) rfl rfl ?_
    refine zz_iload F (i := 5) dX9_bestTurn_59 rfl ?_
    refine zz_iload_n F (i := 3) dX9_bestTurn_61 rfl rfl ?_
    refine zz_join (pj := 75) (Lj := fun q9 => [some (zr 0 0 0), some (zi a1), some (zi q9.1), some (zi q9.2), some (zi q2.2.2.1), none]) (Sj := fun q9 => []) (Mj := fun q9 => [s0, s1, q8.2, s3]) (fun q9 => ?_) (fun κ11 hj10 => ?_)
    · refine zz_iinc F (i := 4) (v := q2.2.2.1 + 1) (L' := [some (zr 0 0 0), some (zi a1), some (zi q9.1), some (zi q9.2), some (zi (q2.2.2.1 + 1)), none]) dX9_bestTurn_75 rfl (by first | rfl | decide) (by decide) rfl rfl ?_
      refine zz_letl (Lf := fun v15 => [some (zr 0 0 0), some (zi a1), some (zi q9.1), some (zi q9.2), some (zi v15), none]) fun v15 => ?_
      refine zz_goto F (tgt := 12) dX9_bestTurn_78 (by decide) ?_
      exact zz_sub (zs_k (zs_k (zs_k (zs_k (zs_k (zs_k zs_z)))))) (h1 (q9.1, q9.2, v15, q8.2))
    · refine zz_icmp_le F (tgt := 75) dX9_bestTurn_62 (by decide) (fun h => zz_t h ?_) (fun h => zz_f h ?_)
      · exact zz_sub (zs_k (zs_k (zs_k (zs_k (zs_k (zs_n zs_z)))))) (hj10 (q2.1, q2.2.1))
      · refine zz_iload F (i := 5) dX9_bestTurn_65 rfl ?_
        refine zz_istore_n F (i := 3) (L' := [some (zr 0 0 0), some (zi a1), some (zi q2.1), some (zi q8.1), some (zi q2.2.2.1), some (zi q8.1)]) dX9_bestTurn_67 rfl (by decide) rfl rfl ?_
        refine zz_gets F (j := 4) (q := zst4) dX9_bestTurn_68 rfl wgRX9_314 ?_
        refine zz_iload F (i := 4) dX9_bestTurn_71 rfl ?_
        refine zz_ix fun j13 hj13 hinj13 hej13 => zz_tld F (j := 4) (q := zst4) dX9_bestTurn_73 rfl rfl hinj13 hej13 ?_
        refine zz_istore_n F (i := 2) (L' := [some (zr 0 0 0), some (zi a1), some (zi (zk4.getD j13 0)), some (zi q8.1), some (zi q2.2.2.1), some (zi q8.1)]) dX9_bestTurn_74 rfl (by decide) rfl rfl ?_
        refine zz_letl (Lf := fun v14 => [some (zr 0 0 0), some (zi a1), some (zi v14), some (zi q8.1), some (zi q2.2.2.1), some (zi q8.1)]) fun v14 => ?_
        exact zz_sub (zs_k (zs_k (zs_k (zs_k (zs_k (zs_n zs_z)))))) (hj10 (v14, q8.1))
set_option maxHeartbeats 4000000 in
set_option maxRecDepth 20000 in
theorem bfWB_bestTurn {X : zX} (F : zFr X cX9_bestTurn 6 RX9 (some .int)) (a1 : Int32)  (s0 : zM) (s1 : zM) (s2 : zM) (s3 : zM) {κ : (Int32 × zM) ⊕ (String × zM) → Option zO} (hκ : ∀ a, κ a = some ((zts (fun q => some (zi q.1)) (fun q => [s0, s1, q.2, s3]) (fun b => b.1) (fun b => [s0, s1, b.2, s3])) a)) : zZ X [(2, [1, 2, 3]), (0, []), (0, []), (1, [])] 7 124 6 0 [some (zr 0 0 0), some (zi a1), none, none, none, none] [] [s0, s1, s2, s3] (Option.bind (fWB_bestTurn a1 s0 s1 s2 s3) κ) := by
  unfold fWB_bestTurn
  refine zz_aload_n F (i := 0) dX9_bestTurn_0 rfl rfl ?_
  refine zz_iload_n F (i := 1) dX9_bestTurn_1 rfl rfl ?_
  refine zz_bind ?_
  refine zz_callVx F (ρ := [0, 1, 2, 3]) (so := fun _ => []) (Mo := fun _ => [s0, s1, s2, s3]) (Xo := fun _ => [s0, s1, s2, s3]) (zfWB_checkTurbine a1 s0 s1 s2 s3) dX9_bestTurn_2 wcRX9_113 wy_yX9_checkTurbine rfl ⟨rel2, rfl, rfl, Nat.le_of_ble_eq_true rfl, Nat.le_of_ble_eq_true rfl, Nat.le_of_ble_eq_true rfl⟩ (⟨zlb rfl, zlb rfl, zlb rfl⟩) rfl rfl rfl (fun _ => rfl) (fun _ => rfl) (fun _ => rfl) (fun _ => (hκ _)) fun _ => ?_
  dsimp only [Sum.elim_inl]
  refine zz_iconst F (v := (0 : Int32)) dX9_bestTurn_5 (by decide) ?_
  refine zz_istore_n F (i := 2) (L' := [some (zr 0 0 0), some (zi a1), some (zi (0 : Int32)), none, none, none]) dX9_bestTurn_6 rfl (by decide) rfl rfl ?_
  refine zz_iconst F (v := (-1 : Int32)) dX9_bestTurn_7 (by decide) ?_
  refine zz_istore_n F (i := 3) (L' := [some (zr 0 0 0), some (zi a1), some (zi (0 : Int32)), some (zi (-1 : Int32)), none, none]) dX9_bestTurn_8 rfl (by decide) rfl rfl ?_
  refine zz_iconst F (v := (0 : Int32)) dX9_bestTurn_9 (by decide) ?_
  refine zz_istore F (i := 4) (L' := [some (zr 0 0 0), some (zi a1), some (zi (0 : Int32)), some (zi (-1 : Int32)), some (zi (0 : Int32)), none]) dX9_bestTurn_10 (by decide) rfl rfl ?_
  refine zz_sub (zs_k (zs_k (zs_k (zs_k (zs_k (zs_k zs_z)))))) ?_
  refine zz_bind ?_
  refine zz_iter (Lf := fun q2 => [some (zr 0 0 0), some (zi a1), some (zi q2.1), some (zi q2.2.1), some (zi q2.2.2.1), none]) (Mf := fun q2 => [s0, s1, q2.2.2.2, s3]) (fun q2 _ e16 e17 => bfWB_bestTurn_l12 F a1 s1 s0 s3  e16 (fun q3 => ?_)  q2) 1000 ((0 : Int32), (-1 : Int32), (0 : Int32), s2)
  rw [e17]
  refine zz_iload_n F (i := 2) dX9_bestTurn_81 rfl rfl ?_
  exact zz_ireturn F dX9_bestTurn_82 rfl (hκ _)
theorem zfWB_bestTurn (a1 : Int32)  (s0 : zM) (s1 : zM) (s2 : zM) (s3 : zM) : ∀ a, fWB_bestTurn a1 s0 s1 s2 s3 = some a → zMet yX9_bestTurn cX9_bestTurn 6 (some .int) 7 124 [(2, [1, 2, 3]), (0, []), (0, []), (1, [])] [zr 0 0 0, zi a1] [s0, s1, s2, s3] ((zts (fun q => some (zi q.1)) (fun q => [s0, s1, q.2, s3]) (fun b => b.1) (fun b => [s0, s1, b.2, s3])) a) := fun a ha => zMet_of (L0 := [some (zr 0 0 0), some (zi a1), none, none, none, none]) (φ := Option.bind (fWB_bestTurn a1 s0 s1 s2 s3) (fun a => some ((zts (fun q => some (zi q.1)) (fun q => [s0, s1, q.2, s3]) (fun b => b.1) (fun b => [s0, s1, b.2, s3])) a))) (by decide) (fun _ => Nat.le_of_ble_eq_true rfl) (zl0 4 rfl) (fun X F => bfWB_bestTurn F a1 s0 s1 s2 s3 (fun _ => rfl)) (by rw [ha]; rfl)

theorem dX4_takeDeficits_0 : decode cX4_takeDeficits 0 = .ok (.iconst 0, 1) := by decide +kernel
theorem dX4_takeDeficits_1 : decode cX4_takeDeficits 1 = .ok (.istore_n 3, 1) := by decide +kernel
theorem dX4_takeDeficits_2 : decode cX4_takeDeficits 2 = .ok (.iload_n 3, 1) := by decide +kernel
theorem dX4_takeDeficits_3 : decode cX4_takeDeficits 3 = .ok (.aload_n 1, 1) := by decide +kernel
theorem dX4_takeDeficits_4 : decode cX4_takeDeficits 4 = .ok (.getfield 32, 3) := by decide +kernel
theorem dX4_takeDeficits_7 : decode cX4_takeDeficits 7 = .ok (.if_icmp .ge 128, 3) := by decide +kernel
theorem dX4_takeDeficits_10 : decode cX4_takeDeficits 10 = .ok (.iload_n 2, 1) := by decide +kernel
theorem dX4_takeDeficits_11 : decode cX4_takeDeficits 11 = .ok (.bipush 8, 2) := by decide +kernel
theorem dX4_takeDeficits_13 : decode cX4_takeDeficits 13 = .ok (.imul, 1) := by decide +kernel
theorem dX4_takeDeficits_14 : decode cX4_takeDeficits 14 = .ok (.iload_n 3, 1) := by decide +kernel
theorem dX4_takeDeficits_15 : decode cX4_takeDeficits 15 = .ok (.iadd, 1) := by decide +kernel
theorem dX4_takeDeficits_16 : decode cX4_takeDeficits 16 = .ok (.istore 4, 2) := by decide +kernel
theorem dX4_takeDeficits_18 : decode cX4_takeDeficits 18 = .ok (.aload_n 0, 1) := by decide +kernel
theorem dX4_takeDeficits_19 : decode cX4_takeDeficits 19 = .ok (.getfield 9, 3) := by decide +kernel
theorem dX4_takeDeficits_22 : decode cX4_takeDeficits 22 = .ok (.iload 4, 2) := by decide +kernel
theorem dX4_takeDeficits_24 : decode cX4_takeDeficits 24 = .ok (.iconst 0, 1) := by decide +kernel
theorem dX4_takeDeficits_25 : decode cX4_takeDeficits 25 = .ok (.iastore, 1) := by decide +kernel
theorem dX4_takeDeficits_26 : decode cX4_takeDeficits 26 = .ok (.aload_n 0, 1) := by decide +kernel
theorem dX4_takeDeficits_27 : decode cX4_takeDeficits 27 = .ok (.getfield 15, 3) := by decide +kernel
theorem dX4_takeDeficits_30 : decode cX4_takeDeficits 30 = .ok (.iload 4, 2) := by decide +kernel
theorem dX4_takeDeficits_32 : decode cX4_takeDeficits 32 = .ok (.iconst 0, 1) := by decide +kernel
theorem dX4_takeDeficits_33 : decode cX4_takeDeficits 33 = .ok (.iastore, 1) := by decide +kernel
theorem dX4_takeDeficits_34 : decode cX4_takeDeficits 34 = .ok (.iconst 0, 1) := by decide +kernel
theorem dX4_takeDeficits_35 : decode cX4_takeDeficits 35 = .ok (.istore 5, 2) := by decide +kernel
theorem dX4_takeDeficits_37 : decode cX4_takeDeficits 37 = .ok (.iload 5, 2) := by decide +kernel
theorem dX4_takeDeficits_39 : decode cX4_takeDeficits 39 = .ok (.aload_n 1, 1) := by decide +kernel
theorem dX4_takeDeficits_40 : decode cX4_takeDeficits 40 = .ok (.getfield 32, 3) := by decide +kernel
theorem dX4_takeDeficits_43 : decode cX4_takeDeficits 43 = .ok (.if_icmp .ge 86, 3) := by decide +kernel
theorem dX4_takeDeficits_46 : decode cX4_takeDeficits 46 = .ok (.aload_n 1, 1) := by decide +kernel
theorem dX4_takeDeficits_47 : decode cX4_takeDeficits 47 = .ok (.getfield 36, 3) := by decide +kernel
theorem dX4_takeDeficits_50 : decode cX4_takeDeficits 50 = .ok (.iload 5, 2) := by decide +kernel
theorem dX4_takeDeficits_52 : decode cX4_takeDeficits 52 = .ok (.aaload, 1) := by decide +kernel
theorem dX4_takeDeficits_53 : decode cX4_takeDeficits 53 = .ok (.astore 6, 2) := by decide +kernel
theorem dX4_takeDeficits_55 : decode cX4_takeDeficits 55 = .ok (.aload_n 1, 1) := by decide +kernel
theorem dX4_takeDeficits_56 : decode cX4_takeDeficits 56 = .ok (.getfield 36, 3) := by decide +kernel
theorem dX4_takeDeficits_59 : decode cX4_takeDeficits 59 = .ok (.iload_n 3, 1) := by decide +kernel
theorem dX4_takeDeficits_60 : decode cX4_takeDeficits 60 = .ok (.aaload, 1) := by decide +kernel
theorem dX4_takeDeficits_61 : decode cX4_takeDeficits 61 = .ok (.getfield 40, 3) := by decide +kernel
theorem dX4_takeDeficits_64 : decode cX4_takeDeficits 64 = .ok (.aload 6, 2) := by decide +kernel
theorem dX4_takeDeficits_66 : decode cX4_takeDeficits 66 = .ok (.getfield 40, 3) := by decide +kernel
theorem dX4_takeDeficits_69 : decode cX4_takeDeficits 69 = .ok (.isub, 1) := by decide +kernel
theorem dX4_takeDeficits_70 : decode cX4_takeDeficits 70 = .ok (.aload_n 1, 1) := by decide +kernel
theorem dX4_takeDeficits_71 : decode cX4_takeDeficits 71 = .ok (.getfield 36, 3) := by decide +kernel
theorem dX4_takeDeficits_74 : decode cX4_takeDeficits 74 = .ok (.iload_n 3, 1) := by decide +kernel
theorem dX4_takeDeficits_75 : decode cX4_takeDeficits 75 = .ok (.aaload, 1) := by decide +kernel
theorem dX4_takeDeficits_76 : decode cX4_takeDeficits 76 = .ok (.getfield 45, 3) := by decide +kernel
theorem dX4_takeDeficits_79 : decode cX4_takeDeficits 79 = .ok (.aload 6, 2) := by decide +kernel
theorem dX4_takeDeficits_81 : decode cX4_takeDeficits 81 = .ok (.getfield 45, 3) := by decide +kernel
theorem dX4_takeDeficits_84 : decode cX4_takeDeficits 84 = .ok (.isub, 1) := by decide +kernel
theorem dX4_takeDeficits_85 : decode cX4_takeDeficits 85 = .ok (.iconst 0, 1) := by decide +kernel
theorem dX4_takeDeficits_86 : decode cX4_takeDeficits 86 = .ok (.iload_n 2, 1) := by decide +kernel
theorem dX4_takeDeficits_87 : decode cX4_takeDeficits 87 = .ok (.invokestatic 48, 3) := by decide +kernel
theorem dX4_takeDeficits_90 : decode cX4_takeDeficits 90 = .ok (.istore 7, 2) := by decide +kernel
theorem dX4_takeDeficits_92 : decode cX4_takeDeficits 92 = .ok (.aload_n 0, 1) := by decide +kernel
theorem dX4_takeDeficits_93 : decode cX4_takeDeficits 93 = .ok (.getfield 9, 3) := by decide +kernel
theorem dX4_takeDeficits_96 : decode cX4_takeDeficits 96 = .ok (.iload 4, 2) := by decide +kernel
theorem dX4_takeDeficits_98 : decode cX4_takeDeficits 98 = .ok (.aload_n 0, 1) := by decide +kernel
theorem dX4_takeDeficits_99 : decode cX4_takeDeficits 99 = .ok (.getfield 9, 3) := by decide +kernel
theorem dX4_takeDeficits_102 : decode cX4_takeDeficits 102 = .ok (.iload 4, 2) := by decide +kernel
theorem dX4_takeDeficits_104 : decode cX4_takeDeficits 104 = .ok (.iaload, 1) := by decide +kernel
theorem dX4_takeDeficits_105 : decode cX4_takeDeficits 105 = .ok (.iload 7, 2) := by decide +kernel
theorem dX4_takeDeficits_107 : decode cX4_takeDeficits 107 = .ok (.invokestatic 54, 3) := by decide +kernel
theorem dX4_takeDeficits_110 : decode cX4_takeDeficits 110 = .ok (.iastore, 1) := by decide +kernel
theorem dX4_takeDeficits_111 : decode cX4_takeDeficits 111 = .ok (.aload_n 0, 1) := by decide +kernel
theorem dX4_takeDeficits_112 : decode cX4_takeDeficits 112 = .ok (.getfield 15, 3) := by decide +kernel
theorem dX4_takeDeficits_115 : decode cX4_takeDeficits 115 = .ok (.iload 4, 2) := by decide +kernel
theorem dX4_takeDeficits_117 : decode cX4_takeDeficits 117 = .ok (.dup2, 1) := by decide +kernel
theorem dX4_takeDeficits_118 : decode cX4_takeDeficits 118 = .ok (.iaload, 1) := by decide +kernel
theorem dX4_takeDeficits_119 : decode cX4_takeDeficits 119 = .ok (.iload 7, 2) := by decide +kernel
theorem dX4_takeDeficits_121 : decode cX4_takeDeficits 121 = .ok (.iadd, 1) := by decide +kernel
theorem dX4_takeDeficits_122 : decode cX4_takeDeficits 122 = .ok (.iastore, 1) := by decide +kernel
theorem dX4_takeDeficits_123 : decode cX4_takeDeficits 123 = .ok (.iinc 5 1, 3) := by decide +kernel
theorem dX4_takeDeficits_126 : decode cX4_takeDeficits 126 = .ok (.goto (-89), 3) := by decide +kernel
theorem dX4_takeDeficits_129 : decode cX4_takeDeficits 129 = .ok (.iinc 3 1, 3) := by decide +kernel
theorem dX4_takeDeficits_132 : decode cX4_takeDeficits 132 = .ok (.goto (-130), 3) := by decide +kernel
theorem dX4_takeDeficits_135 : decode cX4_takeDeficits 135 = .ok (.return_, 1) := by decide +kernel
theorem wfRX4_32 : zFl RX4 32 3 5 := ⟨_, rfl, by decide, zm_f 655 (by decide +kernel) rfl⟩
theorem wfRX4_9 : zFl RX4 9 4 0 := ⟨_, rfl, by decide, zm_f 696 (by decide +kernel) rfl⟩
theorem wfRX4_15 : zFl RX4 15 4 1 := ⟨_, rfl, by decide, zm_f 697 (by decide +kernel) rfl⟩
theorem wfRX4_36 : zFl RX4 36 3 0 := ⟨_, rfl, by decide, zm_f 645 (by decide +kernel) rfl⟩
theorem wfRX4_40 : zFl RX4 40 5 0 := ⟨_, rfl, by decide, zm_f 530 (by decide +kernel) rfl⟩
theorem wfRX4_45 : zFl RX4 45 5 1 := ⟨_, rfl, by decide, zm_f 533 (by decide +kernel) rfl⟩
theorem wcRX4_48 : Cond.methodLink RX4 48 yX7_deficit ∈ zTg ∧ Cond.static yX7_deficit ∈ zTg ∧ Cond.initialized yX7_deficit.cls ∈ zTg ∧ Cond.code yX7_deficit cX7_deficit 9 (some .int) ∈ zTg := ⟨zm_f 851 (by decide +kernel) rfl, zm_f 170 (by decide +kernel) rfl, zm_f 36 (by decide +kernel) rfl, zm_f 171 (by decide +kernel) rfl⟩
theorem rel10 : zRel [] [(1, []), (0, [])] [] := by unfold zRel; decide
theorem wmRX4_54 : Cond.methodLink RX4 54 Lib.Math.max.name ∈ zTg := zm_f 852 (by decide +kernel) rfl
def fSi_takeDeficits_l37 (a2 : Int32) (s1 : zM) (q1 : (Int32 × zM)) (v3 : Int32) (q8 : Int32 × zM) : Option ((Int32 × zM) ⊕ ((zM))) :=
  if (s1 0 0 5) ≤ q8.1 then
  some (.inr q8.2)
else
  zix q8.1 8 fun j10 =>
    zix q1.1 8 fun j11 =>
    zix q1.1 8 fun j12 =>
    Option.bind (fWa_deficit ((s1 7 j11 0) - (s1 7 j10 0)) ((s1 7 j12 1) - (s1 7 j10 1)) (0 : Int32) a2) fun q13 =>
    zix v3 64 fun j14 =>
    zix v3 64 fun j15 =>
    zlet (zu q8.2 1 0 j15 (zmax (q8.2 1 0 j14) q13)) fun s0_16 =>
    zix v3 64 fun j17 =>
    zix v3 64 fun j18 =>
    zlet (zu s0_16 2 0 j18 ((s0_16 2 0 j17) + q13)) fun s0_19 =>
    zlet (q8.1 + 1) fun v20 =>
    some (.inl (v20, s0_19))
def fSi_takeDeficits_l2 (a2 : Int32) (s1 : zM) (q1 : Int32 × zM) : Option ((Int32 × zM) ⊕ ((zM))) :=
  if (s1 0 0 5) ≤ q1.1 then
  some (.inr q1.2)
else
  zlet (((a2 * (8 : Int32)) + q1.1)) fun v3 =>
    zix v3 64 fun j4 =>
    zlet (zu q1.2 1 0 j4 (0 : Int32)) fun s0_5 =>
    zix v3 64 fun j6 =>
    zlet (zu s0_5 2 0 j6 (0 : Int32)) fun s0_7 =>
    Option.bind (ziter (fSi_takeDeficits_l37 a2 s1 q1 v3) 1000 ((0 : Int32), s0_7)) fun q9 =>
    zlet (q1.1 + 1) fun v21 =>
    some (.inl (v21, q9))
def fSi_takeDeficits (a2 : Int32) (s0 : zM) (s1 : zM) : Option (zM) :=
  Option.bind (ziter (fSi_takeDeficits_l2 a2 s1) 1000 ((0 : Int32), s0)) fun q2 =>
  some q2
set_option maxHeartbeats 4000000 in
set_option maxRecDepth 20000 in
theorem bfSi_takeDeficits_l37 {X : zX} (F : zFr X cX4_takeDeficits 8 RX4 none) (a2 : Int32) (s1 : zM) (q1 : (Int32 × zM)) (v3 : Int32)  {ψ : (Int32 × zM) ⊕ ((zM)) → Option zO} (h1 : ∀ q8 : Int32 × zM, zZ X [(1, []), (0, [])] 1 28 8 37 [some (zr 0 0 0), some (zr 1 0 0), some (zi a2), some (zi q1.1), some (zi v3), some (zi q8.1), none, none] [] [q8.2, s1] (ψ (.inl q8))) (h2 : ∀ q9 : zM, zZ X [(1, []), (0, [])] 1 28 8 129 [some (zr 0 0 0), some (zr 1 0 0), some (zi a2), some (zi q1.1), none, none, none, none] [] [q9, s1] (ψ (.inr q9))) (q8 : Int32 × zM) : zZ X [(1, []), (0, [])] 1 28 8 37 [some (zr 0 0 0), some (zr 1 0 0), some (zi a2), some (zi q1.1), some (zi v3), some (zi q8.1), none, none] [] [q8.2, s1] (Option.bind (fSi_takeDeficits_l37 a2 s1 q1 v3 q8) ψ) := by
  unfold fSi_takeDeficits_l37
  refine zz_iload F (i := 5) dX4_takeDeficits_37 rfl ?_
  refine zz_aload_n F (i := 1) dX4_takeDeficits_39 rfl rfl ?_
  refine zz_getf F dX4_takeDeficits_40 wfRX4_32 zCl_3 rfl (⟨zlb rfl, zlb rfl, zlb rfl⟩) rfl (by decide) rfl rfl ?_
  refine zz_icmp_ge F (tgt := 129) dX4_takeDeficits_43 (by decide) (fun h => zz_t h ?_) (fun h => zz_f h ?_)
  · exact zz_sub (zs_k (zs_k (zs_k (zs_k (zs_n (zs_n (zs_k (zs_k zs_z)))))))) (h2 q8.2)
  · refine zz_aload_n F (i := 1) dX4_takeDeficits_46 rfl rfl ?_
    refine zz_getr F dX4_takeDeficits_47 wfRX4_36 zCl_3 rfl (⟨zlb rfl, zlb rfl, zlb rfl⟩) rfl (by decide) rfl (r' := 1) (by decide) ?_
    refine zz_iload F (i := 5) dX4_takeDeficits_50 rfl ?_
    refine zz_ix fun j10 hj10 hinj10 hej10 => zz_aal F dX4_takeDeficits_52 rfl (⟨zlb rfl, zlb rfl, zlb rfl⟩) rfl (by decide) rfl hinj10 hej10 rfl ?_
    refine zz_astore F (i := 6) (L' := [some (zr 0 0 0), some (zr 1 0 0), some (zi a2), some (zi q1.1), some (zi v3), some (zi q8.1), some (zr 1 7 j10), none]) dX4_takeDeficits_53 (by decide) rfl rfl ?_
    refine zz_aload_n F (i := 1) dX4_takeDeficits_55 rfl rfl ?_
    refine zz_getr F dX4_takeDeficits_56 wfRX4_36 zCl_3 rfl (⟨zlb rfl, zlb rfl, zlb rfl⟩) rfl (by decide) rfl (r' := 1) (by decide) ?_
    refine zz_iload_n F (i := 3) dX4_takeDeficits_59 rfl rfl ?_
    refine zz_ix fun j11 hj11 hinj11 hej11 => zz_aal F dX4_takeDeficits_60 rfl (⟨zlb rfl, zlb rfl, zlb rfl⟩) rfl (by decide) rfl hinj11 hej11 rfl ?_
    refine zz_getf F dX4_takeDeficits_61 wfRX4_40 zCl_5 rfl (⟨zlb rfl, zlb rfl, hj11⟩) rfl (by decide) rfl rfl ?_
    refine zz_aload F (i := 6) dX4_takeDeficits_64 rfl ?_
    refine zz_getf F dX4_takeDeficits_66 wfRX4_40 zCl_5 rfl (⟨zlb rfl, zlb rfl, hj10⟩) rfl (by decide) rfl rfl ?_
    refine zz_isub F dX4_takeDeficits_69 ?_
    refine zz_aload_n F (i := 1) dX4_takeDeficits_70 rfl rfl ?_
    refine zz_getr F dX4_takeDeficits_71 wfRX4_36 zCl_3 rfl (⟨zlb rfl, zlb rfl, zlb rfl⟩) rfl (by decide) rfl (r' := 1) (by decide) ?_
    refine zz_iload_n F (i := 3) dX4_takeDeficits_74 rfl rfl ?_
    refine zz_ix fun j12 hj12 hinj12 hej12 => zz_aal F dX4_takeDeficits_75 rfl (⟨zlb rfl, zlb rfl, zlb rfl⟩) rfl (by decide) rfl hinj12 hej12 rfl ?_
    refine zz_getf F dX4_takeDeficits_76 wfRX4_45 zCl_5 rfl (⟨zlb rfl, zlb rfl, hj12⟩) rfl (by decide) rfl rfl ?_
    refine zz_aload F (i := 6) dX4_takeDeficits_79 rfl ?_
    refine zz_getf F dX4_takeDeficits_81 wfRX4_45 zCl_5 rfl (⟨zlb rfl, zlb rfl, hj10⟩) rfl (by decide) rfl rfl ?_
    refine zz_isub F dX4_takeDeficits_84 ?_
    refine zz_iconst F (v := (0 : Int32)) dX4_takeDeficits_85 (by decide) ?_
    refine zz_iload_n F (i := 2) dX4_takeDeficits_86 rfl rfl ?_
    refine zz_bind ?_
    refine zz_callSr F (ρ := []) (so := fun q13 => [zi q13]) (Mo := fun q13 => [q8.2, s1]) (zfWa_deficit ((s1 7 j11 0) - (s1 7 j10 0)) ((s1 7 j12 1) - (s1 7 j10 1)) (0 : Int32) a2) dX4_takeDeficits_87 wcRX4_48 wy_yX7_deficit rfl ⟨rel10, rfl, rfl, Nat.le_of_ble_eq_true rfl, Nat.le_of_ble_eq_true rfl, Nat.le_of_ble_eq_true rfl⟩ rfl (fun _ => rfl) (fun _ => rfl) fun q13 => ?_
    refine zz_istore F (i := 7) (L' := [some (zr 0 0 0), some (zr 1 0 0), some (zi a2), some (zi q1.1), some (zi v3), some (zi q8.1), some (zr 1 7 j10), some (zi q13)]) dX4_takeDeficits_90 (by decide) rfl rfl ?_
    refine zz_aload_n F (i := 0) dX4_takeDeficits_92 rfl rfl ?_
    refine zz_getr F dX4_takeDeficits_93 wfRX4_9 zCl_4 rfl (⟨zlb rfl, zlb rfl, zlb rfl⟩) rfl (by decide) rfl (r' := 0) (by decide) ?_
    refine zz_iload F (i := 4) dX4_takeDeficits_96 rfl ?_
    refine zz_aload_n F (i := 0) dX4_takeDeficits_98 rfl rfl ?_
    refine zz_getr F dX4_takeDeficits_99 wfRX4_9 zCl_4 rfl (⟨zlb rfl, zlb rfl, zlb rfl⟩) rfl (by decide) rfl (r' := 0) (by decide) ?_
    refine zz_iload F (i := 4) dX4_takeDeficits_102 rfl ?_
    refine zz_ix fun j14 hj14 hinj14 hej14 => zz_ial F dX4_takeDeficits_104 rfl (⟨zlb rfl, zlb rfl, zlb rfl⟩) rfl hinj14 hej14 ?_
    refine zz_iload F (i := 7) dX4_takeDeficits_105 rfl ?_
    refine zz_max F dX4_takeDeficits_107 wmRX4_54 wMath_max (Nat.le_of_ble_eq_true rfl) (Nat.le_of_ble_eq_true rfl) ?_
    refine zz_ix fun j15 hj15 hinj15 hej15 => zz_ias F (Ms' := [(zu q8.2 1 0 j15 (zmax (q8.2 1 0 j14) q13)), s1]) dX4_takeDeficits_110 rfl (⟨zlb rfl, zlb rfl, zlb rfl⟩) rfl hinj15 hej15 rfl ?_
    refine zz_letm (Mf := fun s0_16 => [s0_16, s1]) fun s0_16 => ?_
    refine zz_aload_n F (i := 0) dX4_takeDeficits_111 rfl rfl ?_
    refine zz_getr F dX4_takeDeficits_112 wfRX4_15 zCl_4 rfl (⟨zlb rfl, zlb rfl, zlb rfl⟩) rfl (by decide) rfl (r' := 0) (by decide) ?_
    refine zz_iload F (i := 4) dX4_takeDeficits_115 rfl ?_
    refine zz_dup2 F dX4_takeDeficits_117 rfl rfl ?_
    refine zz_ix fun j17 hj17 hinj17 hej17 => zz_ial F dX4_takeDeficits_118 rfl (⟨zlb rfl, zlb rfl, zlb rfl⟩) rfl hinj17 hej17 ?_
    refine zz_iload F (i := 7) dX4_takeDeficits_119 rfl ?_
    refine zz_iadd F dX4_takeDeficits_121 ?_
    refine zz_ix fun j18 hj18 hinj18 hej18 => zz_ias F (Ms' := [(zu s0_16 2 0 j18 ((s0_16 2 0 j17) + q13)), s1]) dX4_takeDeficits_122 rfl (⟨zlb rfl, zlb rfl, zlb rfl⟩) rfl hinj18 hej18 rfl ?_
    refine zz_letm (Mf := fun s0_19 => [s0_19, s1]) fun s0_19 => ?_
    refine zz_iinc F (i := 5) (v := q8.1 + 1) (L' := [some (zr 0 0 0), some (zr 1 0 0), some (zi a2), some (zi q1.1), some (zi v3), some (zi (q8.1 + 1)), some (zr 1 7 j10), some (zi q13)]) dX4_takeDeficits_123 rfl (by first | rfl | decide) (by decide) rfl rfl ?_
    refine zz_letl (Lf := fun v20 => [some (zr 0 0 0), some (zr 1 0 0), some (zi a2), some (zi q1.1), some (zi v3), some (zi v20), some (zr 1 7 j10), some (zi q13)]) fun v20 => ?_
    refine zz_goto F (tgt := 37) dX4_takeDeficits_126 (by decide) ?_
    exact zz_sub (zs_k (zs_k (zs_k (zs_k (zs_k (zs_k (zs_n (zs_n zs_z)))))))) (h1 (v20, s0_19))
set_option maxHeartbeats 4000000 in
set_option maxRecDepth 20000 in
theorem bfSi_takeDeficits_l2 {X : zX} (F : zFr X cX4_takeDeficits 8 RX4 none) (a2 : Int32) (s1 : zM)  {ψ : (Int32 × zM) ⊕ ((zM)) → Option zO} (h1 : ∀ q1 : Int32 × zM, zZ X [(1, []), (0, [])] 1 28 8 2 [some (zr 0 0 0), some (zr 1 0 0), some (zi a2), some (zi q1.1), none, none, none, none] [] [q1.2, s1] (ψ (.inl q1))) (h2 : ∀ q2 : zM, zZ X [(1, []), (0, [])] 1 28 8 135 [none, none, none, none, none, none, none, none] [] [q2, s1] (ψ (.inr q2))) (q1 : Int32 × zM) : zZ X [(1, []), (0, [])] 1 28 8 2 [some (zr 0 0 0), some (zr 1 0 0), some (zi a2), some (zi q1.1), none, none, none, none] [] [q1.2, s1] (Option.bind (fSi_takeDeficits_l2 a2 s1 q1) ψ) := by
  unfold fSi_takeDeficits_l2
  refine zz_iload_n F (i := 3) dX4_takeDeficits_2 rfl rfl ?_
  refine zz_aload_n F (i := 1) dX4_takeDeficits_3 rfl rfl ?_
  refine zz_getf F dX4_takeDeficits_4 wfRX4_32 zCl_3 rfl (⟨zlb rfl, zlb rfl, zlb rfl⟩) rfl (by decide) rfl rfl ?_
  refine zz_icmp_ge F (tgt := 135) dX4_takeDeficits_7 (by decide) (fun h => zz_t h ?_) (fun h => zz_f h ?_)
  · exact zz_sub (zs_n (zs_n (zs_n (zs_n (zs_k (zs_k (zs_k (zs_k zs_z)))))))) (h2 q1.2)
  · refine zz_iload_n F (i := 2) dX4_takeDeficits_10 rfl rfl ?_
    refine zz_bipush F (v := (8 : Int32)) dX4_takeDeficits_11 (by decide) ?_
    refine zz_imul F dX4_takeDeficits_13 ?_
    refine zz_iload_n F (i := 3) dX4_takeDeficits_14 rfl rfl ?_
    refine zz_iadd F dX4_takeDeficits_15 ?_
    refine zz_istore F (i := 4) (L' := [some (zr 0 0 0), some (zr 1 0 0), some (zi a2), some (zi q1.1), some (zi ((a2 * (8 : Int32)) + q1.1)), none, none, none]) dX4_takeDeficits_16 (by decide) rfl rfl ?_
    refine zz_letl (Lf := fun v3 => [some (zr 0 0 0), some (zr 1 0 0), some (zi a2), some (zi q1.1), some (zi v3), none, none, none]) fun v3 => ?_
    refine zz_aload_n F (i := 0) dX4_takeDeficits_18 rfl rfl ?_
    refine zz_getr F dX4_takeDeficits_19 wfRX4_9 zCl_4 rfl (⟨zlb rfl, zlb rfl, zlb rfl⟩) rfl (by decide) rfl (r' := 0) (by decide) ?_
    refine zz_iload F (i := 4) dX4_takeDeficits_22 rfl ?_
    refine zz_iconst F (v := (0 : Int32)) dX4_takeDeficits_24 (by decide) ?_
    refine zz_ix fun j4 hj4 hinj4 hej4 => zz_ias F (Ms' := [(zu q1.2 1 0 j4 (0 : Int32)), s1]) dX4_takeDeficits_25 rfl (⟨zlb rfl, zlb rfl, zlb rfl⟩) rfl hinj4 hej4 rfl ?_
    refine zz_letm (Mf := fun s0_5 => [s0_5, s1]) fun s0_5 => ?_
    refine zz_aload_n F (i := 0) dX4_takeDeficits_26 rfl rfl ?_
    refine zz_getr F dX4_takeDeficits_27 wfRX4_15 zCl_4 rfl (⟨zlb rfl, zlb rfl, zlb rfl⟩) rfl (by decide) rfl (r' := 0) (by decide) ?_
    refine zz_iload F (i := 4) dX4_takeDeficits_30 rfl ?_
    refine zz_iconst F (v := (0 : Int32)) dX4_takeDeficits_32 (by decide) ?_
    refine zz_ix fun j6 hj6 hinj6 hej6 => zz_ias F (Ms' := [(zu s0_5 2 0 j6 (0 : Int32)), s1]) dX4_takeDeficits_33 rfl (⟨zlb rfl, zlb rfl, zlb rfl⟩) rfl hinj6 hej6 rfl ?_
    refine zz_letm (Mf := fun s0_7 => [s0_7, s1]) fun s0_7 => ?_
    refine zz_iconst F (v := (0 : Int32)) dX4_takeDeficits_34 (by decide) ?_
    refine zz_istore F (i := 5) (L' := [some (zr 0 0 0), some (zr 1 0 0), some (zi a2), some (zi q1.1), some (zi v3), some (zi (0 : Int32)), none, none]) dX4_takeDeficits_35 (by decide) rfl rfl ?_
    refine zz_sub (zs_k (zs_k (zs_k (zs_k (zs_k (zs_k (zs_k (zs_k zs_z)))))))) ?_
    refine zz_bind ?_
    refine zz_iter (Lf := fun q8 => [some (zr 0 0 0), some (zr 1 0 0), some (zi a2), some (zi q1.1), some (zi v3), some (zi q8.1), none, none]) (Mf := fun q8 => [q8.2, s1]) (fun q8 _ e22 e23 => bfSi_takeDeficits_l37 F a2 s1 q1 v3  e22 (fun q9 => ?_)  q8) 1000 ((0 : Int32), s0_7)
    rw [e23]
    refine zz_iinc F (i := 3) (v := q1.1 + 1) (L' := [some (zr 0 0 0), some (zr 1 0 0), some (zi a2), some (zi (q1.1 + 1)), none, none, none, none]) dX4_takeDeficits_129 rfl (by first | rfl | decide) (by decide) rfl rfl ?_
    refine zz_letl (Lf := fun v21 => [some (zr 0 0 0), some (zr 1 0 0), some (zi a2), some (zi v21), none, none, none, none]) fun v21 => ?_
    refine zz_goto F (tgt := 2) dX4_takeDeficits_132 (by decide) ?_
    exact zz_sub (zs_k (zs_k (zs_k (zs_k (zs_k (zs_k (zs_k (zs_k zs_z)))))))) (h1 (v21, q9))
set_option maxHeartbeats 4000000 in
set_option maxRecDepth 20000 in
theorem bfSi_takeDeficits {X : zX} (F : zFr X cX4_takeDeficits 8 RX4 none) (a2 : Int32)  (s0 : zM) (s1 : zM) {κ : zM → Option zO} (hκ : ∀ a, κ a = some ((fun a => ((.inl ((fun _ => (none : Option zV)) a), (fun q => [q, s1]) a) : zO)) a)) : zZ X [(1, []), (0, [])] 1 28 8 0 [some (zr 0 0 0), some (zr 1 0 0), some (zi a2), none, none, none, none, none] [] [s0, s1] (Option.bind (fSi_takeDeficits a2 s0 s1) κ) := by
  unfold fSi_takeDeficits
  refine zz_iconst F (v := (0 : Int32)) dX4_takeDeficits_0 (by decide) ?_
  refine zz_istore_n F (i := 3) (L' := [some (zr 0 0 0), some (zr 1 0 0), some (zi a2), some (zi (0 : Int32)), none, none, none, none]) dX4_takeDeficits_1 rfl (by decide) rfl rfl ?_
  refine zz_sub (zs_k (zs_k (zs_k (zs_k (zs_k (zs_k (zs_k (zs_k zs_z)))))))) ?_
  refine zz_bind ?_
  refine zz_iter (Lf := fun q1 => [some (zr 0 0 0), some (zr 1 0 0), some (zi a2), some (zi q1.1), none, none, none, none]) (Mf := fun q1 => [q1.2, s1]) (fun q1 _ e24 e25 => bfSi_takeDeficits_l2 F a2 s1  e24 (fun q2 => ?_)  q1) 1000 ((0 : Int32), s0)
  rw [e25]
  exact zz_return F dX4_takeDeficits_135 rfl (hκ _)
theorem zfSi_takeDeficits (a2 : Int32)  (s0 : zM) (s1 : zM) : ∀ a, fSi_takeDeficits a2 s0 s1 = some a → zMet yX4_takeDeficits cX4_takeDeficits 8 none 1 28 [(1, []), (0, [])] [zr 0 0 0, zr 1 0 0, zi a2] [s0, s1] ((fun a => ((.inl ((fun _ => (none : Option zV)) a), (fun q => [q, s1]) a) : zO)) a) := fun a ha => zMet_of (L0 := [some (zr 0 0 0), some (zr 1 0 0), some (zi a2), none, none, none, none, none]) (φ := Option.bind (fSi_takeDeficits a2 s0 s1) (fun a => some ((fun a => ((.inl ((fun _ => (none : Option zV)) a), (fun q => [q, s1]) a) : zO)) a))) (by decide) (fun _ => Nat.le_of_ble_eq_true rfl) (zl0 5 rfl) (fun X F => bfSi_takeDeficits F a2 s0 s1 (fun _ => rfl)) (by rw [ha]; rfl)

theorem dX4_powerAt_0 : decode cX4_powerAt 0 = .ok (.bipush 10, 2) := by decide +kernel
theorem dX4_powerAt_2 : decode cX4_powerAt 2 = .ok (.iload_n 0, 1) := by decide +kernel
theorem dX4_powerAt_3 : decode cX4_powerAt 3 = .ok (.iload_n 1, 1) := by decide +kernel
theorem dX4_powerAt_4 : decode cX4_powerAt 4 = .ok (.invokestatic 63, 3) := by decide +kernel
theorem dX4_powerAt_7 : decode cX4_powerAt 7 = .ok (.invokestatic 66, 3) := by decide +kernel
theorem dX4_powerAt_10 : decode cX4_powerAt 10 = .ok (.invokestatic 69, 3) := by decide +kernel
theorem dX4_powerAt_13 : decode cX4_powerAt 13 = .ok (.ireturn, 1) := by decide +kernel
theorem wcRX4_63 : Cond.methodLink RX4 63 yX7_together ∈ zTg ∧ Cond.static yX7_together ∈ zTg ∧ Cond.initialized yX7_together.cls ∈ zTg ∧ Cond.code yX7_together cX7_together 2 (some .int) ∈ zTg := ⟨zm_f 861 (by decide +kernel) rfl, zm_f 180 (by decide +kernel) rfl, zm_f 36 (by decide +kernel) rfl, zm_f 181 (by decide +kernel) rfl⟩
theorem wcRX4_66 : Cond.methodLink RX4 66 yX7_wind ∈ zTg ∧ Cond.static yX7_wind ∈ zTg ∧ Cond.initialized yX7_wind.cls ∈ zTg ∧ Cond.code yX7_wind cX7_wind 2 (some .int) ∈ zTg := ⟨zm_f 862 (by decide +kernel) rfl, zm_f 183 (by decide +kernel) rfl, zm_f 36 (by decide +kernel) rfl, zm_f 184 (by decide +kernel) rfl⟩
theorem wcRX4_69 : Cond.methodLink RX4 69 yX7_power ∈ zTg ∧ Cond.static yX7_power ∈ zTg ∧ Cond.initialized yX7_power.cls ∈ zTg ∧ Cond.code yX7_power cX7_power 1 (some .int) ∈ zTg := ⟨zm_f 863 (by decide +kernel) rfl, zm_f 156 (by decide +kernel) rfl, zm_f 36 (by decide +kernel) rfl, zm_f 157 (by decide +kernel) rfl⟩
def fSi_powerAt (a0 : Int32) (a1 : Int32)  : Option (Int32) :=
  Option.bind (fWa_together a0 a1) fun q1 =>
  Option.bind (fWa_wind (10 : Int32) q1) fun q2 =>
  Option.bind (fWa_power q2) fun q3 =>
  some q3
set_option maxHeartbeats 4000000 in
set_option maxRecDepth 20000 in
theorem bfSi_powerAt {X : zX} (F : zFr X cX4_powerAt 2 RX4 (some .int)) (a0 : Int32) (a1 : Int32)   {κ : Int32 → Option zO} (hκ : ∀ a, κ a = some ((fun a => ((.inl ((fun q => some (zi q)) a), (fun _ => []) a) : zO)) a)) : zZ X [] 2 44 2 0 [some (zi a0), some (zi a1)] [] [] (Option.bind (fSi_powerAt a0 a1) κ) := by
  unfold fSi_powerAt
  refine zz_bipush F (v := (10 : Int32)) dX4_powerAt_0 (by decide) ?_
  refine zz_iload_n F (i := 0) dX4_powerAt_2 rfl rfl ?_
  refine zz_iload_n F (i := 1) dX4_powerAt_3 rfl rfl ?_
  refine zz_bind ?_
  refine zz_callSr F (ρ := []) (so := fun q1 => [zi q1, zi (10 : Int32)]) (Mo := fun q1 => []) (zfWa_together a0 a1) dX4_powerAt_4 wcRX4_63 wy_yX7_together rfl ⟨rel5, rfl, rfl, Nat.le_of_ble_eq_true rfl, Nat.le_of_ble_eq_true rfl, Nat.le_of_ble_eq_true rfl⟩ rfl (fun _ => rfl) (fun _ => rfl) fun q1 => ?_
  refine zz_bind ?_
  refine zz_callSr F (ρ := []) (so := fun q2 => [zi q2]) (Mo := fun q2 => []) (zfWa_wind (10 : Int32) q1) dX4_powerAt_7 wcRX4_66 wy_yX7_wind rfl ⟨rel5, rfl, rfl, Nat.le_of_ble_eq_true rfl, Nat.le_of_ble_eq_true rfl, Nat.le_of_ble_eq_true rfl⟩ rfl (fun _ => rfl) (fun _ => rfl) fun q2 => ?_
  refine zz_bind ?_
  refine zz_callSr F (ρ := []) (so := fun q3 => [zi q3]) (Mo := fun q3 => []) (zfWa_power q2) dX4_powerAt_10 wcRX4_69 wy_yX7_power rfl ⟨rel5, rfl, rfl, Nat.le_of_ble_eq_true rfl, Nat.le_of_ble_eq_true rfl, Nat.le_of_ble_eq_true rfl⟩ rfl (fun _ => rfl) (fun _ => rfl) fun q3 => ?_
  exact zz_ireturn F dX4_powerAt_13 rfl (hκ _)
theorem zfSi_powerAt (a0 : Int32) (a1 : Int32)   : ∀ a, fSi_powerAt a0 a1 = some a → zMet yX4_powerAt cX4_powerAt 2 (some .int) 2 44 [] [zi a0, zi a1] [] ((fun a => ((.inl ((fun q => some (zi q)) a), (fun _ => []) a) : zO)) a) := fun a ha => zMet_of (L0 := [some (zi a0), some (zi a1)]) (φ := Option.bind (fSi_powerAt a0 a1) (fun a => some ((fun a => ((.inl ((fun q => some (zi q)) a), (fun _ => []) a) : zO)) a))) (by decide) (fun _ => Nat.le_of_ble_eq_true rfl) (zl0 0 rfl) (fun X F => bfSi_powerAt F a0 a1 (fun _ => rfl)) (by rw [ha]; rfl)

theorem dX4_powerWith_0 : decode cX4_powerWith 0 = .ok (.iconst 0, 1) := by decide +kernel
theorem dX4_powerWith_1 : decode cX4_powerWith 1 = .ok (.istore 4, 2) := by decide +kernel
theorem dX4_powerWith_3 : decode cX4_powerWith 3 = .ok (.iconst 0, 1) := by decide +kernel
theorem dX4_powerWith_4 : decode cX4_powerWith 4 = .ok (.istore 5, 2) := by decide +kernel
theorem dX4_powerWith_6 : decode cX4_powerWith 6 = .ok (.iload 5, 2) := by decide +kernel
theorem dX4_powerWith_8 : decode cX4_powerWith 8 = .ok (.bipush 8, 2) := by decide +kernel
theorem dX4_powerWith_10 : decode cX4_powerWith 10 = .ok (.if_icmp .ge 155, 3) := by decide +kernel
theorem dX4_powerWith_13 : decode cX4_powerWith 13 = .ok (.iconst 0, 1) := by decide +kernel
theorem dX4_powerWith_14 : decode cX4_powerWith 14 = .ok (.istore 6, 2) := by decide +kernel
theorem dX4_powerWith_16 : decode cX4_powerWith 16 = .ok (.iconst 0, 1) := by decide +kernel
theorem dX4_powerWith_17 : decode cX4_powerWith 17 = .ok (.istore 7, 2) := by decide +kernel
theorem dX4_powerWith_19 : decode cX4_powerWith 19 = .ok (.iconst 0, 1) := by decide +kernel
theorem dX4_powerWith_20 : decode cX4_powerWith 20 = .ok (.istore 8, 2) := by decide +kernel
theorem dX4_powerWith_22 : decode cX4_powerWith 22 = .ok (.iload 8, 2) := by decide +kernel
theorem dX4_powerWith_24 : decode cX4_powerWith 24 = .ok (.aload_n 1, 1) := by decide +kernel
theorem dX4_powerWith_25 : decode cX4_powerWith 25 = .ok (.getfield 32, 3) := by decide +kernel
theorem dX4_powerWith_28 : decode cX4_powerWith 28 = .ok (.if_icmp .ge 119, 3) := by decide +kernel
theorem dX4_powerWith_31 : decode cX4_powerWith 31 = .ok (.iload_n 2, 1) := by decide +kernel
theorem dX4_powerWith_32 : decode cX4_powerWith 32 = .ok (.aload_n 1, 1) := by decide +kernel
theorem dX4_powerWith_33 : decode cX4_powerWith 33 = .ok (.getfield 36, 3) := by decide +kernel
theorem dX4_powerWith_36 : decode cX4_powerWith 36 = .ok (.iload 8, 2) := by decide +kernel
theorem dX4_powerWith_38 : decode cX4_powerWith 38 = .ok (.aaload, 1) := by decide +kernel
theorem dX4_powerWith_39 : decode cX4_powerWith 39 = .ok (.getfield 40, 3) := by decide +kernel
theorem dX4_powerWith_42 : decode cX4_powerWith 42 = .ok (.isub, 1) := by decide +kernel
theorem dX4_powerWith_43 : decode cX4_powerWith 43 = .ok (.istore 9, 2) := by decide +kernel
theorem dX4_powerWith_45 : decode cX4_powerWith 45 = .ok (.iload_n 3, 1) := by decide +kernel
theorem dX4_powerWith_46 : decode cX4_powerWith 46 = .ok (.aload_n 1, 1) := by decide +kernel
theorem dX4_powerWith_47 : decode cX4_powerWith 47 = .ok (.getfield 36, 3) := by decide +kernel
theorem dX4_powerWith_50 : decode cX4_powerWith 50 = .ok (.iload 8, 2) := by decide +kernel
theorem dX4_powerWith_52 : decode cX4_powerWith 52 = .ok (.aaload, 1) := by decide +kernel
theorem dX4_powerWith_53 : decode cX4_powerWith 53 = .ok (.getfield 45, 3) := by decide +kernel
theorem dX4_powerWith_56 : decode cX4_powerWith 56 = .ok (.isub, 1) := by decide +kernel
theorem dX4_powerWith_57 : decode cX4_powerWith 57 = .ok (.istore 10, 2) := by decide +kernel
theorem dX4_powerWith_59 : decode cX4_powerWith 59 = .ok (.iload 9, 2) := by decide +kernel
theorem dX4_powerWith_61 : decode cX4_powerWith 61 = .ok (.iload 10, 2) := by decide +kernel
theorem dX4_powerWith_63 : decode cX4_powerWith 63 = .ok (.iconst 0, 1) := by decide +kernel
theorem dX4_powerWith_64 : decode cX4_powerWith 64 = .ok (.iload 5, 2) := by decide +kernel
theorem dX4_powerWith_66 : decode cX4_powerWith 66 = .ok (.invokestatic 48, 3) := by decide +kernel
theorem dX4_powerWith_69 : decode cX4_powerWith 69 = .ok (.istore 11, 2) := by decide +kernel
theorem dX4_powerWith_71 : decode cX4_powerWith 71 = .ok (.iload 9, 2) := by decide +kernel
theorem dX4_powerWith_73 : decode cX4_powerWith 73 = .ok (.ineg, 1) := by decide +kernel
theorem dX4_powerWith_74 : decode cX4_powerWith 74 = .ok (.iload 10, 2) := by decide +kernel
theorem dX4_powerWith_76 : decode cX4_powerWith 76 = .ok (.ineg, 1) := by decide +kernel
theorem dX4_powerWith_77 : decode cX4_powerWith 77 = .ok (.iconst 0, 1) := by decide +kernel
theorem dX4_powerWith_78 : decode cX4_powerWith 78 = .ok (.iload 5, 2) := by decide +kernel
theorem dX4_powerWith_80 : decode cX4_powerWith 80 = .ok (.invokestatic 48, 3) := by decide +kernel
theorem dX4_powerWith_83 : decode cX4_powerWith 83 = .ok (.istore 12, 2) := by decide +kernel
theorem dX4_powerWith_85 : decode cX4_powerWith 85 = .ok (.iload 5, 2) := by decide +kernel
theorem dX4_powerWith_87 : decode cX4_powerWith 87 = .ok (.bipush 8, 2) := by decide +kernel
theorem dX4_powerWith_89 : decode cX4_powerWith 89 = .ok (.imul, 1) := by decide +kernel
theorem dX4_powerWith_90 : decode cX4_powerWith 90 = .ok (.iload 8, 2) := by decide +kernel
theorem dX4_powerWith_92 : decode cX4_powerWith 92 = .ok (.iadd, 1) := by decide +kernel
theorem dX4_powerWith_93 : decode cX4_powerWith 93 = .ok (.istore 13, 2) := by decide +kernel
theorem dX4_powerWith_95 : decode cX4_powerWith 95 = .ok (.iload 6, 2) := by decide +kernel
theorem dX4_powerWith_97 : decode cX4_powerWith 97 = .ok (.iload 11, 2) := by decide +kernel
theorem dX4_powerWith_99 : decode cX4_powerWith 99 = .ok (.invokestatic 54, 3) := by decide +kernel
theorem dX4_powerWith_102 : decode cX4_powerWith 102 = .ok (.istore 6, 2) := by decide +kernel
theorem dX4_powerWith_104 : decode cX4_powerWith 104 = .ok (.iload 7, 2) := by decide +kernel
theorem dX4_powerWith_106 : decode cX4_powerWith 106 = .ok (.iload 11, 2) := by decide +kernel
theorem dX4_powerWith_108 : decode cX4_powerWith 108 = .ok (.iadd, 1) := by decide +kernel
theorem dX4_powerWith_109 : decode cX4_powerWith 109 = .ok (.istore 7, 2) := by decide +kernel
theorem dX4_powerWith_111 : decode cX4_powerWith 111 = .ok (.iload 4, 2) := by decide +kernel
theorem dX4_powerWith_113 : decode cX4_powerWith 113 = .ok (.aload_n 0, 1) := by decide +kernel
theorem dX4_powerWith_114 : decode cX4_powerWith 114 = .ok (.getfield 9, 3) := by decide +kernel
theorem dX4_powerWith_117 : decode cX4_powerWith 117 = .ok (.iload 13, 2) := by decide +kernel
theorem dX4_powerWith_119 : decode cX4_powerWith 119 = .ok (.iaload, 1) := by decide +kernel
theorem dX4_powerWith_120 : decode cX4_powerWith 120 = .ok (.iload 12, 2) := by decide +kernel
theorem dX4_powerWith_122 : decode cX4_powerWith 122 = .ok (.invokestatic 54, 3) := by decide +kernel
theorem dX4_powerWith_125 : decode cX4_powerWith 125 = .ok (.aload_n 0, 1) := by decide +kernel
theorem dX4_powerWith_126 : decode cX4_powerWith 126 = .ok (.getfield 15, 3) := by decide +kernel
theorem dX4_powerWith_129 : decode cX4_powerWith 129 = .ok (.iload 13, 2) := by decide +kernel
theorem dX4_powerWith_131 : decode cX4_powerWith 131 = .ok (.iaload, 1) := by decide +kernel
theorem dX4_powerWith_132 : decode cX4_powerWith 132 = .ok (.iload 12, 2) := by decide +kernel
theorem dX4_powerWith_134 : decode cX4_powerWith 134 = .ok (.iadd, 1) := by decide +kernel
theorem dX4_powerWith_135 : decode cX4_powerWith 135 = .ok (.invokestatic 60, 3) := by decide +kernel
theorem dX4_powerWith_138 : decode cX4_powerWith 138 = .ok (.iadd, 1) := by decide +kernel
theorem dX4_powerWith_139 : decode cX4_powerWith 139 = .ok (.istore 4, 2) := by decide +kernel
theorem dX4_powerWith_141 : decode cX4_powerWith 141 = .ok (.iinc 8 1, 3) := by decide +kernel
theorem dX4_powerWith_144 : decode cX4_powerWith 144 = .ok (.goto (-122), 3) := by decide +kernel
theorem dX4_powerWith_147 : decode cX4_powerWith 147 = .ok (.iload 4, 2) := by decide +kernel
theorem dX4_powerWith_149 : decode cX4_powerWith 149 = .ok (.iload 6, 2) := by decide +kernel
theorem dX4_powerWith_151 : decode cX4_powerWith 151 = .ok (.iload 7, 2) := by decide +kernel
theorem dX4_powerWith_153 : decode cX4_powerWith 153 = .ok (.invokestatic 60, 3) := by decide +kernel
theorem dX4_powerWith_156 : decode cX4_powerWith 156 = .ok (.iadd, 1) := by decide +kernel
theorem dX4_powerWith_157 : decode cX4_powerWith 157 = .ok (.istore 4, 2) := by decide +kernel
theorem dX4_powerWith_159 : decode cX4_powerWith 159 = .ok (.iinc 5 1, 3) := by decide +kernel
theorem dX4_powerWith_162 : decode cX4_powerWith 162 = .ok (.goto (-156), 3) := by decide +kernel
theorem dX4_powerWith_165 : decode cX4_powerWith 165 = .ok (.iload 4, 2) := by decide +kernel
theorem dX4_powerWith_167 : decode cX4_powerWith 167 = .ok (.ireturn, 1) := by decide +kernel
theorem wcRX4_60 : Cond.methodLink RX4 60 yX4_powerAt ∈ zTg ∧ Cond.static yX4_powerAt ∈ zTg ∧ Cond.initialized yX4_powerAt.cls ∈ zTg ∧ Cond.code yX4_powerAt cX4_powerAt 2 (some .int) ∈ zTg := ⟨zm_f 858 (by decide +kernel) rfl, zm_f 859 (by decide +kernel) rfl, zm_f 29 (by decide +kernel) rfl, zm_f 860 (by decide +kernel) rfl⟩
theorem wy_yX4_powerAt : yX4_powerAt.cls ≠ "java/lang/invoke/MethodHandle" ∧ yX4_powerAt.cls ≠ "java/lang/invoke/VarHandle" ∧ (parseMethodDescriptor yX4_powerAt.desc).map (fun d => d.parameters.length) = some 2 := by decide +kernel
def fSi_powerWith_l22 (a2 : Int32) (a3 : Int32) (s0 : zM) (s1 : zM) (q1 : (Int32 × Int32)) (q3 : Int32 × Int32 × Int32 × Int32) : Option ((Int32 × Int32 × Int32 × Int32) ⊕ ((Int32 × Int32 × Int32))) :=
  if (s1 0 0 5) ≤ q3.2.2.2 then
  some (.inr (q3.1, q3.2.1, q3.2.2.1))
else
  zix q3.2.2.2 8 fun j5 =>
    zlet ((a2 - (s1 7 j5 0))) fun v6 =>
    zix q3.2.2.2 8 fun j7 =>
    zlet ((a3 - (s1 7 j7 1))) fun v8 =>
    Option.bind (fWa_deficit v6 v8 (0 : Int32) q1.2) fun q9 =>
    Option.bind (fWa_deficit (-v6) (-v8) (0 : Int32) q1.2) fun q10 =>
    zlet (((q1.2 * (8 : Int32)) + q3.2.2.2)) fun v11 =>
    zlet ((zmax q3.2.1 q9)) fun v12 =>
    zlet ((q3.2.2.1 + q9)) fun v13 =>
    zix v11 64 fun j14 =>
    zix v11 64 fun j15 =>
    Option.bind (fSi_powerAt (zmax (s0 1 0 j14) q10) ((s0 2 0 j15) + q10)) fun q16 =>
    zlet ((q3.1 + q16)) fun v17 =>
    zlet (q3.2.2.2 + 1) fun v18 =>
    some (.inl (v17, v12, v13, v18))
def fSi_powerWith_l6 (a2 : Int32) (a3 : Int32) (s0 : zM) (s1 : zM) (q1 : Int32 × Int32) : Option ((Int32 × Int32) ⊕ ((Int32))) :=
  if (8 : Int32) ≤ q1.2 then
  some (.inr q1.1)
else
  Option.bind (ziter (fSi_powerWith_l22 a2 a3 s0 s1 q1) 1000 (q1.1, (0 : Int32), (0 : Int32), (0 : Int32))) fun q4 =>
    Option.bind (fSi_powerAt q4.2.1 q4.2.2) fun q19 =>
    zlet ((q4.1 + q19)) fun v20 =>
    zlet (q1.2 + 1) fun v21 =>
    some (.inl (v20, v21))
def fSi_powerWith (a2 : Int32) (a3 : Int32) (s0 : zM) (s1 : zM) : Option (Int32) :=
  Option.bind (ziter (fSi_powerWith_l6 a2 a3 s0 s1) 1000 ((0 : Int32), (0 : Int32))) fun q2 =>
  some q2
set_option maxHeartbeats 4000000 in
set_option maxRecDepth 20000 in
theorem bfSi_powerWith_l22 {X : zX} (F : zFr X cX4_powerWith 14 RX4 (some .int)) (a2 : Int32) (a3 : Int32) (s0 : zM) (s1 : zM) (q1 : (Int32 × Int32))  {ψ : (Int32 × Int32 × Int32 × Int32) ⊕ ((Int32 × Int32 × Int32)) → Option zO} (h1 : ∀ q3 : Int32 × Int32 × Int32 × Int32, zZ X [(1, []), (0, [])] 3 65 14 22 [some (zr 0 0 0), some (zr 1 0 0), some (zi a2), some (zi a3), some (zi q3.1), some (zi q1.2), some (zi q3.2.1), some (zi q3.2.2.1), some (zi q3.2.2.2), none, none, none, none, none] [] [s0, s1] (ψ (.inl q3))) (h2 : ∀ q4 : Int32 × Int32 × Int32, zZ X [(1, []), (0, [])] 3 65 14 147 [some (zr 0 0 0), some (zr 1 0 0), some (zi a2), some (zi a3), some (zi q4.1), some (zi q1.2), some (zi q4.2.1), some (zi q4.2.2), none, none, none, none, none, none] [] [s0, s1] (ψ (.inr q4))) (q3 : Int32 × Int32 × Int32 × Int32) : zZ X [(1, []), (0, [])] 3 65 14 22 [some (zr 0 0 0), some (zr 1 0 0), some (zi a2), some (zi a3), some (zi q3.1), some (zi q1.2), some (zi q3.2.1), some (zi q3.2.2.1), some (zi q3.2.2.2), none, none, none, none, none] [] [s0, s1] (Option.bind (fSi_powerWith_l22 a2 a3 s0 s1 q1 q3) ψ) := by
  unfold fSi_powerWith_l22
  refine zz_iload F (i := 8) dX4_powerWith_22 rfl ?_
  refine zz_aload_n F (i := 1) dX4_powerWith_24 rfl rfl ?_
  refine zz_getf F dX4_powerWith_25 wfRX4_32 zCl_3 rfl (⟨zlb rfl, zlb rfl, zlb rfl⟩) rfl (by decide) rfl rfl ?_
  refine zz_icmp_ge F (tgt := 147) dX4_powerWith_28 (by decide) (fun h => zz_t h ?_) (fun h => zz_f h ?_)
  · exact zz_sub (zs_k (zs_k (zs_k (zs_k (zs_k (zs_k (zs_k (zs_k (zs_n (zs_k (zs_k (zs_k (zs_k (zs_k zs_z)))))))))))))) (h2 (q3.1, q3.2.1, q3.2.2.1))
  · refine zz_iload_n F (i := 2) dX4_powerWith_31 rfl rfl ?_
    refine zz_aload_n F (i := 1) dX4_powerWith_32 rfl rfl ?_
    refine zz_getr F dX4_powerWith_33 wfRX4_36 zCl_3 rfl (⟨zlb rfl, zlb rfl, zlb rfl⟩) rfl (by decide) rfl (r' := 1) (by decide) ?_
    refine zz_iload F (i := 8) dX4_powerWith_36 rfl ?_
    refine zz_ix fun j5 hj5 hinj5 hej5 => zz_aal F dX4_powerWith_38 rfl (⟨zlb rfl, zlb rfl, zlb rfl⟩) rfl (by decide) rfl hinj5 hej5 rfl ?_
    refine zz_getf F dX4_powerWith_39 wfRX4_40 zCl_5 rfl (⟨zlb rfl, zlb rfl, hj5⟩) rfl (by decide) rfl rfl ?_
    refine zz_isub F dX4_powerWith_42 ?_
    refine zz_istore F (i := 9) (L' := [some (zr 0 0 0), some (zr 1 0 0), some (zi a2), some (zi a3), some (zi q3.1), some (zi q1.2), some (zi q3.2.1), some (zi q3.2.2.1), some (zi q3.2.2.2), some (zi (a2 - (s1 7 j5 0))), none, none, none, none]) dX4_powerWith_43 (by decide) rfl rfl ?_
    refine zz_letl (Lf := fun v6 => [some (zr 0 0 0), some (zr 1 0 0), some (zi a2), some (zi a3), some (zi q3.1), some (zi q1.2), some (zi q3.2.1), some (zi q3.2.2.1), some (zi q3.2.2.2), some (zi v6), none, none, none, none]) fun v6 => ?_
    refine zz_iload_n F (i := 3) dX4_powerWith_45 rfl rfl ?_
    refine zz_aload_n F (i := 1) dX4_powerWith_46 rfl rfl ?_
    refine zz_getr F dX4_powerWith_47 wfRX4_36 zCl_3 rfl (⟨zlb rfl, zlb rfl, zlb rfl⟩) rfl (by decide) rfl (r' := 1) (by decide) ?_
    refine zz_iload F (i := 8) dX4_powerWith_50 rfl ?_
    refine zz_ix fun j7 hj7 hinj7 hej7 => zz_aal F dX4_powerWith_52 rfl (⟨zlb rfl, zlb rfl, zlb rfl⟩) rfl (by decide) rfl hinj7 hej7 rfl ?_
    refine zz_getf F dX4_powerWith_53 wfRX4_45 zCl_5 rfl (⟨zlb rfl, zlb rfl, hj7⟩) rfl (by decide) rfl rfl ?_
    refine zz_isub F dX4_powerWith_56 ?_
    refine zz_istore F (i := 10) (L' := [some (zr 0 0 0), some (zr 1 0 0), some (zi a2), some (zi a3), some (zi q3.1), some (zi q1.2), some (zi q3.2.1), some (zi q3.2.2.1), some (zi q3.2.2.2), some (zi v6), some (zi (a3 - (s1 7 j7 1))), none, none, none]) dX4_powerWith_57 (by decide) rfl rfl ?_
    refine zz_letl (Lf := fun v8 => [some (zr 0 0 0), some (zr 1 0 0), some (zi a2), some (zi a3), some (zi q3.1), some (zi q1.2), some (zi q3.2.1), some (zi q3.2.2.1), some (zi q3.2.2.2), some (zi v6), some (zi v8), none, none, none]) fun v8 => ?_
    refine zz_iload F (i := 9) dX4_powerWith_59 rfl ?_
    refine zz_iload F (i := 10) dX4_powerWith_61 rfl ?_
    refine zz_iconst F (v := (0 : Int32)) dX4_powerWith_63 (by decide) ?_
    refine zz_iload F (i := 5) dX4_powerWith_64 rfl ?_
    refine zz_bind ?_
    refine zz_callSr F (ρ := []) (so := fun q9 => [zi q9]) (Mo := fun q9 => [s0, s1]) (zfWa_deficit v6 v8 (0 : Int32) q1.2) dX4_powerWith_66 wcRX4_48 wy_yX7_deficit rfl ⟨rel10, rfl, rfl, Nat.le_of_ble_eq_true rfl, Nat.le_of_ble_eq_true rfl, Nat.le_of_ble_eq_true rfl⟩ rfl (fun _ => rfl) (fun _ => rfl) fun q9 => ?_
    refine zz_istore F (i := 11) (L' := [some (zr 0 0 0), some (zr 1 0 0), some (zi a2), some (zi a3), some (zi q3.1), some (zi q1.2), some (zi q3.2.1), some (zi q3.2.2.1), some (zi q3.2.2.2), some (zi v6), some (zi v8), some (zi q9), none, none]) dX4_powerWith_69 (by decide) rfl rfl ?_
    refine zz_iload F (i := 9) dX4_powerWith_71 rfl ?_
    refine zz_ineg F dX4_powerWith_73 ?_
    refine zz_iload F (i := 10) dX4_powerWith_74 rfl ?_
    refine zz_ineg F dX4_powerWith_76 ?_
    refine zz_iconst F (v := (0 : Int32)) dX4_powerWith_77 (by decide) ?_
    refine zz_iload F (i := 5) dX4_powerWith_78 rfl ?_
    refine zz_bind ?_
    refine zz_callSr F (ρ := []) (so := fun q10 => [zi q10]) (Mo := fun q10 => [s0, s1]) (zfWa_deficit (-v6) (-v8) (0 : Int32) q1.2) dX4_powerWith_80 wcRX4_48 wy_yX7_deficit rfl ⟨rel10, rfl, rfl, Nat.le_of_ble_eq_true rfl, Nat.le_of_ble_eq_true rfl, Nat.le_of_ble_eq_true rfl⟩ rfl (fun _ => rfl) (fun _ => rfl) fun q10 => ?_
    refine zz_istore F (i := 12) (L' := [some (zr 0 0 0), some (zr 1 0 0), some (zi a2), some (zi a3), some (zi q3.1), some (zi q1.2), some (zi q3.2.1), some (zi q3.2.2.1), some (zi q3.2.2.2), some (zi v6), some (zi v8), some (zi q9), some (zi q10), none]) dX4_powerWith_83 (by decide) rfl rfl ?_
    refine zz_iload F (i := 5) dX4_powerWith_85 rfl ?_
    refine zz_bipush F (v := (8 : Int32)) dX4_powerWith_87 (by decide) ?_
    refine zz_imul F dX4_powerWith_89 ?_
    refine zz_iload F (i := 8) dX4_powerWith_90 rfl ?_
    refine zz_iadd F dX4_powerWith_92 ?_
    refine zz_istore F (i := 13) (L' := [some (zr 0 0 0), some (zr 1 0 0), some (zi a2), some (zi a3), some (zi q3.1), some (zi q1.2), some (zi q3.2.1), some (zi q3.2.2.1), some (zi q3.2.2.2), some (zi v6), some (zi v8), some (zi q9), some (zi q10), some (zi ((q1.2 * (8 : Int32)) + q3.2.2.2))]) dX4_powerWith_93 (by decide) rfl rfl ?_
    refine zz_letl (Lf := fun v11 => [some (zr 0 0 0), some (zr 1 0 0), some (zi a2), some (zi a3), some (zi q3.1), some (zi q1.2), some (zi q3.2.1), some (zi q3.2.2.1), some (zi q3.2.2.2), some (zi v6), some (zi v8), some (zi q9), some (zi q10), some (zi v11)]) fun v11 => ?_
    refine zz_iload F (i := 6) dX4_powerWith_95 rfl ?_
    refine zz_iload F (i := 11) dX4_powerWith_97 rfl ?_
    refine zz_max F dX4_powerWith_99 wmRX4_54 wMath_max (Nat.le_of_ble_eq_true rfl) (Nat.le_of_ble_eq_true rfl) ?_
    refine zz_istore F (i := 6) (L' := [some (zr 0 0 0), some (zr 1 0 0), some (zi a2), some (zi a3), some (zi q3.1), some (zi q1.2), some (zi (zmax q3.2.1 q9)), some (zi q3.2.2.1), some (zi q3.2.2.2), some (zi v6), some (zi v8), some (zi q9), some (zi q10), some (zi v11)]) dX4_powerWith_102 (by decide) rfl rfl ?_
    refine zz_letl (Lf := fun v12 => [some (zr 0 0 0), some (zr 1 0 0), some (zi a2), some (zi a3), some (zi q3.1), some (zi q1.2), some (zi v12), some (zi q3.2.2.1), some (zi q3.2.2.2), some (zi v6), some (zi v8), some (zi q9), some (zi q10), some (zi v11)]) fun v12 => ?_
    refine zz_iload F (i := 7) dX4_powerWith_104 rfl ?_
    refine zz_iload F (i := 11) dX4_powerWith_106 rfl ?_
    refine zz_iadd F dX4_powerWith_108 ?_
    refine zz_istore F (i := 7) (L' := [some (zr 0 0 0), some (zr 1 0 0), some (zi a2), some (zi a3), some (zi q3.1), some (zi q1.2), some (zi v12), some (zi (q3.2.2.1 + q9)), some (zi q3.2.2.2), some (zi v6), some (zi v8), some (zi q9), some (zi q10), some (zi v11)]) dX4_powerWith_109 (by decide) rfl rfl ?_
    refine zz_letl (Lf := fun v13 => [some (zr 0 0 0), some (zr 1 0 0), some (zi a2), some (zi a3), some (zi q3.1), some (zi q1.2), some (zi v12), some (zi v13), some (zi q3.2.2.2), some (zi v6), some (zi v8), some (zi q9), some (zi q10), some (zi v11)]) fun v13 => ?_
    refine zz_iload F (i := 4) dX4_powerWith_111 rfl ?_
    refine zz_aload_n F (i := 0) dX4_powerWith_113 rfl rfl ?_
    refine zz_getr F dX4_powerWith_114 wfRX4_9 zCl_4 rfl (⟨zlb rfl, zlb rfl, zlb rfl⟩) rfl (by decide) rfl (r' := 0) (by decide) ?_
    refine zz_iload F (i := 13) dX4_powerWith_117 rfl ?_
    refine zz_ix fun j14 hj14 hinj14 hej14 => zz_ial F dX4_powerWith_119 rfl (⟨zlb rfl, zlb rfl, zlb rfl⟩) rfl hinj14 hej14 ?_
    refine zz_iload F (i := 12) dX4_powerWith_120 rfl ?_
    refine zz_max F dX4_powerWith_122 wmRX4_54 wMath_max (Nat.le_of_ble_eq_true rfl) (Nat.le_of_ble_eq_true rfl) ?_
    refine zz_aload_n F (i := 0) dX4_powerWith_125 rfl rfl ?_
    refine zz_getr F dX4_powerWith_126 wfRX4_15 zCl_4 rfl (⟨zlb rfl, zlb rfl, zlb rfl⟩) rfl (by decide) rfl (r' := 0) (by decide) ?_
    refine zz_iload F (i := 13) dX4_powerWith_129 rfl ?_
    refine zz_ix fun j15 hj15 hinj15 hej15 => zz_ial F dX4_powerWith_131 rfl (⟨zlb rfl, zlb rfl, zlb rfl⟩) rfl hinj15 hej15 ?_
    refine zz_iload F (i := 12) dX4_powerWith_132 rfl ?_
    refine zz_iadd F dX4_powerWith_134 ?_
    refine zz_bind ?_
    refine zz_callSr F (ρ := []) (so := fun q16 => [zi q16, zi q3.1]) (Mo := fun q16 => [s0, s1]) (zfSi_powerAt (zmax (s0 1 0 j14) q10) ((s0 2 0 j15) + q10)) dX4_powerWith_135 wcRX4_60 wy_yX4_powerAt rfl ⟨rel10, rfl, rfl, Nat.le_of_ble_eq_true rfl, Nat.le_of_ble_eq_true rfl, Nat.le_of_ble_eq_true rfl⟩ rfl (fun _ => rfl) (fun _ => rfl) fun q16 => ?_
    refine zz_iadd F dX4_powerWith_138 ?_
    refine zz_istore F (i := 4) (L' := [some (zr 0 0 0), some (zr 1 0 0), some (zi a2), some (zi a3), some (zi (q3.1 + q16)), some (zi q1.2), some (zi v12), some (zi v13), some (zi q3.2.2.2), some (zi v6), some (zi v8), some (zi q9), some (zi q10), some (zi v11)]) dX4_powerWith_139 (by decide) rfl rfl ?_
    refine zz_letl (Lf := fun v17 => [some (zr 0 0 0), some (zr 1 0 0), some (zi a2), some (zi a3), some (zi v17), some (zi q1.2), some (zi v12), some (zi v13), some (zi q3.2.2.2), some (zi v6), some (zi v8), some (zi q9), some (zi q10), some (zi v11)]) fun v17 => ?_
    refine zz_iinc F (i := 8) (v := q3.2.2.2 + 1) (L' := [some (zr 0 0 0), some (zr 1 0 0), some (zi a2), some (zi a3), some (zi v17), some (zi q1.2), some (zi v12), some (zi v13), some (zi (q3.2.2.2 + 1)), some (zi v6), some (zi v8), some (zi q9), some (zi q10), some (zi v11)]) dX4_powerWith_141 rfl (by first | rfl | decide) (by decide) rfl rfl ?_
    refine zz_letl (Lf := fun v18 => [some (zr 0 0 0), some (zr 1 0 0), some (zi a2), some (zi a3), some (zi v17), some (zi q1.2), some (zi v12), some (zi v13), some (zi v18), some (zi v6), some (zi v8), some (zi q9), some (zi q10), some (zi v11)]) fun v18 => ?_
    refine zz_goto F (tgt := 22) dX4_powerWith_144 (by decide) ?_
    exact zz_sub (zs_k (zs_k (zs_k (zs_k (zs_k (zs_k (zs_k (zs_k (zs_k (zs_n (zs_n (zs_n (zs_n (zs_n zs_z)))))))))))))) (h1 (v17, v12, v13, v18))
set_option maxHeartbeats 4000000 in
set_option maxRecDepth 20000 in
theorem bfSi_powerWith_l6 {X : zX} (F : zFr X cX4_powerWith 14 RX4 (some .int)) (a2 : Int32) (a3 : Int32) (s0 : zM) (s1 : zM)  {ψ : (Int32 × Int32) ⊕ ((Int32)) → Option zO} (h1 : ∀ q1 : Int32 × Int32, zZ X [(1, []), (0, [])] 3 65 14 6 [some (zr 0 0 0), some (zr 1 0 0), some (zi a2), some (zi a3), some (zi q1.1), some (zi q1.2), none, none, none, none, none, none, none, none] [] [s0, s1] (ψ (.inl q1))) (h2 : ∀ q2 : Int32, zZ X [(1, []), (0, [])] 3 65 14 165 [none, none, none, none, some (zi q2), none, none, none, none, none, none, none, none, none] [] [s0, s1] (ψ (.inr q2))) (q1 : Int32 × Int32) : zZ X [(1, []), (0, [])] 3 65 14 6 [some (zr 0 0 0), some (zr 1 0 0), some (zi a2), some (zi a3), some (zi q1.1), some (zi q1.2), none, none, none, none, none, none, none, none] [] [s0, s1] (Option.bind (fSi_powerWith_l6 a2 a3 s0 s1 q1) ψ) := by
  unfold fSi_powerWith_l6
  refine zz_iload F (i := 5) dX4_powerWith_6 rfl ?_
  refine zz_bipush F (v := (8 : Int32)) dX4_powerWith_8 (by decide) ?_
  refine zz_icmp_ge F (tgt := 165) dX4_powerWith_10 (by decide) (fun h => zz_t h ?_) (fun h => zz_f h ?_)
  · exact zz_sub (zs_n (zs_n (zs_n (zs_n (zs_k (zs_n (zs_k (zs_k (zs_k (zs_k (zs_k (zs_k (zs_k (zs_k zs_z)))))))))))))) (h2 q1.1)
  · refine zz_iconst F (v := (0 : Int32)) dX4_powerWith_13 (by decide) ?_
    refine zz_istore F (i := 6) (L' := [some (zr 0 0 0), some (zr 1 0 0), some (zi a2), some (zi a3), some (zi q1.1), some (zi q1.2), some (zi (0 : Int32)), none, none, none, none, none, none, none]) dX4_powerWith_14 (by decide) rfl rfl ?_
    refine zz_iconst F (v := (0 : Int32)) dX4_powerWith_16 (by decide) ?_
    refine zz_istore F (i := 7) (L' := [some (zr 0 0 0), some (zr 1 0 0), some (zi a2), some (zi a3), some (zi q1.1), some (zi q1.2), some (zi (0 : Int32)), some (zi (0 : Int32)), none, none, none, none, none, none]) dX4_powerWith_17 (by decide) rfl rfl ?_
    refine zz_iconst F (v := (0 : Int32)) dX4_powerWith_19 (by decide) ?_
    refine zz_istore F (i := 8) (L' := [some (zr 0 0 0), some (zr 1 0 0), some (zi a2), some (zi a3), some (zi q1.1), some (zi q1.2), some (zi (0 : Int32)), some (zi (0 : Int32)), some (zi (0 : Int32)), none, none, none, none, none]) dX4_powerWith_20 (by decide) rfl rfl ?_
    refine zz_sub (zs_k (zs_k (zs_k (zs_k (zs_k (zs_k (zs_k (zs_k (zs_k (zs_k (zs_k (zs_k (zs_k (zs_k zs_z)))))))))))))) ?_
    refine zz_bind ?_
    refine zz_iter (Lf := fun q3 => [some (zr 0 0 0), some (zr 1 0 0), some (zi a2), some (zi a3), some (zi q3.1), some (zi q1.2), some (zi q3.2.1), some (zi q3.2.2.1), some (zi q3.2.2.2), none, none, none, none, none]) (Mf := fun q3 => [s0, s1]) (fun q3 _ e22 e23 => bfSi_powerWith_l22 F a2 a3 s0 s1 q1  e22 (fun q4 => ?_)  q3) 1000 (q1.1, (0 : Int32), (0 : Int32), (0 : Int32))
    rw [e23]
    refine zz_iload F (i := 4) dX4_powerWith_147 rfl ?_
    refine zz_iload F (i := 6) dX4_powerWith_149 rfl ?_
    refine zz_iload F (i := 7) dX4_powerWith_151 rfl ?_
    refine zz_bind ?_
    refine zz_callSr F (ρ := []) (so := fun q19 => [zi q19, zi q4.1]) (Mo := fun q19 => [s0, s1]) (zfSi_powerAt q4.2.1 q4.2.2) dX4_powerWith_153 wcRX4_60 wy_yX4_powerAt rfl ⟨rel10, rfl, rfl, Nat.le_of_ble_eq_true rfl, Nat.le_of_ble_eq_true rfl, Nat.le_of_ble_eq_true rfl⟩ rfl (fun _ => rfl) (fun _ => rfl) fun q19 => ?_
    refine zz_iadd F dX4_powerWith_156 ?_
    refine zz_istore F (i := 4) (L' := [some (zr 0 0 0), some (zr 1 0 0), some (zi a2), some (zi a3), some (zi (q4.1 + q19)), some (zi q1.2), some (zi q4.2.1), some (zi q4.2.2), none, none, none, none, none, none]) dX4_powerWith_157 (by decide) rfl rfl ?_
    refine zz_letl (Lf := fun v20 => [some (zr 0 0 0), some (zr 1 0 0), some (zi a2), some (zi a3), some (zi v20), some (zi q1.2), some (zi q4.2.1), some (zi q4.2.2), none, none, none, none, none, none]) fun v20 => ?_
    refine zz_iinc F (i := 5) (v := q1.2 + 1) (L' := [some (zr 0 0 0), some (zr 1 0 0), some (zi a2), some (zi a3), some (zi v20), some (zi (q1.2 + 1)), some (zi q4.2.1), some (zi q4.2.2), none, none, none, none, none, none]) dX4_powerWith_159 rfl (by first | rfl | decide) (by decide) rfl rfl ?_
    refine zz_letl (Lf := fun v21 => [some (zr 0 0 0), some (zr 1 0 0), some (zi a2), some (zi a3), some (zi v20), some (zi v21), some (zi q4.2.1), some (zi q4.2.2), none, none, none, none, none, none]) fun v21 => ?_
    refine zz_goto F (tgt := 6) dX4_powerWith_162 (by decide) ?_
    exact zz_sub (zs_k (zs_k (zs_k (zs_k (zs_k (zs_k (zs_n (zs_n (zs_k (zs_k (zs_k (zs_k (zs_k (zs_k zs_z)))))))))))))) (h1 (v20, v21))
set_option maxHeartbeats 4000000 in
set_option maxRecDepth 20000 in
theorem bfSi_powerWith {X : zX} (F : zFr X cX4_powerWith 14 RX4 (some .int)) (a2 : Int32) (a3 : Int32)  (s0 : zM) (s1 : zM) {κ : Int32 → Option zO} (hκ : ∀ a, κ a = some ((fun a => ((.inl ((fun q => some (zi q)) a), (fun _ => [s0, s1]) a) : zO)) a)) : zZ X [(1, []), (0, [])] 3 65 14 0 [some (zr 0 0 0), some (zr 1 0 0), some (zi a2), some (zi a3), none, none, none, none, none, none, none, none, none, none] [] [s0, s1] (Option.bind (fSi_powerWith a2 a3 s0 s1) κ) := by
  unfold fSi_powerWith
  refine zz_iconst F (v := (0 : Int32)) dX4_powerWith_0 (by decide) ?_
  refine zz_istore F (i := 4) (L' := [some (zr 0 0 0), some (zr 1 0 0), some (zi a2), some (zi a3), some (zi (0 : Int32)), none, none, none, none, none, none, none, none, none]) dX4_powerWith_1 (by decide) rfl rfl ?_
  refine zz_iconst F (v := (0 : Int32)) dX4_powerWith_3 (by decide) ?_
  refine zz_istore F (i := 5) (L' := [some (zr 0 0 0), some (zr 1 0 0), some (zi a2), some (zi a3), some (zi (0 : Int32)), some (zi (0 : Int32)), none, none, none, none, none, none, none, none]) dX4_powerWith_4 (by decide) rfl rfl ?_
  refine zz_sub (zs_k (zs_k (zs_k (zs_k (zs_k (zs_k (zs_k (zs_k (zs_k (zs_k (zs_k (zs_k (zs_k (zs_k zs_z)))))))))))))) ?_
  refine zz_bind ?_
  refine zz_iter (Lf := fun q1 => [some (zr 0 0 0), some (zr 1 0 0), some (zi a2), some (zi a3), some (zi q1.1), some (zi q1.2), none, none, none, none, none, none, none, none]) (Mf := fun q1 => [s0, s1]) (fun q1 _ e24 e25 => bfSi_powerWith_l6 F a2 a3 s0 s1  e24 (fun q2 => ?_)  q1) 1000 ((0 : Int32), (0 : Int32))
  rw [e25]
  refine zz_iload F (i := 4) dX4_powerWith_165 rfl ?_
  exact zz_ireturn F dX4_powerWith_167 rfl (hκ _)
theorem zfSi_powerWith (a2 : Int32) (a3 : Int32)  (s0 : zM) (s1 : zM) : ∀ a, fSi_powerWith a2 a3 s0 s1 = some a → zMet yX4_powerWith cX4_powerWith 14 (some .int) 3 65 [(1, []), (0, [])] [zr 0 0 0, zr 1 0 0, zi a2, zi a3] [s0, s1] ((fun a => ((.inl ((fun q => some (zi q)) a), (fun _ => [s0, s1]) a) : zO)) a) := fun a ha => zMet_of (L0 := [some (zr 0 0 0), some (zr 1 0 0), some (zi a2), some (zi a3), none, none, none, none, none, none, none, none, none, none]) (φ := Option.bind (fSi_powerWith a2 a3 s0 s1) (fun a => some ((fun a => ((.inl ((fun q => some (zi q)) a), (fun _ => [s0, s1]) a) : zO)) a))) (by decide) (fun _ => Nat.le_of_ble_eq_true rfl) (zl0 10 rfl) (fun X F => bfSi_powerWith F a2 a3 s0 s1 (fun _ => rfl)) (by rw [ha]; rfl)

theorem dX4_bestFor_0 : decode cX4_bestFor 0 = .ok (.iconst 0, 1) := by decide +kernel
theorem dX4_bestFor_1 : decode cX4_bestFor 1 = .ok (.istore_n 2, 1) := by decide +kernel
theorem dX4_bestFor_2 : decode cX4_bestFor 2 = .ok (.iload_n 2, 1) := by decide +kernel
theorem dX4_bestFor_3 : decode cX4_bestFor 3 = .ok (.bipush 8, 2) := by decide +kernel
theorem dX4_bestFor_5 : decode cX4_bestFor 5 = .ok (.if_icmp .ge 15, 3) := by decide +kernel
theorem dX4_bestFor_8 : decode cX4_bestFor 8 = .ok (.aload_n 0, 1) := by decide +kernel
theorem dX4_bestFor_9 : decode cX4_bestFor 9 = .ok (.aload_n 1, 1) := by decide +kernel
theorem dX4_bestFor_10 : decode cX4_bestFor 10 = .ok (.iload_n 2, 1) := by decide +kernel
theorem dX4_bestFor_11 : decode cX4_bestFor 11 = .ok (.invokevirtual 18, 3) := by decide +kernel
theorem dX4_bestFor_14 : decode cX4_bestFor 14 = .ok (.iinc 2 1, 3) := by decide +kernel
theorem dX4_bestFor_17 : decode cX4_bestFor 17 = .ok (.goto (-15), 3) := by decide +kernel
theorem dX4_bestFor_20 : decode cX4_bestFor 20 = .ok (.iconst (-1), 1) := by decide +kernel
theorem dX4_bestFor_21 : decode cX4_bestFor 21 = .ok (.istore_n 2, 1) := by decide +kernel
theorem dX4_bestFor_22 : decode cX4_bestFor 22 = .ok (.iconst (-1), 1) := by decide +kernel
theorem dX4_bestFor_23 : decode cX4_bestFor 23 = .ok (.istore_n 3, 1) := by decide +kernel
theorem dX4_bestFor_24 : decode cX4_bestFor 24 = .ok (.iconst 0, 1) := by decide +kernel
theorem dX4_bestFor_25 : decode cX4_bestFor 25 = .ok (.istore 4, 2) := by decide +kernel
theorem dX4_bestFor_27 : decode cX4_bestFor 27 = .ok (.iload 4, 2) := by decide +kernel
theorem dX4_bestFor_29 : decode cX4_bestFor 29 = .ok (.sipush 400, 3) := by decide +kernel
theorem dX4_bestFor_32 : decode cX4_bestFor 32 = .ok (.if_icmp .ge 61, 3) := by decide +kernel
theorem dX4_bestFor_35 : decode cX4_bestFor 35 = .ok (.iload 4, 2) := by decide +kernel
theorem dX4_bestFor_37 : decode cX4_bestFor 37 = .ok (.bipush 20, 2) := by decide +kernel
theorem dX4_bestFor_39 : decode cX4_bestFor 39 = .ok (.idiv, 1) := by decide +kernel
theorem dX4_bestFor_40 : decode cX4_bestFor 40 = .ok (.istore 5, 2) := by decide +kernel
theorem dX4_bestFor_42 : decode cX4_bestFor 42 = .ok (.iload 4, 2) := by decide +kernel
theorem dX4_bestFor_44 : decode cX4_bestFor 44 = .ok (.bipush 20, 2) := by decide +kernel
theorem dX4_bestFor_46 : decode cX4_bestFor 46 = .ok (.irem, 1) := by decide +kernel
theorem dX4_bestFor_47 : decode cX4_bestFor 47 = .ok (.istore 6, 2) := by decide +kernel
theorem dX4_bestFor_49 : decode cX4_bestFor 49 = .ok (.aload_n 1, 1) := by decide +kernel
theorem dX4_bestFor_50 : decode cX4_bestFor 50 = .ok (.iload 5, 2) := by decide +kernel
theorem dX4_bestFor_52 : decode cX4_bestFor 52 = .ok (.iload 6, 2) := by decide +kernel
theorem dX4_bestFor_54 : decode cX4_bestFor 54 = .ok (.invokevirtual 22, 3) := by decide +kernel
theorem dX4_bestFor_57 : decode cX4_bestFor 57 = .ok (.ifCond .eq 7, 3) := by decide +kernel
theorem dX4_bestFor_60 : decode cX4_bestFor 60 = .ok (.iconst (-1), 1) := by decide +kernel
theorem dX4_bestFor_61 : decode cX4_bestFor 61 = .ok (.goto 12, 3) := by decide +kernel
theorem dX4_bestFor_64 : decode cX4_bestFor 64 = .ok (.aload_n 0, 1) := by decide +kernel
theorem dX4_bestFor_65 : decode cX4_bestFor 65 = .ok (.aload_n 1, 1) := by decide +kernel
theorem dX4_bestFor_66 : decode cX4_bestFor 66 = .ok (.iload 5, 2) := by decide +kernel
theorem dX4_bestFor_68 : decode cX4_bestFor 68 = .ok (.iload 6, 2) := by decide +kernel
theorem dX4_bestFor_70 : decode cX4_bestFor 70 = .ok (.invokevirtual 28, 3) := by decide +kernel
theorem dX4_bestFor_73 : decode cX4_bestFor 73 = .ok (.istore 7, 2) := by decide +kernel
theorem dX4_bestFor_75 : decode cX4_bestFor 75 = .ok (.iload 7, 2) := by decide +kernel
theorem dX4_bestFor_77 : decode cX4_bestFor 77 = .ok (.iload_n 3, 1) := by decide +kernel
theorem dX4_bestFor_78 : decode cX4_bestFor 78 = .ok (.if_icmp .le 9, 3) := by decide +kernel
theorem dX4_bestFor_81 : decode cX4_bestFor 81 = .ok (.iload 7, 2) := by decide +kernel
theorem dX4_bestFor_83 : decode cX4_bestFor 83 = .ok (.istore_n 3, 1) := by decide +kernel
theorem dX4_bestFor_84 : decode cX4_bestFor 84 = .ok (.iload 4, 2) := by decide +kernel
theorem dX4_bestFor_86 : decode cX4_bestFor 86 = .ok (.istore_n 2, 1) := by decide +kernel
theorem dX4_bestFor_87 : decode cX4_bestFor 87 = .ok (.iinc 4 1, 3) := by decide +kernel
theorem dX4_bestFor_90 : decode cX4_bestFor 90 = .ok (.goto (-63), 3) := by decide +kernel
theorem dX4_bestFor_93 : decode cX4_bestFor 93 = .ok (.iload_n 2, 1) := by decide +kernel
theorem dX4_bestFor_94 : decode cX4_bestFor 94 = .ok (.ireturn, 1) := by decide +kernel
theorem wcRX4_18 : Cond.methodLink RX4 18 yX4_takeDeficits ∈ zTg ∧ Cond.instanceMethod yX4_takeDeficits ∈ zTg ∧ Cond.selects RX4 yX4_takeDeficits yX4_takeDeficits ∈ zTg ∧ Cond.initialized RX4 ∈ zTg ∧ Cond.code yX4_takeDeficits cX4_takeDeficits 8 none ∈ zTg := ⟨zm_f 847 (by decide +kernel) rfl, zm_f 849 (by decide +kernel) rfl, zm_f 17 (by decide +kernel) rfl, zm_f 29 (by decide +kernel) rfl, zm_f 850 (by decide +kernel) rfl⟩
theorem wy_yX4_takeDeficits : yX4_takeDeficits.cls = RX4 ∧ yX4_takeDeficits.cls ≠ "java/lang/invoke/MethodHandle" ∧ yX4_takeDeficits.cls ≠ "java/lang/invoke/VarHandle" ∧ (parseMethodDescriptor yX4_takeDeficits.desc).map (fun d => d.parameters.length) = some 2 := by decide +kernel
theorem rel11 : zRel [0, 1] [(1, []), (0, [])] [(1, []), (0, [])] := by unfold zRel; decide
theorem wcRX4_22 : Cond.methodLink RX4 22 yX3_isTaken ∈ zTg ∧ Cond.instanceMethod yX3_isTaken ∈ zTg ∧ Cond.selects RX3 yX3_isTaken yX3_isTaken ∈ zTg ∧ Cond.initialized RX3 ∈ zTg ∧ Cond.code yX3_isTaken cX3_isTaken 4 (some .boolean) ∈ zTg := ⟨zm_f 853 (by decide +kernel) rfl, zm_f 828 (by decide +kernel) rfl, zm_f 829 (by decide +kernel) rfl, zm_f 22 (by decide +kernel) rfl, zm_f 830 (by decide +kernel) rfl⟩
theorem rel12 : zRel [1] [(1, []), (0, [])] [(0, [])] := by unfold zRel; decide
theorem wcRX4_28 : Cond.methodLink RX4 28 yX4_powerWith ∈ zTg ∧ Cond.instanceMethod yX4_powerWith ∈ zTg ∧ Cond.selects RX4 yX4_powerWith yX4_powerWith ∈ zTg ∧ Cond.initialized RX4 ∈ zTg ∧ Cond.code yX4_powerWith cX4_powerWith 14 (some .int) ∈ zTg := ⟨zm_f 854 (by decide +kernel) rfl, zm_f 856 (by decide +kernel) rfl, zm_f 18 (by decide +kernel) rfl, zm_f 29 (by decide +kernel) rfl, zm_f 857 (by decide +kernel) rfl⟩
theorem wy_yX4_powerWith : yX4_powerWith.cls = RX4 ∧ yX4_powerWith.cls ≠ "java/lang/invoke/MethodHandle" ∧ yX4_powerWith.cls ≠ "java/lang/invoke/VarHandle" ∧ (parseMethodDescriptor yX4_powerWith.desc).map (fun d => d.parameters.length) = some 3 := by decide +kernel
def fSi_bestFor_l2 (s1 : zM) (q1 : Int32 × zM) : Option ((Int32 × zM) ⊕ ((zM))) :=
  if (8 : Int32) ≤ q1.1 then
  some (.inr q1.2)
else
  Option.bind (fSi_takeDeficits q1.1 q1.2 s1) fun q3 =>
    zlet (q1.1 + 1) fun v4 =>
    some (.inl (v4, q3))
def fSi_bestFor_l27 (s1 : zM) (q2 : (zM)) (q5 : Int32 × Int32 × Int32) : Option ((Int32 × Int32 × Int32) ⊕ ((Int32))) :=
  if (400 : Int32) ≤ q5.2.2 then
  some (.inr q5.1)
else
  zlet ((q5.2.2 / (20 : Int32))) fun v7 =>
    zlet ((q5.2.2 % (20 : Int32))) fun v8 =>
    Option.bind (fSe_isTaken v7 v8 s1) fun q9 =>
    Option.bind (if q9 = 0 then
    Option.bind (fSi_powerWith v7 v8 q2 s1) fun q14 =>
      some q14
  else
    some (-1 : Int32)) fun q10 =>
    Option.bind (if q10 ≤ q5.2.1 then
    some (q5.1, q5.2.1)
  else
    some (q5.2.2, q10)) fun q15 =>
    zlet (q5.2.2 + 1) fun v19 =>
    some (.inl (q15.1, q15.2, v19))
def fSi_bestFor  (s0 : zM) (s1 : zM) : Option (Int32 × zM) :=
  Option.bind (ziter (fSi_bestFor_l2 s1) 1000 ((0 : Int32), s0)) fun q2 =>
  Option.bind (ziter (fSi_bestFor_l27 s1 q2) 1000 ((-1 : Int32), (-1 : Int32), (0 : Int32))) fun q6 =>
  some (q6, q2)
set_option maxHeartbeats 4000000 in
set_option maxRecDepth 20000 in
theorem bfSi_bestFor_l2 {X : zX} (F : zFr X cX4_bestFor 8 RX4 (some .int)) (s1 : zM)  {ψ : (Int32 × zM) ⊕ ((zM)) → Option zO} (h1 : ∀ q1 : Int32 × zM, zZ X [(1, []), (0, [])] 4 98 8 2 [some (zr 0 0 0), some (zr 1 0 0), some (zi q1.1), none, none, none, none, none] [] [q1.2, s1] (ψ (.inl q1))) (h2 : ∀ q2 : zM, zZ X [(1, []), (0, [])] 4 98 8 20 [some (zr 0 0 0), some (zr 1 0 0), none, none, none, none, none, none] [] [q2, s1] (ψ (.inr q2))) (q1 : Int32 × zM) : zZ X [(1, []), (0, [])] 4 98 8 2 [some (zr 0 0 0), some (zr 1 0 0), some (zi q1.1), none, none, none, none, none] [] [q1.2, s1] (Option.bind (fSi_bestFor_l2 s1 q1) ψ) := by
  unfold fSi_bestFor_l2
  refine zz_iload_n F (i := 2) dX4_bestFor_2 rfl rfl ?_
  refine zz_bipush F (v := (8 : Int32)) dX4_bestFor_3 (by decide) ?_
  refine zz_icmp_ge F (tgt := 20) dX4_bestFor_5 (by decide) (fun h => zz_t h ?_) (fun h => zz_f h ?_)
  · exact zz_sub (zs_k (zs_k (zs_n (zs_k (zs_k (zs_k (zs_k (zs_k zs_z)))))))) (h2 q1.2)
  · refine zz_aload_n F (i := 0) dX4_bestFor_8 rfl rfl ?_
    refine zz_aload_n F (i := 1) dX4_bestFor_9 rfl rfl ?_
    refine zz_iload_n F (i := 2) dX4_bestFor_10 rfl rfl ?_
    refine zz_bind ?_
    refine zz_callVr F (ρ := [0, 1]) (so := fun q3 => []) (Mo := fun q3 => [q3, s1]) (zfSi_takeDeficits q1.1 q1.2 s1) dX4_bestFor_11 wcRX4_18 wy_yX4_takeDeficits rfl ⟨rel11, rfl, rfl, Nat.le_of_ble_eq_true rfl, Nat.le_of_ble_eq_true rfl, Nat.le_of_ble_eq_true rfl⟩ (⟨zlb rfl, zlb rfl, zlb rfl⟩) rfl rfl rfl (fun _ => rfl) (fun _ => rfl) fun q3 => ?_
    refine zz_iinc F (i := 2) (v := q1.1 + 1) (L' := [some (zr 0 0 0), some (zr 1 0 0), some (zi (q1.1 + 1)), none, none, none, none, none]) dX4_bestFor_14 rfl (by first | rfl | decide) (by decide) rfl rfl ?_
    refine zz_letl (Lf := fun v4 => [some (zr 0 0 0), some (zr 1 0 0), some (zi v4), none, none, none, none, none]) fun v4 => ?_
    refine zz_goto F (tgt := 2) dX4_bestFor_17 (by decide) ?_
    exact zz_sub (zs_k (zs_k (zs_k (zs_k (zs_k (zs_k (zs_k (zs_k zs_z)))))))) (h1 (v4, q3))
set_option maxHeartbeats 4000000 in
set_option maxRecDepth 20000 in
theorem bfSi_bestFor_l27 {X : zX} (F : zFr X cX4_bestFor 8 RX4 (some .int)) (s1 : zM) (q2 : (zM))  {ψ : (Int32 × Int32 × Int32) ⊕ ((Int32)) → Option zO} (h1 : ∀ q5 : Int32 × Int32 × Int32, zZ X [(1, []), (0, [])] 4 98 8 27 [some (zr 0 0 0), some (zr 1 0 0), some (zi q5.1), some (zi q5.2.1), some (zi q5.2.2), none, none, none] [] [q2, s1] (ψ (.inl q5))) (h2 : ∀ q6 : Int32, zZ X [(1, []), (0, [])] 4 98 8 93 [none, none, some (zi q6), none, none, none, none, none] [] [q2, s1] (ψ (.inr q6))) (q5 : Int32 × Int32 × Int32) : zZ X [(1, []), (0, [])] 4 98 8 27 [some (zr 0 0 0), some (zr 1 0 0), some (zi q5.1), some (zi q5.2.1), some (zi q5.2.2), none, none, none] [] [q2, s1] (Option.bind (fSi_bestFor_l27 s1 q2 q5) ψ) := by
  unfold fSi_bestFor_l27
  refine zz_iload F (i := 4) dX4_bestFor_27 rfl ?_
  refine zz_sipush F (v := (400 : Int32)) dX4_bestFor_29 (by decide) ?_
  refine zz_icmp_ge F (tgt := 93) dX4_bestFor_32 (by decide) (fun h => zz_t h ?_) (fun h => zz_f h ?_)
  · exact zz_sub (zs_n (zs_n (zs_k (zs_n (zs_n (zs_k (zs_k (zs_k zs_z)))))))) (h2 q5.1)
  · refine zz_iload F (i := 4) dX4_bestFor_35 rfl ?_
    refine zz_bipush F (v := (20 : Int32)) dX4_bestFor_37 (by decide) ?_
    refine zz_idiv F dX4_bestFor_39 (by decide) ?_
    refine zz_istore F (i := 5) (L' := [some (zr 0 0 0), some (zr 1 0 0), some (zi q5.1), some (zi q5.2.1), some (zi q5.2.2), some (zi (q5.2.2 / (20 : Int32))), none, none]) dX4_bestFor_40 (by decide) rfl rfl ?_
    refine zz_letl (Lf := fun v7 => [some (zr 0 0 0), some (zr 1 0 0), some (zi q5.1), some (zi q5.2.1), some (zi q5.2.2), some (zi v7), none, none]) fun v7 => ?_
    refine zz_iload F (i := 4) dX4_bestFor_42 rfl ?_
    refine zz_bipush F (v := (20 : Int32)) dX4_bestFor_44 (by decide) ?_
    refine zz_irem F dX4_bestFor_46 (by decide) ?_
    refine zz_istore F (i := 6) (L' := [some (zr 0 0 0), some (zr 1 0 0), some (zi q5.1), some (zi q5.2.1), some (zi q5.2.2), some (zi v7), some (zi (q5.2.2 % (20 : Int32))), none]) dX4_bestFor_47 (by decide) rfl rfl ?_
    refine zz_letl (Lf := fun v8 => [some (zr 0 0 0), some (zr 1 0 0), some (zi q5.1), some (zi q5.2.1), some (zi q5.2.2), some (zi v7), some (zi v8), none]) fun v8 => ?_
    refine zz_aload_n F (i := 1) dX4_bestFor_49 rfl rfl ?_
    refine zz_iload F (i := 5) dX4_bestFor_50 rfl ?_
    refine zz_iload F (i := 6) dX4_bestFor_52 rfl ?_
    refine zz_bind ?_
    refine zz_callVr F (ρ := [1]) (so := fun q9 => [zi q9]) (Mo := fun q9 => [q2, s1]) (zfSe_isTaken v7 v8 s1) dX4_bestFor_54 wcRX4_22 wy_yX3_isTaken rfl ⟨rel12, rfl, rfl, Nat.le_of_ble_eq_true rfl, Nat.le_of_ble_eq_true rfl, Nat.le_of_ble_eq_true rfl⟩ (⟨zlb rfl, zlb rfl, zlb rfl⟩) rfl rfl rfl (fun _ => rfl) (fun _ => rfl) fun q9 => ?_
    refine zz_join (pj := 73) (Lj := fun q10 => [some (zr 0 0 0), some (zr 1 0 0), some (zi q5.1), some (zi q5.2.1), some (zi q5.2.2), none, none, none]) (Sj := fun q10 => [zi q10]) (Mj := fun q10 => [q2, s1]) (fun q10 => ?_) (fun κ12 hj11 => ?_)
    · refine zz_istore F (i := 7) (L' := [some (zr 0 0 0), some (zr 1 0 0), some (zi q5.1), some (zi q5.2.1), some (zi q5.2.2), none, none, some (zi q10)]) dX4_bestFor_73 (by decide) rfl rfl ?_
      refine zz_iload F (i := 7) dX4_bestFor_75 rfl ?_
      refine zz_iload_n F (i := 3) dX4_bestFor_77 rfl rfl ?_
      refine zz_join (pj := 87) (Lj := fun q15 => [some (zr 0 0 0), some (zr 1 0 0), some (zi q15.1), some (zi q15.2), some (zi q5.2.2), none, none, none]) (Sj := fun q15 => []) (Mj := fun q15 => [q2, s1]) (fun q15 => ?_) (fun κ17 hj16 => ?_)
      · refine zz_iinc F (i := 4) (v := q5.2.2 + 1) (L' := [some (zr 0 0 0), some (zr 1 0 0), some (zi q15.1), some (zi q15.2), some (zi (q5.2.2 + 1)), none, none, none]) dX4_bestFor_87 rfl (by first | rfl | decide) (by decide) rfl rfl ?_
        refine zz_letl (Lf := fun v19 => [some (zr 0 0 0), some (zr 1 0 0), some (zi q15.1), some (zi q15.2), some (zi v19), none, none, none]) fun v19 => ?_
        refine zz_goto F (tgt := 27) dX4_bestFor_90 (by decide) ?_
        exact zz_sub (zs_k (zs_k (zs_k (zs_k (zs_k (zs_k (zs_k (zs_k zs_z)))))))) (h1 (q15.1, q15.2, v19))
      · refine zz_icmp_le F (tgt := 87) dX4_bestFor_78 (by decide) (fun h => zz_t h ?_) (fun h => zz_f h ?_)
        · exact zz_sub (zs_k (zs_k (zs_k (zs_k (zs_k (zs_k (zs_k (zs_n zs_z)))))))) (hj16 (q5.1, q5.2.1))
        · refine zz_iload F (i := 7) dX4_bestFor_81 rfl ?_
          refine zz_istore_n F (i := 3) (L' := [some (zr 0 0 0), some (zr 1 0 0), some (zi q5.1), some (zi q10), some (zi q5.2.2), none, none, some (zi q10)]) dX4_bestFor_83 rfl (by decide) rfl rfl ?_
          refine zz_iload F (i := 4) dX4_bestFor_84 rfl ?_
          refine zz_istore_n F (i := 2) (L' := [some (zr 0 0 0), some (zr 1 0 0), some (zi q5.2.2), some (zi q10), some (zi q5.2.2), none, none, some (zi q10)]) dX4_bestFor_86 rfl (by decide) rfl rfl ?_
          exact zz_sub (zs_k (zs_k (zs_k (zs_k (zs_k (zs_k (zs_k (zs_n zs_z)))))))) (hj16 (q5.2.2, q10))
    · refine zz_if_eq F (tgt := 64) dX4_bestFor_57 (by decide) (fun h => zz_t h ?_) (fun h => zz_f h ?_)
      · refine zz_aload_n F (i := 0) dX4_bestFor_64 rfl rfl ?_
        refine zz_aload_n F (i := 1) dX4_bestFor_65 rfl rfl ?_
        refine zz_iload F (i := 5) dX4_bestFor_66 rfl ?_
        refine zz_iload F (i := 6) dX4_bestFor_68 rfl ?_
        refine zz_bind ?_
        refine zz_callVr F (ρ := [0, 1]) (so := fun q14 => [zi q14]) (Mo := fun q14 => [q2, s1]) (zfSi_powerWith v7 v8 q2 s1) dX4_bestFor_70 wcRX4_28 wy_yX4_powerWith rfl ⟨rel11, rfl, rfl, Nat.le_of_ble_eq_true rfl, Nat.le_of_ble_eq_true rfl, Nat.le_of_ble_eq_true rfl⟩ (⟨zlb rfl, zlb rfl, zlb rfl⟩) rfl rfl rfl (fun _ => rfl) (fun _ => rfl) fun q14 => ?_
        exact zz_sub (zs_k (zs_k (zs_k (zs_k (zs_k (zs_n (zs_n (zs_k zs_z)))))))) (hj11 q14)
      · refine zz_iconst F (v := (-1 : Int32)) dX4_bestFor_60 (by decide) ?_
        refine zz_goto F (tgt := 73) dX4_bestFor_61 (by decide) ?_
        exact zz_sub (zs_k (zs_k (zs_k (zs_k (zs_k (zs_n (zs_n (zs_k zs_z)))))))) (hj11 (-1 : Int32))
set_option maxHeartbeats 4000000 in
set_option maxRecDepth 20000 in
theorem bfSi_bestFor {X : zX} (F : zFr X cX4_bestFor 8 RX4 (some .int))   (s0 : zM) (s1 : zM) {κ : Int32 × zM → Option zO} (hκ : ∀ a, κ a = some ((fun a => ((.inl ((fun q => some (zi q.1)) a), (fun q => [q.2, s1]) a) : zO)) a)) : zZ X [(1, []), (0, [])] 4 98 8 0 [some (zr 0 0 0), some (zr 1 0 0), none, none, none, none, none, none] [] [s0, s1] (Option.bind (fSi_bestFor s0 s1) κ) := by
  unfold fSi_bestFor
  refine zz_iconst F (v := (0 : Int32)) dX4_bestFor_0 (by decide) ?_
  refine zz_istore_n F (i := 2) (L' := [some (zr 0 0 0), some (zr 1 0 0), some (zi (0 : Int32)), none, none, none, none, none]) dX4_bestFor_1 rfl (by decide) rfl rfl ?_
  refine zz_sub (zs_k (zs_k (zs_k (zs_k (zs_k (zs_k (zs_k (zs_k zs_z)))))))) ?_
  refine zz_bind ?_
  refine zz_iter (Lf := fun q1 => [some (zr 0 0 0), some (zr 1 0 0), some (zi q1.1), none, none, none, none, none]) (Mf := fun q1 => [q1.2, s1]) (fun q1 _ e22 e23 => bfSi_bestFor_l2 F s1  e22 (fun q2 => ?_)  q1) 1000 ((0 : Int32), s0)
  rw [e23]
  refine zz_iconst F (v := (-1 : Int32)) dX4_bestFor_20 (by decide) ?_
  refine zz_istore_n F (i := 2) (L' := [some (zr 0 0 0), some (zr 1 0 0), some (zi (-1 : Int32)), none, none, none, none, none]) dX4_bestFor_21 rfl (by decide) rfl rfl ?_
  refine zz_iconst F (v := (-1 : Int32)) dX4_bestFor_22 (by decide) ?_
  refine zz_istore_n F (i := 3) (L' := [some (zr 0 0 0), some (zr 1 0 0), some (zi (-1 : Int32)), some (zi (-1 : Int32)), none, none, none, none]) dX4_bestFor_23 rfl (by decide) rfl rfl ?_
  refine zz_iconst F (v := (0 : Int32)) dX4_bestFor_24 (by decide) ?_
  refine zz_istore F (i := 4) (L' := [some (zr 0 0 0), some (zr 1 0 0), some (zi (-1 : Int32)), some (zi (-1 : Int32)), some (zi (0 : Int32)), none, none, none]) dX4_bestFor_25 (by decide) rfl rfl ?_
  refine zz_sub (zs_k (zs_k (zs_k (zs_k (zs_k (zs_k (zs_k (zs_k zs_z)))))))) ?_
  refine zz_bind ?_
  refine zz_iter (Lf := fun q5 => [some (zr 0 0 0), some (zr 1 0 0), some (zi q5.1), some (zi q5.2.1), some (zi q5.2.2), none, none, none]) (Mf := fun q5 => [q2, s1]) (fun q5 _ e20 e21 => bfSi_bestFor_l27 F s1 q2  e20 (fun q6 => ?_)  q5) 1000 ((-1 : Int32), (-1 : Int32), (0 : Int32))
  rw [e21]
  refine zz_iload_n F (i := 2) dX4_bestFor_93 rfl rfl ?_
  exact zz_ireturn F dX4_bestFor_94 rfl (hκ _)
theorem zfSi_bestFor   (s0 : zM) (s1 : zM) : ∀ a, fSi_bestFor s0 s1 = some a → zMet yX4_bestFor cX4_bestFor 8 (some .int) 4 98 [(1, []), (0, [])] [zr 0 0 0, zr 1 0 0] [s0, s1] ((fun a => ((.inl ((fun q => some (zi q.1)) a), (fun q => [q.2, s1]) a) : zO)) a) := fun a ha => zMet_of (L0 := [some (zr 0 0 0), some (zr 1 0 0), none, none, none, none, none, none]) (φ := Option.bind (fSi_bestFor s0 s1) (fun a => some ((fun a => ((.inl ((fun q => some (zi q.1)) a), (fun q => [q.2, s1]) a) : zO)) a))) (by decide) (fun _ => Nat.le_of_ble_eq_true rfl) (zl0 6 rfl) (fun X F => bfSi_bestFor F s0 s1 (fun _ => rfl)) (by rw [ha]; rfl)
