theorem dX1_takeOut_0 : decode cX1_takeOut 0 = .ok (.iload_n 1, 1) := by decide +kernel
theorem dX1_takeOut_1 : decode cX1_takeOut 1 = .ok (.istore_n 3, 1) := by decide +kernel
theorem dX1_takeOut_2 : decode cX1_takeOut 2 = .ok (.iload_n 3, 1) := by decide +kernel
theorem dX1_takeOut_3 : decode cX1_takeOut 3 = .ok (.iload_n 2, 1) := by decide +kernel
theorem dX1_takeOut_4 : decode cX1_takeOut 4 = .ok (.iadd, 1) := by decide +kernel
theorem dX1_takeOut_5 : decode cX1_takeOut 5 = .ok (.aload_n 0, 1) := by decide +kernel
theorem dX1_takeOut_6 : decode cX1_takeOut 6 = .ok (.getfield 21, 3) := by decide +kernel
theorem dX1_takeOut_9 : decode cX1_takeOut 9 = .ok (.if_icmp .ge 23, 3) := by decide +kernel
theorem dX1_takeOut_12 : decode cX1_takeOut 12 = .ok (.aload_n 0, 1) := by decide +kernel
theorem dX1_takeOut_13 : decode cX1_takeOut 13 = .ok (.getfield 9, 3) := by decide +kernel
theorem dX1_takeOut_16 : decode cX1_takeOut 16 = .ok (.iload_n 3, 1) := by decide +kernel
theorem dX1_takeOut_17 : decode cX1_takeOut 17 = .ok (.aload_n 0, 1) := by decide +kernel
theorem dX1_takeOut_18 : decode cX1_takeOut 18 = .ok (.getfield 9, 3) := by decide +kernel
theorem dX1_takeOut_21 : decode cX1_takeOut 21 = .ok (.iload_n 3, 1) := by decide +kernel
theorem dX1_takeOut_22 : decode cX1_takeOut 22 = .ok (.iload_n 2, 1) := by decide +kernel
theorem dX1_takeOut_23 : decode cX1_takeOut 23 = .ok (.iadd, 1) := by decide +kernel
theorem dX1_takeOut_24 : decode cX1_takeOut 24 = .ok (.iaload, 1) := by decide +kernel
theorem dX1_takeOut_25 : decode cX1_takeOut 25 = .ok (.iastore, 1) := by decide +kernel
theorem dX1_takeOut_26 : decode cX1_takeOut 26 = .ok (.iinc 3 1, 3) := by decide +kernel
theorem dX1_takeOut_29 : decode cX1_takeOut 29 = .ok (.goto (-27), 3) := by decide +kernel
theorem dX1_takeOut_32 : decode cX1_takeOut 32 = .ok (.aload_n 0, 1) := by decide +kernel
theorem dX1_takeOut_33 : decode cX1_takeOut 33 = .ok (.dup, 1) := by decide +kernel
theorem dX1_takeOut_34 : decode cX1_takeOut 34 = .ok (.getfield 21, 3) := by decide +kernel
theorem dX1_takeOut_37 : decode cX1_takeOut 37 = .ok (.iload_n 2, 1) := by decide +kernel
theorem dX1_takeOut_38 : decode cX1_takeOut 38 = .ok (.isub, 1) := by decide +kernel
theorem dX1_takeOut_39 : decode cX1_takeOut 39 = .ok (.putfield 21, 3) := by decide +kernel
theorem dX1_takeOut_42 : decode cX1_takeOut 42 = .ok (.return_, 1) := by decide +kernel
theorem wpRX1_21 : zFw RX1 21 1 1 .int := ⟨_, rfl, by decide, zm_f 513 (by decide +kernel) rfl, rfl, by decide +kernel⟩
def fEx_takeOut_l2 (i : Nat) (a2 : Int32) (q1 : Int32 × zM) : Option ((Int32 × zM) ⊕ ((zM))) :=
  if (q1.2 10 i 1) ≤ (q1.1 + a2) then
  some (.inr q1.2)
else
  zix (q1.1 + a2) 30 fun j3 =>
    zix q1.1 30 fun j4 =>
    zlet (zu q1.2 11 i j4 (q1.2 11 i j3)) fun s0_5 =>
    zlet (q1.1 + 1) fun v6 =>
    some (.inl (v6, s0_5))
def fEx_takeOut (i : Nat) (a1 : Int32) (a2 : Int32) (s0 : zM) : Option (zM) :=
  Option.bind (ziter (fEx_takeOut_l2 i a2) 1000 (a1, s0)) fun q2 =>
  zlet (zu q2 10 i 1 ((q2 10 i 1) - a2)) fun s0_7 =>
  some s0_7
set_option maxHeartbeats 4000000 in
set_option maxRecDepth 20000 in
theorem bfEx_takeOut_l2 {X : zX} (F : zFr X cX1_takeOut 4 RX1 none) (i : Nat) (a2 : Int32) (hi : i < 8) {ψ : (Int32 × zM) ⊕ ((zM)) → Option zO} (h1 : ∀ q1 : Int32 × zM, zZ X [(0, [])] 0 0 4 2 [some (zr 0 10 i), none, some (zi a2), some (zi q1.1)] [] [q1.2] (ψ (.inl q1))) (h2 : ∀ q2 : zM, zZ X [(0, [])] 0 0 4 32 [some (zr 0 10 i), none, some (zi a2), none] [] [q2] (ψ (.inr q2))) (q1 : Int32 × zM) : zZ X [(0, [])] 0 0 4 2 [some (zr 0 10 i), none, some (zi a2), some (zi q1.1)] [] [q1.2] (Option.bind (fEx_takeOut_l2 i a2 q1) ψ) := by
  unfold fEx_takeOut_l2
  refine zz_iload_n F (i := 3) dX1_takeOut_2 rfl rfl ?_
  refine zz_iload_n F (i := 2) dX1_takeOut_3 rfl rfl ?_
  refine zz_iadd F dX1_takeOut_4 ?_
  refine zz_aload_n F (i := 0) dX1_takeOut_5 rfl rfl ?_
  refine zz_getf F dX1_takeOut_6 wfRX1_21 zCl_1 rfl (⟨zlb rfl, zlb rfl, hi⟩) rfl (by decide) rfl rfl ?_
  refine zz_icmp_ge F (tgt := 32) dX1_takeOut_9 (by decide) (fun h => zz_t h ?_) (fun h => zz_f h ?_)
  · exact zz_sub (zs_k (zs_k (zs_k (zs_n zs_z)))) (h2 q1.2)
  · refine zz_aload_n F (i := 0) dX1_takeOut_12 rfl rfl ?_
    refine zz_getr F dX1_takeOut_13 wfRX1_9 zCl_1 rfl (⟨zlb rfl, zlb rfl, hi⟩) rfl (by decide) rfl (r' := 0) (by decide) ?_
    refine zz_iload_n F (i := 3) dX1_takeOut_16 rfl rfl ?_
    refine zz_aload_n F (i := 0) dX1_takeOut_17 rfl rfl ?_
    refine zz_getr F dX1_takeOut_18 wfRX1_9 zCl_1 rfl (⟨zlb rfl, zlb rfl, hi⟩) rfl (by decide) rfl (r' := 0) (by decide) ?_
    refine zz_iload_n F (i := 3) dX1_takeOut_21 rfl rfl ?_
    refine zz_iload_n F (i := 2) dX1_takeOut_22 rfl rfl ?_
    refine zz_iadd F dX1_takeOut_23 ?_
    refine zz_ix fun j3 hj3 hinj3 hej3 => zz_ial F dX1_takeOut_24 rfl (⟨zlb rfl, zlb rfl, hi⟩) rfl hinj3 hej3 ?_
    refine zz_ix fun j4 hj4 hinj4 hej4 => zz_ias F (Ms' := [(zu q1.2 11 i j4 (q1.2 11 i j3))]) dX1_takeOut_25 rfl (⟨zlb rfl, zlb rfl, hi⟩) rfl hinj4 hej4 rfl ?_
    refine zz_letm (Mf := fun s0_5 => [s0_5]) fun s0_5 => ?_
    refine zz_iinc F (i := 3) (v := q1.1 + 1) (L' := [some (zr 0 10 i), none, some (zi a2), some (zi (q1.1 + 1))]) dX1_takeOut_26 rfl (by first | rfl | decide) (by decide) rfl rfl ?_
    refine zz_letl (Lf := fun v6 => [some (zr 0 10 i), none, some (zi a2), some (zi v6)]) fun v6 => ?_
    refine zz_goto F (tgt := 2) dX1_takeOut_29 (by decide) ?_
    exact zz_sub (zs_k (zs_k (zs_k (zs_k zs_z)))) (h1 (v6, s0_5))
set_option maxHeartbeats 4000000 in
set_option maxRecDepth 20000 in
theorem bfEx_takeOut {X : zX} (F : zFr X cX1_takeOut 4 RX1 none) (i : Nat) (a1 : Int32) (a2 : Int32) (hi : i < 8) (s0 : zM) {κ : zM → Option zO} (hκ : ∀ a, κ a = some ((fun a => ((.inl ((fun _ => (none : Option zV)) a), (fun q => [q]) a) : zO)) a)) : zZ X [(0, [])] 0 0 4 0 [some (zr 0 10 i), some (zi a1), some (zi a2), none] [] [s0] (Option.bind (fEx_takeOut i a1 a2 s0) κ) := by
  unfold fEx_takeOut
  refine zz_iload_n F (i := 1) dX1_takeOut_0 rfl rfl ?_
  refine zz_istore_n F (i := 3) (L' := [some (zr 0 10 i), some (zi a1), some (zi a2), some (zi a1)]) dX1_takeOut_1 rfl (by decide) rfl rfl ?_
  refine zz_sub (zs_k (zs_n (zs_k (zs_k zs_z)))) ?_
  refine zz_bind ?_
  refine zz_iter (Lf := fun q1 => [some (zr 0 10 i), none, some (zi a2), some (zi q1.1)]) (Mf := fun q1 => [q1.2]) (fun q1 _ e8 e9 => bfEx_takeOut_l2 F i a2 hi e8 (fun q2 => ?_)  q1) 1000 (a1, s0)
  rw [e9]
  refine zz_aload_n F (i := 0) dX1_takeOut_32 rfl rfl ?_
  refine zz_dup F dX1_takeOut_33 rfl ?_
  refine zz_getf F dX1_takeOut_34 wfRX1_21 zCl_1 rfl (⟨zlb rfl, zlb rfl, hi⟩) rfl (by decide) rfl rfl ?_
  refine zz_iload_n F (i := 2) dX1_takeOut_37 rfl rfl ?_
  refine zz_isub F dX1_takeOut_38 ?_
  refine zz_put F (Ms' := [(zu q2 10 i 1 ((q2 10 i 1) - a2))]) dX1_takeOut_39 wpRX1_21 zCl_1 rfl (⟨zlb rfl, zlb rfl, hi⟩) rfl (by decide) rfl rfl rfl ?_
  refine zz_letm (Mf := fun s0_7 => [s0_7]) fun s0_7 => ?_
  exact zz_return F dX1_takeOut_42 rfl (hκ _)
theorem zfEx_takeOut (i : Nat) (a1 : Int32) (a2 : Int32) (hi : i < 8) (s0 : zM) : ∀ a, fEx_takeOut i a1 a2 s0 = some a → zMet yX1_takeOut cX1_takeOut 4 none 0 0 [(0, [])] [zr 0 10 i, zi a1, zi a2] [s0] ((fun a => ((.inl ((fun _ => (none : Option zV)) a), (fun q => [q]) a) : zO)) a) := fun a ha => zMet_of (L0 := [some (zr 0 10 i), some (zi a1), some (zi a2), none]) (φ := Option.bind (fEx_takeOut i a1 a2 s0) (fun a => some ((fun a => ((.inl ((fun _ => (none : Option zV)) a), (fun q => [q]) a) : zO)) a))) (by decide) (fun _ => Nat.le_of_ble_eq_true rfl) (zl0 1 rfl) (fun X F => bfEx_takeOut F i a1 a2 hi s0 (fun _ => rfl)) (by rw [ha]; rfl)

theorem dX1_hasCycle_0 : decode cX1_hasCycle 0 = .ok (.aload_n 0, 1) := by decide +kernel
theorem dX1_hasCycle_1 : decode cX1_hasCycle 1 = .ok (.getfield 21, 3) := by decide +kernel
theorem dX1_hasCycle_4 : decode cX1_hasCycle 4 = .ok (.iconst 3, 1) := by decide +kernel
theorem dX1_hasCycle_5 : decode cX1_hasCycle 5 = .ok (.if_icmp .lt 62, 3) := by decide +kernel
theorem dX1_hasCycle_8 : decode cX1_hasCycle 8 = .ok (.aload_n 0, 1) := by decide +kernel
theorem dX1_hasCycle_9 : decode cX1_hasCycle 9 = .ok (.getfield 9, 3) := by decide +kernel
theorem dX1_hasCycle_12 : decode cX1_hasCycle 12 = .ok (.aload_n 0, 1) := by decide +kernel
theorem dX1_hasCycle_13 : decode cX1_hasCycle 13 = .ok (.getfield 21, 3) := by decide +kernel
theorem dX1_hasCycle_16 : decode cX1_hasCycle 16 = .ok (.iconst 1, 1) := by decide +kernel
theorem dX1_hasCycle_17 : decode cX1_hasCycle 17 = .ok (.isub, 1) := by decide +kernel
theorem dX1_hasCycle_18 : decode cX1_hasCycle 18 = .ok (.iaload, 1) := by decide +kernel
theorem dX1_hasCycle_19 : decode cX1_hasCycle 19 = .ok (.aload_n 0, 1) := by decide +kernel
theorem dX1_hasCycle_20 : decode cX1_hasCycle 20 = .ok (.getfield 9, 3) := by decide +kernel
theorem dX1_hasCycle_23 : decode cX1_hasCycle 23 = .ok (.aload_n 0, 1) := by decide +kernel
theorem dX1_hasCycle_24 : decode cX1_hasCycle 24 = .ok (.getfield 21, 3) := by decide +kernel
theorem dX1_hasCycle_27 : decode cX1_hasCycle 27 = .ok (.iconst 2, 1) := by decide +kernel
theorem dX1_hasCycle_28 : decode cX1_hasCycle 28 = .ok (.isub, 1) := by decide +kernel
theorem dX1_hasCycle_29 : decode cX1_hasCycle 29 = .ok (.iaload, 1) := by decide +kernel
theorem dX1_hasCycle_30 : decode cX1_hasCycle 30 = .ok (.isub, 1) := by decide +kernel
theorem dX1_hasCycle_31 : decode cX1_hasCycle 31 = .ok (.invokestatic 43, 3) := by decide +kernel
theorem dX1_hasCycle_34 : decode cX1_hasCycle 34 = .ok (.aload_n 0, 1) := by decide +kernel
theorem dX1_hasCycle_35 : decode cX1_hasCycle 35 = .ok (.getfield 9, 3) := by decide +kernel
theorem dX1_hasCycle_38 : decode cX1_hasCycle 38 = .ok (.aload_n 0, 1) := by decide +kernel
theorem dX1_hasCycle_39 : decode cX1_hasCycle 39 = .ok (.getfield 21, 3) := by decide +kernel
theorem dX1_hasCycle_42 : decode cX1_hasCycle 42 = .ok (.iconst 2, 1) := by decide +kernel
theorem dX1_hasCycle_43 : decode cX1_hasCycle 43 = .ok (.isub, 1) := by decide +kernel
theorem dX1_hasCycle_44 : decode cX1_hasCycle 44 = .ok (.iaload, 1) := by decide +kernel
theorem dX1_hasCycle_45 : decode cX1_hasCycle 45 = .ok (.aload_n 0, 1) := by decide +kernel
theorem dX1_hasCycle_46 : decode cX1_hasCycle 46 = .ok (.getfield 9, 3) := by decide +kernel
theorem dX1_hasCycle_49 : decode cX1_hasCycle 49 = .ok (.aload_n 0, 1) := by decide +kernel
theorem dX1_hasCycle_50 : decode cX1_hasCycle 50 = .ok (.getfield 21, 3) := by decide +kernel
theorem dX1_hasCycle_53 : decode cX1_hasCycle 53 = .ok (.iconst 3, 1) := by decide +kernel
theorem dX1_hasCycle_54 : decode cX1_hasCycle 54 = .ok (.isub, 1) := by decide +kernel
theorem dX1_hasCycle_55 : decode cX1_hasCycle 55 = .ok (.iaload, 1) := by decide +kernel
theorem dX1_hasCycle_56 : decode cX1_hasCycle 56 = .ok (.isub, 1) := by decide +kernel
theorem dX1_hasCycle_57 : decode cX1_hasCycle 57 = .ok (.invokestatic 43, 3) := by decide +kernel
theorem dX1_hasCycle_60 : decode cX1_hasCycle 60 = .ok (.if_icmp .lt 7, 3) := by decide +kernel
theorem dX1_hasCycle_63 : decode cX1_hasCycle 63 = .ok (.iconst 1, 1) := by decide +kernel
theorem dX1_hasCycle_64 : decode cX1_hasCycle 64 = .ok (.goto 4, 3) := by decide +kernel
theorem dX1_hasCycle_67 : decode cX1_hasCycle 67 = .ok (.iconst 0, 1) := by decide +kernel
theorem dX1_hasCycle_68 : decode cX1_hasCycle 68 = .ok (.ireturn, 1) := by decide +kernel
theorem wmRX1_43 : Cond.methodLink RX1 43 Lib.Math.abs.name ∈ zTg := zm_f 260 (by decide +kernel) rfl
def fEx_hasCycle (i : Nat) (s0 : zM) : Option (Int32) :=
  if (s0 10 i 1) < (3 : Int32) then
  some (0 : Int32)
else
  zix ((s0 10 i 1) - (1 : Int32)) 30 fun j1 =>
    zix ((s0 10 i 1) - (2 : Int32)) 30 fun j2 =>
    zix ((s0 10 i 1) - (2 : Int32)) 30 fun j3 =>
    zix ((s0 10 i 1) - (3 : Int32)) 30 fun j4 =>
    if (zabs ((s0 11 i j1) - (s0 11 i j2))) < (zabs ((s0 11 i j3) - (s0 11 i j4))) then
    some (0 : Int32)
  else
    some (1 : Int32)
set_option maxHeartbeats 4000000 in
set_option maxRecDepth 20000 in
theorem bfEx_hasCycle {X : zX} (F : zFr X cX1_hasCycle 1 RX1 (some .boolean)) (i : Nat) (hi : i < 8) (s0 : zM) {κ : Int32 → Option zO} (hκ : ∀ a, κ a = some ((fun a => ((.inl ((fun q => some (zi q)) a), (fun _ => [s0]) a) : zO)) a)) : zZ X [(0, [])] 1 23 1 0 [some (zr 0 10 i)] [] [s0] (Option.bind (fEx_hasCycle i s0) κ) := by
  unfold fEx_hasCycle
  refine zz_aload_n F (i := 0) dX1_hasCycle_0 rfl rfl ?_
  refine zz_getf F dX1_hasCycle_1 wfRX1_21 zCl_1 rfl (⟨zlb rfl, zlb rfl, hi⟩) rfl (by decide) rfl rfl ?_
  refine zz_iconst F (v := (3 : Int32)) dX1_hasCycle_4 (by decide) ?_
  refine zz_icmp_lt F (tgt := 67) dX1_hasCycle_5 (by decide) (fun h => zz_t h ?_) (fun h => zz_f h ?_)
  · refine zz_iconst F (v := (0 : Int32)) dX1_hasCycle_67 (by decide) ?_
    exact zz_zreturn F dX1_hasCycle_68 rfl rfl (hκ _)
  · refine zz_aload_n F (i := 0) dX1_hasCycle_8 rfl rfl ?_
    refine zz_getr F dX1_hasCycle_9 wfRX1_9 zCl_1 rfl (⟨zlb rfl, zlb rfl, hi⟩) rfl (by decide) rfl (r' := 0) (by decide) ?_
    refine zz_aload_n F (i := 0) dX1_hasCycle_12 rfl rfl ?_
    refine zz_getf F dX1_hasCycle_13 wfRX1_21 zCl_1 rfl (⟨zlb rfl, zlb rfl, hi⟩) rfl (by decide) rfl rfl ?_
    refine zz_iconst F (v := (1 : Int32)) dX1_hasCycle_16 (by decide) ?_
    refine zz_isub F dX1_hasCycle_17 ?_
    refine zz_ix fun j1 hj1 hinj1 hej1 => zz_ial F dX1_hasCycle_18 rfl (⟨zlb rfl, zlb rfl, hi⟩) rfl hinj1 hej1 ?_
    refine zz_aload_n F (i := 0) dX1_hasCycle_19 rfl rfl ?_
    refine zz_getr F dX1_hasCycle_20 wfRX1_9 zCl_1 rfl (⟨zlb rfl, zlb rfl, hi⟩) rfl (by decide) rfl (r' := 0) (by decide) ?_
    refine zz_aload_n F (i := 0) dX1_hasCycle_23 rfl rfl ?_
    refine zz_getf F dX1_hasCycle_24 wfRX1_21 zCl_1 rfl (⟨zlb rfl, zlb rfl, hi⟩) rfl (by decide) rfl rfl ?_
    refine zz_iconst F (v := (2 : Int32)) dX1_hasCycle_27 (by decide) ?_
    refine zz_isub F dX1_hasCycle_28 ?_
    refine zz_ix fun j2 hj2 hinj2 hej2 => zz_ial F dX1_hasCycle_29 rfl (⟨zlb rfl, zlb rfl, hi⟩) rfl hinj2 hej2 ?_
    refine zz_isub F dX1_hasCycle_30 ?_
    refine zz_abs F dX1_hasCycle_31 wmRX1_43 wMath_abs (Nat.le_of_ble_eq_true rfl) (Nat.le_of_ble_eq_true rfl) ?_
    refine zz_aload_n F (i := 0) dX1_hasCycle_34 rfl rfl ?_
    refine zz_getr F dX1_hasCycle_35 wfRX1_9 zCl_1 rfl (⟨zlb rfl, zlb rfl, hi⟩) rfl (by decide) rfl (r' := 0) (by decide) ?_
    refine zz_aload_n F (i := 0) dX1_hasCycle_38 rfl rfl ?_
    refine zz_getf F dX1_hasCycle_39 wfRX1_21 zCl_1 rfl (⟨zlb rfl, zlb rfl, hi⟩) rfl (by decide) rfl rfl ?_
    refine zz_iconst F (v := (2 : Int32)) dX1_hasCycle_42 (by decide) ?_
    refine zz_isub F dX1_hasCycle_43 ?_
    refine zz_ix fun j3 hj3 hinj3 hej3 => zz_ial F dX1_hasCycle_44 rfl (⟨zlb rfl, zlb rfl, hi⟩) rfl hinj3 hej3 ?_
    refine zz_aload_n F (i := 0) dX1_hasCycle_45 rfl rfl ?_
    refine zz_getr F dX1_hasCycle_46 wfRX1_9 zCl_1 rfl (⟨zlb rfl, zlb rfl, hi⟩) rfl (by decide) rfl (r' := 0) (by decide) ?_
    refine zz_aload_n F (i := 0) dX1_hasCycle_49 rfl rfl ?_
    refine zz_getf F dX1_hasCycle_50 wfRX1_21 zCl_1 rfl (⟨zlb rfl, zlb rfl, hi⟩) rfl (by decide) rfl rfl ?_
    refine zz_iconst F (v := (3 : Int32)) dX1_hasCycle_53 (by decide) ?_
    refine zz_isub F dX1_hasCycle_54 ?_
    refine zz_ix fun j4 hj4 hinj4 hej4 => zz_ial F dX1_hasCycle_55 rfl (⟨zlb rfl, zlb rfl, hi⟩) rfl hinj4 hej4 ?_
    refine zz_isub F dX1_hasCycle_56 ?_
    refine zz_abs F dX1_hasCycle_57 wmRX1_43 wMath_abs (Nat.le_of_ble_eq_true rfl) (Nat.le_of_ble_eq_true rfl) ?_
    refine zz_icmp_lt F (tgt := 67) dX1_hasCycle_60 (by decide) (fun h => zz_t h ?_) (fun h => zz_f h ?_)
    · refine zz_iconst F (v := (0 : Int32)) dX1_hasCycle_67 (by decide) ?_
      exact zz_zreturn F dX1_hasCycle_68 rfl rfl (hκ _)
    · refine zz_iconst F (v := (1 : Int32)) dX1_hasCycle_63 (by decide) ?_
      refine zz_goto F (tgt := 68) dX1_hasCycle_64 (by decide) ?_
      exact zz_zreturn F dX1_hasCycle_68 rfl rfl (hκ _)
theorem zfEx_hasCycle (i : Nat) (hi : i < 8) (s0 : zM) : ∀ a, fEx_hasCycle i s0 = some a → zMet yX1_hasCycle cX1_hasCycle 1 (some .boolean) 1 23 [(0, [])] [zr 0 10 i] [s0] ((fun a => ((.inl ((fun q => some (zi q)) a), (fun _ => [s0]) a) : zO)) a) := fun a ha => zMet_of (L0 := [some (zr 0 10 i)]) (φ := Option.bind (fEx_hasCycle i s0) (fun a => some ((fun a => ((.inl ((fun q => some (zi q)) a), (fun _ => [s0]) a) : zO)) a))) (by decide) (fun _ => Nat.le_of_ble_eq_true rfl) (zl0 0 rfl) (fun X F => bfEx_hasCycle F i hi s0 (fun _ => rfl)) (by rw [ha]; rfl)

theorem dX1_put_0 : decode cX1_put 0 = .ok (.aload_n 0, 1) := by decide +kernel
theorem dX1_put_1 : decode cX1_put 1 = .ok (.getfield 21, 3) := by decide +kernel
theorem dX1_put_4 : decode cX1_put 4 = .ok (.ifCond .le 20, 3) := by decide +kernel
theorem dX1_put_7 : decode cX1_put 7 = .ok (.aload_n 0, 1) := by decide +kernel
theorem dX1_put_8 : decode cX1_put 8 = .ok (.getfield 9, 3) := by decide +kernel
theorem dX1_put_11 : decode cX1_put 11 = .ok (.aload_n 0, 1) := by decide +kernel
theorem dX1_put_12 : decode cX1_put 12 = .ok (.getfield 21, 3) := by decide +kernel
theorem dX1_put_15 : decode cX1_put 15 = .ok (.iconst 1, 1) := by decide +kernel
theorem dX1_put_16 : decode cX1_put 16 = .ok (.isub, 1) := by decide +kernel
theorem dX1_put_17 : decode cX1_put 17 = .ok (.iaload, 1) := by decide +kernel
theorem dX1_put_18 : decode cX1_put 18 = .ok (.iload_n 1, 1) := by decide +kernel
theorem dX1_put_19 : decode cX1_put 19 = .ok (.if_icmp .ne 5, 3) := by decide +kernel
theorem dX1_put_22 : decode cX1_put 22 = .ok (.iconst 0, 1) := by decide +kernel
theorem dX1_put_23 : decode cX1_put 23 = .ok (.ireturn, 1) := by decide +kernel
theorem dX1_put_24 : decode cX1_put 24 = .ok (.aload_n 0, 1) := by decide +kernel
theorem dX1_put_25 : decode cX1_put 25 = .ok (.iload_n 1, 1) := by decide +kernel
theorem dX1_put_26 : decode cX1_put 26 = .ok (.invokevirtual 31, 3) := by decide +kernel
theorem dX1_put_29 : decode cX1_put 29 = .ok (.ifCond .eq 16, 3) := by decide +kernel
theorem dX1_put_32 : decode cX1_put 32 = .ok (.aload_n 0, 1) := by decide +kernel
theorem dX1_put_33 : decode cX1_put 33 = .ok (.dup, 1) := by decide +kernel
theorem dX1_put_34 : decode cX1_put 34 = .ok (.getfield 21, 3) := by decide +kernel
theorem dX1_put_37 : decode cX1_put 37 = .ok (.iconst 1, 1) := by decide +kernel
theorem dX1_put_38 : decode cX1_put 38 = .ok (.isub, 1) := by decide +kernel
theorem dX1_put_39 : decode cX1_put 39 = .ok (.putfield 21, 3) := by decide +kernel
theorem dX1_put_42 : decode cX1_put 42 = .ok (.goto 18, 3) := by decide +kernel
theorem dX1_put_45 : decode cX1_put 45 = .ok (.aload_n 0, 1) := by decide +kernel
theorem dX1_put_46 : decode cX1_put 46 = .ok (.getfield 21, 3) := by decide +kernel
theorem dX1_put_49 : decode cX1_put 49 = .ok (.bipush 30, 2) := by decide +kernel
theorem dX1_put_51 : decode cX1_put 51 = .ok (.if_icmp .lt 9, 3) := by decide +kernel
theorem dX1_put_54 : decode cX1_put 54 = .ok (.aload_n 0, 1) := by decide +kernel
theorem dX1_put_55 : decode cX1_put 55 = .ok (.iconst 0, 1) := by decide +kernel
theorem dX1_put_56 : decode cX1_put 56 = .ok (.iconst 1, 1) := by decide +kernel
theorem dX1_put_57 : decode cX1_put 57 = .ok (.invokevirtual 35, 3) := by decide +kernel
theorem dX1_put_60 : decode cX1_put 60 = .ok (.aload_n 0, 1) := by decide +kernel
theorem dX1_put_61 : decode cX1_put 61 = .ok (.getfield 9, 3) := by decide +kernel
theorem dX1_put_64 : decode cX1_put 64 = .ok (.aload_n 0, 1) := by decide +kernel
theorem dX1_put_65 : decode cX1_put 65 = .ok (.getfield 21, 3) := by decide +kernel
theorem dX1_put_68 : decode cX1_put 68 = .ok (.iload_n 1, 1) := by decide +kernel
theorem dX1_put_69 : decode cX1_put 69 = .ok (.iastore, 1) := by decide +kernel
theorem dX1_put_70 : decode cX1_put 70 = .ok (.aload_n 0, 1) := by decide +kernel
theorem dX1_put_71 : decode cX1_put 71 = .ok (.dup, 1) := by decide +kernel
theorem dX1_put_72 : decode cX1_put 72 = .ok (.getfield 21, 3) := by decide +kernel
theorem dX1_put_75 : decode cX1_put 75 = .ok (.iconst 1, 1) := by decide +kernel
theorem dX1_put_76 : decode cX1_put 76 = .ok (.iadd, 1) := by decide +kernel
theorem dX1_put_77 : decode cX1_put 77 = .ok (.putfield 21, 3) := by decide +kernel
theorem dX1_put_80 : decode cX1_put 80 = .ok (.iconst 0, 1) := by decide +kernel
theorem dX1_put_81 : decode cX1_put 81 = .ok (.istore_n 2, 1) := by decide +kernel
theorem dX1_put_82 : decode cX1_put 82 = .ok (.iconst 0, 1) := by decide +kernel
theorem dX1_put_83 : decode cX1_put 83 = .ok (.istore_n 3, 1) := by decide +kernel
theorem dX1_put_84 : decode cX1_put 84 = .ok (.iload_n 3, 1) := by decide +kernel
theorem dX1_put_85 : decode cX1_put 85 = .ok (.bipush 30, 2) := by decide +kernel
theorem dX1_put_87 : decode cX1_put 87 = .ok (.if_icmp .ge 85, 3) := by decide +kernel
theorem dX1_put_90 : decode cX1_put 90 = .ok (.aload_n 0, 1) := by decide +kernel
theorem dX1_put_91 : decode cX1_put 91 = .ok (.invokevirtual 39, 3) := by decide +kernel
theorem dX1_put_94 : decode cX1_put 94 = .ok (.ifCond .eq 78, 3) := by decide +kernel
theorem dX1_put_97 : decode cX1_put 97 = .ok (.aload_n 0, 1) := by decide +kernel
theorem dX1_put_98 : decode cX1_put 98 = .ok (.getfield 9, 3) := by decide +kernel
theorem dX1_put_101 : decode cX1_put 101 = .ok (.aload_n 0, 1) := by decide +kernel
theorem dX1_put_102 : decode cX1_put 102 = .ok (.getfield 21, 3) := by decide +kernel
theorem dX1_put_105 : decode cX1_put 105 = .ok (.iconst 2, 1) := by decide +kernel
theorem dX1_put_106 : decode cX1_put 106 = .ok (.isub, 1) := by decide +kernel
theorem dX1_put_107 : decode cX1_put 107 = .ok (.iaload, 1) := by decide +kernel
theorem dX1_put_108 : decode cX1_put 108 = .ok (.aload_n 0, 1) := by decide +kernel
theorem dX1_put_109 : decode cX1_put 109 = .ok (.getfield 9, 3) := by decide +kernel
theorem dX1_put_112 : decode cX1_put 112 = .ok (.aload_n 0, 1) := by decide +kernel
theorem dX1_put_113 : decode cX1_put 113 = .ok (.getfield 21, 3) := by decide +kernel
theorem dX1_put_116 : decode cX1_put 116 = .ok (.iconst 3, 1) := by decide +kernel
theorem dX1_put_117 : decode cX1_put 117 = .ok (.isub, 1) := by decide +kernel
theorem dX1_put_118 : decode cX1_put 118 = .ok (.iaload, 1) := by decide +kernel
theorem dX1_put_119 : decode cX1_put 119 = .ok (.isub, 1) := by decide +kernel
theorem dX1_put_120 : decode cX1_put 120 = .ok (.istore 4, 2) := by decide +kernel
theorem dX1_put_122 : decode cX1_put 122 = .ok (.iload_n 2, 1) := by decide +kernel
theorem dX1_put_123 : decode cX1_put 123 = .ok (.iload 4, 2) := by decide +kernel
theorem dX1_put_125 : decode cX1_put 125 = .ok (.iload 4, 2) := by decide +kernel
theorem dX1_put_127 : decode cX1_put 127 = .ok (.imul, 1) := by decide +kernel
theorem dX1_put_128 : decode cX1_put 128 = .ok (.bipush 10, 2) := by decide +kernel
theorem dX1_put_130 : decode cX1_put 130 = .ok (.idiv, 1) := by decide +kernel
theorem dX1_put_131 : decode cX1_put 131 = .ok (.iadd, 1) := by decide +kernel
theorem dX1_put_132 : decode cX1_put 132 = .ok (.istore_n 2, 1) := by decide +kernel
theorem dX1_put_133 : decode cX1_put 133 = .ok (.aload_n 0, 1) := by decide +kernel
theorem dX1_put_134 : decode cX1_put 134 = .ok (.dup, 1) := by decide +kernel
theorem dX1_put_135 : decode cX1_put 135 = .ok (.getfield 28, 3) := by decide +kernel
theorem dX1_put_138 : decode cX1_put 138 = .ok (.iconst 1, 1) := by decide +kernel
theorem dX1_put_139 : decode cX1_put 139 = .ok (.iadd, 1) := by decide +kernel
theorem dX1_put_140 : decode cX1_put 140 = .ok (.putfield 28, 3) := by decide +kernel
theorem dX1_put_143 : decode cX1_put 143 = .ok (.aload_n 0, 1) := by decide +kernel
theorem dX1_put_144 : decode cX1_put 144 = .ok (.aload_n 0, 1) := by decide +kernel
theorem dX1_put_145 : decode cX1_put 145 = .ok (.getfield 21, 3) := by decide +kernel
theorem dX1_put_148 : decode cX1_put 148 = .ok (.iconst 3, 1) := by decide +kernel
theorem dX1_put_149 : decode cX1_put 149 = .ok (.isub, 1) := by decide +kernel
theorem dX1_put_150 : decode cX1_put 150 = .ok (.aload_n 0, 1) := by decide +kernel
theorem dX1_put_151 : decode cX1_put 151 = .ok (.getfield 21, 3) := by decide +kernel
theorem dX1_put_154 : decode cX1_put 154 = .ok (.iconst 3, 1) := by decide +kernel
theorem dX1_put_155 : decode cX1_put 155 = .ok (.if_icmp .ne 7, 3) := by decide +kernel
theorem dX1_put_158 : decode cX1_put 158 = .ok (.iconst 1, 1) := by decide +kernel
theorem dX1_put_159 : decode cX1_put 159 = .ok (.goto 4, 3) := by decide +kernel
theorem dX1_put_162 : decode cX1_put 162 = .ok (.iconst 2, 1) := by decide +kernel
theorem dX1_put_163 : decode cX1_put 163 = .ok (.invokevirtual 35, 3) := by decide +kernel
theorem dX1_put_166 : decode cX1_put 166 = .ok (.iinc 3 1, 3) := by decide +kernel
theorem dX1_put_169 : decode cX1_put 169 = .ok (.goto (-85), 3) := by decide +kernel
theorem dX1_put_172 : decode cX1_put 172 = .ok (.aload_n 0, 1) := by decide +kernel
theorem dX1_put_173 : decode cX1_put 173 = .ok (.dup, 1) := by decide +kernel
theorem dX1_put_174 : decode cX1_put 174 = .ok (.getfield 25, 3) := by decide +kernel
theorem dX1_put_177 : decode cX1_put 177 = .ok (.iload_n 2, 1) := by decide +kernel
theorem dX1_put_178 : decode cX1_put 178 = .ok (.iadd, 1) := by decide +kernel
theorem dX1_put_179 : decode cX1_put 179 = .ok (.putfield 25, 3) := by decide +kernel
theorem dX1_put_182 : decode cX1_put 182 = .ok (.iload_n 2, 1) := by decide +kernel
theorem dX1_put_183 : decode cX1_put 183 = .ok (.ireturn, 1) := by decide +kernel
theorem wcRX1_31 : Cond.methodLink RX1 31 yX1_goesOn ∈ zTg ∧ Cond.instanceMethod yX1_goesOn ∈ zTg ∧ Cond.selects RX1 yX1_goesOn yX1_goesOn ∈ zTg ∧ Cond.initialized RX1 ∈ zTg ∧ Cond.code yX1_goesOn cX1_goesOn 3 (some .boolean) ∈ zTg := ⟨zm_f 247 (by decide +kernel) rfl, zm_f 249 (by decide +kernel) rfl, zm_f 9 (by decide +kernel) rfl, zm_f 26 (by decide +kernel) rfl, zm_f 251 (by decide +kernel) rfl⟩
theorem wy_yX1_goesOn : yX1_goesOn.cls = RX1 ∧ yX1_goesOn.cls ≠ "java/lang/invoke/MethodHandle" ∧ yX1_goesOn.cls ≠ "java/lang/invoke/VarHandle" ∧ (parseMethodDescriptor yX1_goesOn.desc).map (fun d => d.parameters.length) = some 1 := by decide +kernel
theorem wcRX1_35 : Cond.methodLink RX1 35 yX1_takeOut ∈ zTg ∧ Cond.instanceMethod yX1_takeOut ∈ zTg ∧ Cond.selects RX1 yX1_takeOut yX1_takeOut ∈ zTg ∧ Cond.initialized RX1 ∈ zTg ∧ Cond.code yX1_takeOut cX1_takeOut 4 none ∈ zTg := ⟨zm_f 252 (by decide +kernel) rfl, zm_f 254 (by decide +kernel) rfl, zm_f 10 (by decide +kernel) rfl, zm_f 26 (by decide +kernel) rfl, zm_f 255 (by decide +kernel) rfl⟩
theorem wy_yX1_takeOut : yX1_takeOut.cls = RX1 ∧ yX1_takeOut.cls ≠ "java/lang/invoke/MethodHandle" ∧ yX1_takeOut.cls ≠ "java/lang/invoke/VarHandle" ∧ (parseMethodDescriptor yX1_takeOut.desc).map (fun d => d.parameters.length) = some 2 := by decide +kernel
theorem wcRX1_39 : Cond.methodLink RX1 39 yX1_hasCycle ∈ zTg ∧ Cond.instanceMethod yX1_hasCycle ∈ zTg ∧ Cond.selects RX1 yX1_hasCycle yX1_hasCycle ∈ zTg ∧ Cond.initialized RX1 ∈ zTg ∧ Cond.code yX1_hasCycle cX1_hasCycle 1 (some .boolean) ∈ zTg := ⟨zm_f 256 (by decide +kernel) rfl, zm_f 258 (by decide +kernel) rfl, zm_f 11 (by decide +kernel) rfl, zm_f 26 (by decide +kernel) rfl, zm_f 259 (by decide +kernel) rfl⟩
theorem wy_yX1_hasCycle : yX1_hasCycle.cls = RX1 ∧ yX1_hasCycle.cls ≠ "java/lang/invoke/MethodHandle" ∧ yX1_hasCycle.cls ≠ "java/lang/invoke/VarHandle" ∧ (parseMethodDescriptor yX1_hasCycle.desc).map (fun d => d.parameters.length) = some 0 := by decide +kernel
theorem wfRX1_28 : zFl RX1 28 1 3 := ⟨_, rfl, by decide, zm_f 517 (by decide +kernel) rfl⟩
theorem wpRX1_28 : zFw RX1 28 1 3 .int := ⟨_, rfl, by decide, zm_f 517 (by decide +kernel) rfl, rfl, by decide +kernel⟩
theorem wfRX1_25 : zFl RX1 25 1 2 := ⟨_, rfl, by decide, zm_f 515 (by decide +kernel) rfl⟩
theorem wpRX1_25 : zFw RX1 25 1 2 .int := ⟨_, rfl, by decide, zm_f 515 (by decide +kernel) rfl, rfl, by decide +kernel⟩
def fEx_put_l84 (i : Nat) (q16 : Int32 × Int32 × zM) : Option ((Int32 × Int32 × zM) ⊕ ((Int32 × zM))) :=
  if (30 : Int32) ≤ q16.2.1 then
  some (.inr (q16.1, q16.2.2))
else
  Option.bind (fEx_hasCycle i q16.2.2) fun q18 =>
    if q18 = 0 then
    some (.inr (q16.1, q16.2.2))
  else
    zix ((q16.2.2 10 i 1) - (2 : Int32)) 30 fun j19 =>
      zix ((q16.2.2 10 i 1) - (3 : Int32)) 30 fun j20 =>
      zlet (((q16.2.2 11 i j19) - (q16.2.2 11 i j20))) fun v21 =>
      zlet ((q16.1 + ((v21 * v21) / (10 : Int32)))) fun v22 =>
      zlet (zu q16.2.2 10 i 3 ((q16.2.2 10 i 3) + (1 : Int32))) fun s0_23 =>
      Option.bind (if (s0_23 10 i 1) = (3 : Int32) then
      some (1 : Int32)
    else
      some (2 : Int32)) fun q24 =>
      Option.bind (fEx_takeOut i ((s0_23 10 i 1) - (3 : Int32)) q24 s0_23) fun q28 =>
      zlet (q16.2.1 + 1) fun v29 =>
      some (.inl (v22, v29, q28))
def fEx_put (i : Nat) (a1 : Int32) (s0 : zM) : Option (Int32 × zM) :=
  Option.bind (if (s0 10 i 1) ≤ 0 then
  some (.inl ())
else
  zix ((s0 10 i 1) - (1 : Int32)) 30 fun j5 =>
    if (s0 11 i j5) = a1 then
    some (.inr ((0 : Int32), s0))
  else
    some (.inl ())) (Sum.elim (fun (_ : Unit) =>
  Option.bind (fEx_goesOn i a1 s0) fun q6 =>
  Option.bind (if q6 = 0 then
  if (s0 10 i 1) < (30 : Int32) then
    some s0
  else
    Option.bind (fEx_takeOut i (0 : Int32) (1 : Int32) s0) fun q11 =>
      some q11
else
  zlet (zu s0 10 i 1 ((s0 10 i 1) - (1 : Int32))) fun s0_12 =>
    some s0_12) fun q7 =>
  zix (q7 10 i 1) 30 fun j13 =>
  zlet (zu q7 11 i j13 a1) fun s0_14 =>
  zlet (zu s0_14 10 i 1 ((s0_14 10 i 1) + (1 : Int32))) fun s0_15 =>
  Option.bind (ziter (fEx_put_l84 i) 1000 ((0 : Int32), (0 : Int32), s0_15)) fun q17 =>
  zlet (zu q17.2 10 i 2 ((q17.2 10 i 2) + q17.1)) fun s0_30 =>
  some (q17.1, s0_30)) (fun r => some r))
set_option maxHeartbeats 4000000 in
set_option maxRecDepth 20000 in
theorem bfEx_put_l84 {X : zX} (F : zFr X cX1_put 5 RX1 (some .int)) (i : Nat) (hi : i < 8) {ψ : (Int32 × Int32 × zM) ⊕ ((Int32 × zM)) → Option zO} (h1 : ∀ q16 : Int32 × Int32 × zM, zZ X [(0, [])] 2 43 5 84 [some (zr 0 10 i), none, some (zi q16.1), some (zi q16.2.1), none] [] [q16.2.2] (ψ (.inl q16))) (h2 : ∀ q17 : Int32 × zM, zZ X [(0, [])] 2 43 5 172 [some (zr 0 10 i), none, some (zi q17.1), none, none] [] [q17.2] (ψ (.inr q17))) (q16 : Int32 × Int32 × zM) : zZ X [(0, [])] 2 43 5 84 [some (zr 0 10 i), none, some (zi q16.1), some (zi q16.2.1), none] [] [q16.2.2] (Option.bind (fEx_put_l84 i q16) ψ) := by
  unfold fEx_put_l84
  refine zz_iload_n F (i := 3) dX1_put_84 rfl rfl ?_
  refine zz_bipush F (v := (30 : Int32)) dX1_put_85 (by decide) ?_
  refine zz_icmp_ge F (tgt := 172) dX1_put_87 (by decide) (fun h => zz_t h ?_) (fun h => zz_f h ?_)
  · exact zz_sub (zs_k (zs_k (zs_k (zs_n (zs_k zs_z))))) (h2 (q16.1, q16.2.2))
  · refine zz_aload_n F (i := 0) dX1_put_90 rfl rfl ?_
    refine zz_bind ?_
    refine zz_callVr F (ρ := [0]) (so := fun q18 => [zi q18]) (Mo := fun q18 => [q16.2.2]) (zfEx_hasCycle i hi q16.2.2) dX1_put_91 wcRX1_39 wy_yX1_hasCycle rfl ⟨rel3, rfl, rfl, Nat.le_of_ble_eq_true rfl, Nat.le_of_ble_eq_true rfl, Nat.le_of_ble_eq_true rfl⟩ (⟨zlb rfl, zlb rfl, hi⟩) rfl rfl rfl (fun _ => rfl) (fun _ => rfl) fun q18 => ?_
    refine zz_if_eq F (tgt := 172) dX1_put_94 (by decide) (fun h => zz_t h ?_) (fun h => zz_f h ?_)
    · exact zz_sub (zs_k (zs_k (zs_k (zs_n (zs_k zs_z))))) (h2 (q16.1, q16.2.2))
    · refine zz_aload_n F (i := 0) dX1_put_97 rfl rfl ?_
      refine zz_getr F dX1_put_98 wfRX1_9 zCl_1 rfl (⟨zlb rfl, zlb rfl, hi⟩) rfl (by decide) rfl (r' := 0) (by decide) ?_
      refine zz_aload_n F (i := 0) dX1_put_101 rfl rfl ?_
      refine zz_getf F dX1_put_102 wfRX1_21 zCl_1 rfl (⟨zlb rfl, zlb rfl, hi⟩) rfl (by decide) rfl rfl ?_
      refine zz_iconst F (v := (2 : Int32)) dX1_put_105 (by decide) ?_
      refine zz_isub F dX1_put_106 ?_
      refine zz_ix fun j19 hj19 hinj19 hej19 => zz_ial F dX1_put_107 rfl (⟨zlb rfl, zlb rfl, hi⟩) rfl hinj19 hej19 ?_
      refine zz_aload_n F (i := 0) dX1_put_108 rfl rfl ?_
      refine zz_getr F dX1_put_109 wfRX1_9 zCl_1 rfl (⟨zlb rfl, zlb rfl, hi⟩) rfl (by decide) rfl (r' := 0) (by decide) ?_
      refine zz_aload_n F (i := 0) dX1_put_112 rfl rfl ?_
      refine zz_getf F dX1_put_113 wfRX1_21 zCl_1 rfl (⟨zlb rfl, zlb rfl, hi⟩) rfl (by decide) rfl rfl ?_
      refine zz_iconst F (v := (3 : Int32)) dX1_put_116 (by decide) ?_
      refine zz_isub F dX1_put_117 ?_
      refine zz_ix fun j20 hj20 hinj20 hej20 => zz_ial F dX1_put_118 rfl (⟨zlb rfl, zlb rfl, hi⟩) rfl hinj20 hej20 ?_
      refine zz_isub F dX1_put_119 ?_
      refine zz_istore F (i := 4) (L' := [some (zr 0 10 i), none, some (zi q16.1), some (zi q16.2.1), some (zi ((q16.2.2 11 i j19) - (q16.2.2 11 i j20)))]) dX1_put_120 (by decide) rfl rfl ?_
      refine zz_letl (Lf := fun v21 => [some (zr 0 10 i), none, some (zi q16.1), some (zi q16.2.1), some (zi v21)]) fun v21 => ?_
      refine zz_iload_n F (i := 2) dX1_put_122 rfl rfl ?_
      refine zz_iload F (i := 4) dX1_put_123 rfl ?_
      refine zz_iload F (i := 4) dX1_put_125 rfl ?_
      refine zz_imul F dX1_put_127 ?_
      refine zz_bipush F (v := (10 : Int32)) dX1_put_128 (by decide) ?_
      refine zz_idiv F dX1_put_130 (by decide) ?_
      refine zz_iadd F dX1_put_131 ?_
      refine zz_istore_n F (i := 2) (L' := [some (zr 0 10 i), none, some (zi (q16.1 + ((v21 * v21) / (10 : Int32)))), some (zi q16.2.1), some (zi v21)]) dX1_put_132 rfl (by decide) rfl rfl ?_
      refine zz_letl (Lf := fun v22 => [some (zr 0 10 i), none, some (zi v22), some (zi q16.2.1), some (zi v21)]) fun v22 => ?_
      refine zz_aload_n F (i := 0) dX1_put_133 rfl rfl ?_
      refine zz_dup F dX1_put_134 rfl ?_
      refine zz_getf F dX1_put_135 wfRX1_28 zCl_1 rfl (⟨zlb rfl, zlb rfl, hi⟩) rfl (by decide) rfl rfl ?_
      refine zz_iconst F (v := (1 : Int32)) dX1_put_138 (by decide) ?_
      refine zz_iadd F dX1_put_139 ?_
      refine zz_put F (Ms' := [(zu q16.2.2 10 i 3 ((q16.2.2 10 i 3) + (1 : Int32)))]) dX1_put_140 wpRX1_28 zCl_1 rfl (⟨zlb rfl, zlb rfl, hi⟩) rfl (by decide) rfl rfl rfl ?_
      refine zz_letm (Mf := fun s0_23 => [s0_23]) fun s0_23 => ?_
      refine zz_aload_n F (i := 0) dX1_put_143 rfl rfl ?_
      refine zz_aload_n F (i := 0) dX1_put_144 rfl rfl ?_
      refine zz_getf F dX1_put_145 wfRX1_21 zCl_1 rfl (⟨zlb rfl, zlb rfl, hi⟩) rfl (by decide) rfl rfl ?_
      refine zz_iconst F (v := (3 : Int32)) dX1_put_148 (by decide) ?_
      refine zz_isub F dX1_put_149 ?_
      refine zz_aload_n F (i := 0) dX1_put_150 rfl rfl ?_
      refine zz_getf F dX1_put_151 wfRX1_21 zCl_1 rfl (⟨zlb rfl, zlb rfl, hi⟩) rfl (by decide) rfl rfl ?_
      refine zz_iconst F (v := (3 : Int32)) dX1_put_154 (by decide) ?_
      refine zz_join (pj := 163) (Lj := fun q24 => [some (zr 0 10 i), none, some (zi v22), some (zi q16.2.1), none]) (Sj := fun q24 => [zi q24, zi ((s0_23 10 i 1) - (3 : Int32)), zr 0 10 i]) (Mj := fun q24 => [s0_23]) (fun q24 => ?_) (fun κ26 hj25 => ?_)
      · refine zz_bind ?_
        refine zz_callVr F (ρ := [0]) (so := fun q28 => []) (Mo := fun q28 => [q28]) (zfEx_takeOut i ((s0_23 10 i 1) - (3 : Int32)) q24 hi s0_23) dX1_put_163 wcRX1_35 wy_yX1_takeOut rfl ⟨rel3, rfl, rfl, Nat.le_of_ble_eq_true rfl, Nat.le_of_ble_eq_true rfl, Nat.le_of_ble_eq_true rfl⟩ (⟨zlb rfl, zlb rfl, hi⟩) rfl rfl rfl (fun _ => rfl) (fun _ => rfl) fun q28 => ?_
        refine zz_iinc F (i := 3) (v := q16.2.1 + 1) (L' := [some (zr 0 10 i), none, some (zi v22), some (zi (q16.2.1 + 1)), none]) dX1_put_166 rfl (by first | rfl | decide) (by decide) rfl rfl ?_
        refine zz_letl (Lf := fun v29 => [some (zr 0 10 i), none, some (zi v22), some (zi v29), none]) fun v29 => ?_
        refine zz_goto F (tgt := 84) dX1_put_169 (by decide) ?_
        exact zz_sub (zs_k (zs_k (zs_k (zs_k (zs_k zs_z))))) (h1 (v22, v29, q28))
      · refine zz_icmp_ne F (tgt := 162) dX1_put_155 (by decide) (fun h => zz_f h ?_) (fun h => zz_t h ?_)
        · refine zz_iconst F (v := (2 : Int32)) dX1_put_162 (by decide) ?_
          exact zz_sub (zs_k (zs_k (zs_k (zs_k (zs_n zs_z))))) (hj25 (2 : Int32))
        · refine zz_iconst F (v := (1 : Int32)) dX1_put_158 (by decide) ?_
          refine zz_goto F (tgt := 163) dX1_put_159 (by decide) ?_
          exact zz_sub (zs_k (zs_k (zs_k (zs_k (zs_n zs_z))))) (hj25 (1 : Int32))
set_option maxHeartbeats 4000000 in
set_option maxRecDepth 20000 in
theorem bfEx_put {X : zX} (F : zFr X cX1_put 5 RX1 (some .int)) (i : Nat) (a1 : Int32) (hi : i < 8) (s0 : zM) {κ : Int32 × zM → Option zO} (hκ : ∀ a, κ a = some ((fun a => ((.inl ((fun q => some (zi q.1)) a), (fun q => [q.2]) a) : zO)) a)) : zZ X [(0, [])] 2 43 5 0 [some (zr 0 10 i), some (zi a1), none, none, none] [] [s0] (Option.bind (fEx_put i a1 s0) κ) := by
  unfold fEx_put
  refine zz_aload_n F (i := 0) dX1_put_0 rfl rfl ?_
  refine zz_getf F dX1_put_1 wfRX1_21 zCl_1 rfl (⟨zlb rfl, zlb rfl, hi⟩) rfl (by decide) rfl rfl ?_
  refine zz_joinE (pj := 24) (Lj := fun _ => [some (zr 0 10 i), some (zi a1), none, none, none]) (Sj := fun _ => []) (Mj := fun _ => [s0]) (fun _ => ?_) (fun κ3 hj2 hr4 => ?_)
  · refine zz_aload_n F (i := 0) dX1_put_24 rfl rfl ?_
    refine zz_iload_n F (i := 1) dX1_put_25 rfl rfl ?_
    refine zz_bind ?_
    refine zz_callVr F (ρ := [0]) (so := fun q6 => [zi q6]) (Mo := fun q6 => [s0]) (zfEx_goesOn i a1 hi s0) dX1_put_26 wcRX1_31 wy_yX1_goesOn rfl ⟨rel3, rfl, rfl, Nat.le_of_ble_eq_true rfl, Nat.le_of_ble_eq_true rfl, Nat.le_of_ble_eq_true rfl⟩ (⟨zlb rfl, zlb rfl, hi⟩) rfl rfl rfl (fun _ => rfl) (fun _ => rfl) fun q6 => ?_
    refine zz_join (pj := 60) (Lj := fun q7 => [some (zr 0 10 i), some (zi a1), none, none, none]) (Sj := fun q7 => []) (Mj := fun q7 => [q7]) (fun q7 => ?_) (fun κ9 hj8 => ?_)
    · refine zz_aload_n F (i := 0) dX1_put_60 rfl rfl ?_
      refine zz_getr F dX1_put_61 wfRX1_9 zCl_1 rfl (⟨zlb rfl, zlb rfl, hi⟩) rfl (by decide) rfl (r' := 0) (by decide) ?_
      refine zz_aload_n F (i := 0) dX1_put_64 rfl rfl ?_
      refine zz_getf F dX1_put_65 wfRX1_21 zCl_1 rfl (⟨zlb rfl, zlb rfl, hi⟩) rfl (by decide) rfl rfl ?_
      refine zz_iload_n F (i := 1) dX1_put_68 rfl rfl ?_
      refine zz_ix fun j13 hj13 hinj13 hej13 => zz_ias F (Ms' := [(zu q7 11 i j13 a1)]) dX1_put_69 rfl (⟨zlb rfl, zlb rfl, hi⟩) rfl hinj13 hej13 rfl ?_
      refine zz_letm (Mf := fun s0_14 => [s0_14]) fun s0_14 => ?_
      refine zz_aload_n F (i := 0) dX1_put_70 rfl rfl ?_
      refine zz_dup F dX1_put_71 rfl ?_
      refine zz_getf F dX1_put_72 wfRX1_21 zCl_1 rfl (⟨zlb rfl, zlb rfl, hi⟩) rfl (by decide) rfl rfl ?_
      refine zz_iconst F (v := (1 : Int32)) dX1_put_75 (by decide) ?_
      refine zz_iadd F dX1_put_76 ?_
      refine zz_put F (Ms' := [(zu s0_14 10 i 1 ((s0_14 10 i 1) + (1 : Int32)))]) dX1_put_77 wpRX1_21 zCl_1 rfl (⟨zlb rfl, zlb rfl, hi⟩) rfl (by decide) rfl rfl rfl ?_
      refine zz_letm (Mf := fun s0_15 => [s0_15]) fun s0_15 => ?_
      refine zz_iconst F (v := (0 : Int32)) dX1_put_80 (by decide) ?_
      refine zz_istore_n F (i := 2) (L' := [some (zr 0 10 i), some (zi a1), some (zi (0 : Int32)), none, none]) dX1_put_81 rfl (by decide) rfl rfl ?_
      refine zz_iconst F (v := (0 : Int32)) dX1_put_82 (by decide) ?_
      refine zz_istore_n F (i := 3) (L' := [some (zr 0 10 i), some (zi a1), some (zi (0 : Int32)), some (zi (0 : Int32)), none]) dX1_put_83 rfl (by decide) rfl rfl ?_
      refine zz_sub (zs_k (zs_n (zs_k (zs_k (zs_k zs_z))))) ?_
      refine zz_bind ?_
      refine zz_iter (Lf := fun q16 => [some (zr 0 10 i), none, some (zi q16.1), some (zi q16.2.1), none]) (Mf := fun q16 => [q16.2.2]) (fun q16 _ e31 e32 => bfEx_put_l84 F i hi e31 (fun q17 => ?_)  q16) 1000 ((0 : Int32), (0 : Int32), s0_15)
      rw [e32]
      refine zz_aload_n F (i := 0) dX1_put_172 rfl rfl ?_
      refine zz_dup F dX1_put_173 rfl ?_
      refine zz_getf F dX1_put_174 wfRX1_25 zCl_1 rfl (⟨zlb rfl, zlb rfl, hi⟩) rfl (by decide) rfl rfl ?_
      refine zz_iload_n F (i := 2) dX1_put_177 rfl rfl ?_
      refine zz_iadd F dX1_put_178 ?_
      refine zz_put F (Ms' := [(zu q17.2 10 i 2 ((q17.2 10 i 2) + q17.1))]) dX1_put_179 wpRX1_25 zCl_1 rfl (⟨zlb rfl, zlb rfl, hi⟩) rfl (by decide) rfl rfl rfl ?_
      refine zz_letm (Mf := fun s0_30 => [s0_30]) fun s0_30 => ?_
      refine zz_iload_n F (i := 2) dX1_put_182 rfl rfl ?_
      exact zz_ireturn F dX1_put_183 rfl (hκ _)
    · refine zz_if_eq F (tgt := 45) dX1_put_29 (by decide) (fun h => zz_t h ?_) (fun h => zz_f h ?_)
      · refine zz_aload_n F (i := 0) dX1_put_45 rfl rfl ?_
        refine zz_getf F dX1_put_46 wfRX1_21 zCl_1 rfl (⟨zlb rfl, zlb rfl, hi⟩) rfl (by decide) rfl rfl ?_
        refine zz_bipush F (v := (30 : Int32)) dX1_put_49 (by decide) ?_
        refine zz_icmp_lt F (tgt := 60) dX1_put_51 (by decide) (fun h => zz_t h ?_) (fun h => zz_f h ?_)
        · exact zz_sub (zs_k (zs_k (zs_k (zs_k (zs_k zs_z))))) (hj8 s0)
        · refine zz_aload_n F (i := 0) dX1_put_54 rfl rfl ?_
          refine zz_iconst F (v := (0 : Int32)) dX1_put_55 (by decide) ?_
          refine zz_iconst F (v := (1 : Int32)) dX1_put_56 (by decide) ?_
          refine zz_bind ?_
          refine zz_callVr F (ρ := [0]) (so := fun q11 => []) (Mo := fun q11 => [q11]) (zfEx_takeOut i (0 : Int32) (1 : Int32) hi s0) dX1_put_57 wcRX1_35 wy_yX1_takeOut rfl ⟨rel3, rfl, rfl, Nat.le_of_ble_eq_true rfl, Nat.le_of_ble_eq_true rfl, Nat.le_of_ble_eq_true rfl⟩ (⟨zlb rfl, zlb rfl, hi⟩) rfl rfl rfl (fun _ => rfl) (fun _ => rfl) fun q11 => ?_
          exact zz_sub (zs_k (zs_k (zs_k (zs_k (zs_k zs_z))))) (hj8 q11)
      · refine zz_aload_n F (i := 0) dX1_put_32 rfl rfl ?_
        refine zz_dup F dX1_put_33 rfl ?_
        refine zz_getf F dX1_put_34 wfRX1_21 zCl_1 rfl (⟨zlb rfl, zlb rfl, hi⟩) rfl (by decide) rfl rfl ?_
        refine zz_iconst F (v := (1 : Int32)) dX1_put_37 (by decide) ?_
        refine zz_isub F dX1_put_38 ?_
        refine zz_put F (Ms' := [(zu s0 10 i 1 ((s0 10 i 1) - (1 : Int32)))]) dX1_put_39 wpRX1_21 zCl_1 rfl (⟨zlb rfl, zlb rfl, hi⟩) rfl (by decide) rfl rfl rfl ?_
        refine zz_letm (Mf := fun s0_12 => [s0_12]) fun s0_12 => ?_
        refine zz_goto F (tgt := 60) dX1_put_42 (by decide) ?_
        exact zz_sub (zs_k (zs_k (zs_k (zs_k (zs_k zs_z))))) (hj8 s0_12)
  · refine zz_if_le F (tgt := 24) dX1_put_4 (by decide) (fun h => zz_t h ?_) (fun h => zz_f h ?_)
    · exact zz_sub (zs_k (zs_k (zs_k (zs_k (zs_k zs_z))))) (hj2 ())
    · refine zz_aload_n F (i := 0) dX1_put_7 rfl rfl ?_
      refine zz_getr F dX1_put_8 wfRX1_9 zCl_1 rfl (⟨zlb rfl, zlb rfl, hi⟩) rfl (by decide) rfl (r' := 0) (by decide) ?_
      refine zz_aload_n F (i := 0) dX1_put_11 rfl rfl ?_
      refine zz_getf F dX1_put_12 wfRX1_21 zCl_1 rfl (⟨zlb rfl, zlb rfl, hi⟩) rfl (by decide) rfl rfl ?_
      refine zz_iconst F (v := (1 : Int32)) dX1_put_15 (by decide) ?_
      refine zz_isub F dX1_put_16 ?_
      refine zz_ix fun j5 hj5 hinj5 hej5 => zz_ial F dX1_put_17 rfl (⟨zlb rfl, zlb rfl, hi⟩) rfl hinj5 hej5 ?_
      refine zz_iload_n F (i := 1) dX1_put_18 rfl rfl ?_
      refine zz_icmp_ne F (tgt := 24) dX1_put_19 (by decide) (fun h => zz_f h ?_) (fun h => zz_t h ?_)
      · exact zz_sub (zs_k (zs_k (zs_k (zs_k (zs_k zs_z))))) (hj2 ())
      · refine zz_iconst F (v := (0 : Int32)) dX1_put_22 (by decide) ?_
        exact zz_ireturn F dX1_put_23 rfl ((hr4 _).trans (hκ _))
theorem zfEx_put (i : Nat) (a1 : Int32) (hi : i < 8) (s0 : zM) : ∀ a, fEx_put i a1 s0 = some a → zMet yX1_put cX1_put 5 (some .int) 2 43 [(0, [])] [zr 0 10 i, zi a1] [s0] ((fun a => ((.inl ((fun q => some (zi q.1)) a), (fun q => [q.2]) a) : zO)) a) := fun a ha => zMet_of (L0 := [some (zr 0 10 i), some (zi a1), none, none, none]) (φ := Option.bind (fEx_put i a1 s0) (fun a => some ((fun a => ((.inl ((fun q => some (zi q.1)) a), (fun q => [q.2]) a) : zO)) a))) (by decide) (fun _ => Nat.le_of_ble_eq_true rfl) (zl0 3 rfl) (fun X F => bfEx_put F i a1 hi s0 (fun _ => rfl)) (by rw [ha]; rfl)

theorem dX5_wearOut_0 : decode cX5_wearOut 0 = .ok (.aload_n 0, 1) := by decide +kernel
theorem dX5_wearOut_1 : decode cX5_wearOut 1 = .ok (.getfield 9, 3) := by decide +kernel
theorem dX5_wearOut_4 : decode cX5_wearOut 4 = .ok (.iconst 2, 1) := by decide +kernel
theorem dX5_wearOut_5 : decode cX5_wearOut 5 = .ok (.if_icmp .eq 4, 3) := by decide +kernel
theorem dX5_wearOut_8 : decode cX5_wearOut 8 = .ok (.return_, 1) := by decide +kernel
theorem dX5_wearOut_9 : decode cX5_wearOut 9 = .ok (.aload_n 0, 1) := by decide +kernel
theorem dX5_wearOut_10 : decode cX5_wearOut 10 = .ok (.iconst 0, 1) := by decide +kernel
theorem dX5_wearOut_11 : decode cX5_wearOut 11 = .ok (.aload_n 0, 1) := by decide +kernel
theorem dX5_wearOut_12 : decode cX5_wearOut 12 = .ok (.getfield 50, 3) := by decide +kernel
theorem dX5_wearOut_15 : decode cX5_wearOut 15 = .ok (.bipush 12, 2) := by decide +kernel
theorem dX5_wearOut_17 : decode cX5_wearOut 17 = .ok (.if_icmp .le 7, 3) := by decide +kernel
theorem dX5_wearOut_20 : decode cX5_wearOut 20 = .ok (.iconst 2, 1) := by decide +kernel
theorem dX5_wearOut_21 : decode cX5_wearOut 21 = .ok (.goto 4, 3) := by decide +kernel
theorem dX5_wearOut_24 : decode cX5_wearOut 24 = .ok (.iconst 1, 1) := by decide +kernel
theorem dX5_wearOut_25 : decode cX5_wearOut 25 = .ok (.invokevirtual 117, 3) := by decide +kernel
theorem dX5_wearOut_28 : decode cX5_wearOut 28 = .ok (.aload_n 0, 1) := by decide +kernel
theorem dX5_wearOut_29 : decode cX5_wearOut 29 = .ok (.iconst 1, 1) := by decide +kernel
theorem dX5_wearOut_30 : decode cX5_wearOut 30 = .ok (.aload_n 0, 1) := by decide +kernel
theorem dX5_wearOut_31 : decode cX5_wearOut 31 = .ok (.getfield 50, 3) := by decide +kernel
theorem dX5_wearOut_34 : decode cX5_wearOut 34 = .ok (.aload_n 0, 1) := by decide +kernel
theorem dX5_wearOut_35 : decode cX5_wearOut 35 = .ok (.getfield 53, 3) := by decide +kernel
theorem dX5_wearOut_38 : decode cX5_wearOut 38 = .ok (.isub, 1) := by decide +kernel
theorem dX5_wearOut_39 : decode cX5_wearOut 39 = .ok (.invokestatic 120, 3) := by decide +kernel
theorem dX5_wearOut_42 : decode cX5_wearOut 42 = .ok (.iconst 5, 1) := by decide +kernel
theorem dX5_wearOut_43 : decode cX5_wearOut 43 = .ok (.if_icmp .lt 7, 3) := by decide +kernel
theorem dX5_wearOut_46 : decode cX5_wearOut 46 = .ok (.iconst 3, 1) := by decide +kernel
theorem dX5_wearOut_47 : decode cX5_wearOut 47 = .ok (.goto 4, 3) := by decide +kernel
theorem dX5_wearOut_50 : decode cX5_wearOut 50 = .ok (.iconst 1, 1) := by decide +kernel
theorem dX5_wearOut_51 : decode cX5_wearOut 51 = .ok (.invokevirtual 117, 3) := by decide +kernel
theorem dX5_wearOut_54 : decode cX5_wearOut 54 = .ok (.aload_n 0, 1) := by decide +kernel
theorem dX5_wearOut_55 : decode cX5_wearOut 55 = .ok (.iconst 2, 1) := by decide +kernel
theorem dX5_wearOut_56 : decode cX5_wearOut 56 = .ok (.aload_n 0, 1) := by decide +kernel
theorem dX5_wearOut_57 : decode cX5_wearOut 57 = .ok (.getfield 34, 3) := by decide +kernel
theorem dX5_wearOut_60 : decode cX5_wearOut 60 = .ok (.aload_n 0, 1) := by decide +kernel
theorem dX5_wearOut_61 : decode cX5_wearOut 61 = .ok (.getfield 50, 3) := by decide +kernel
theorem dX5_wearOut_64 : decode cX5_wearOut 64 = .ok (.invokevirtual 123, 3) := by decide +kernel
theorem dX5_wearOut_67 : decode cX5_wearOut 67 = .ok (.aload_n 0, 1) := by decide +kernel
theorem dX5_wearOut_68 : decode cX5_wearOut 68 = .ok (.getfield 47, 3) := by decide +kernel
theorem dX5_wearOut_71 : decode cX5_wearOut 71 = .ok (.invokestatic 120, 3) := by decide +kernel
theorem dX5_wearOut_74 : decode cX5_wearOut 74 = .ok (.iadd, 1) := by decide +kernel
theorem dX5_wearOut_75 : decode cX5_wearOut 75 = .ok (.invokevirtual 117, 3) := by decide +kernel
theorem dX5_wearOut_78 : decode cX5_wearOut 78 = .ok (.return_, 1) := by decide +kernel
theorem wcRX5_117 : Cond.methodLink RX5 117 yX5_wearPart ∈ zTg ∧ Cond.instanceMethod yX5_wearPart ∈ zTg ∧ Cond.selects RX5 yX5_wearPart yX5_wearPart ∈ zTg ∧ Cond.initialized RX5 ∈ zTg ∧ Cond.code yX5_wearPart cX5_wearPart 3 none ∈ zTg := ⟨zm_f 237 (by decide +kernel) rfl, zm_f 239 (by decide +kernel) rfl, zm_f 8 (by decide +kernel) rfl, zm_f 25 (by decide +kernel) rfl, zm_f 240 (by decide +kernel) rfl⟩
theorem wy_yX5_wearPart : yX5_wearPart.cls = RX5 ∧ yX5_wearPart.cls ≠ "java/lang/invoke/MethodHandle" ∧ yX5_wearPart.cls ≠ "java/lang/invoke/VarHandle" ∧ (parseMethodDescriptor yX5_wearPart.desc).map (fun d => d.parameters.length) = some 2 := by decide +kernel
theorem wfRX5_53 : zFl RX5 53 5 9 := ⟨_, rfl, by decide, zm_f 550 (by decide +kernel) rfl⟩
theorem wmRX5_120 : Cond.methodLink RX5 120 Lib.Math.abs.name ∈ zTg := zm_f 242 (by decide +kernel) rfl
theorem wfRX5_34 : zFl RX5 34 5 13 := ⟨_, rfl, by decide, zm_f 559 (by decide +kernel) rfl⟩
theorem wcRX5_123 : Cond.methodLink RX5 123 yX1_put ∈ zTg ∧ Cond.instanceMethod yX1_put ∈ zTg ∧ Cond.selects RX1 yX1_put yX1_put ∈ zTg ∧ Cond.initialized RX1 ∈ zTg ∧ Cond.code yX1_put cX1_put 5 (some .int) ∈ zTg := ⟨zm_f 243 (by decide +kernel) rfl, zm_f 244 (by decide +kernel) rfl, zm_f 245 (by decide +kernel) rfl, zm_f 26 (by decide +kernel) rfl, zm_f 246 (by decide +kernel) rfl⟩
theorem wy_yX1_put : yX1_put.cls = RX1 ∧ yX1_put.cls ≠ "java/lang/invoke/MethodHandle" ∧ yX1_put.cls ≠ "java/lang/invoke/VarHandle" ∧ (parseMethodDescriptor yX1_put.desc).map (fun d => d.parameters.length) = some 1 := by decide +kernel
def fTu_wearOut (i : Nat) (s0 : zM) : Option (zM) :=
  if (s0 7 i 3) = (2 : Int32) then
  Option.bind (if (s0 7 i 8) ≤ (12 : Int32) then
    some (1 : Int32)
  else
    some (2 : Int32)) fun q1 =>
    Option.bind (fTu_wearPart i (0 : Int32) q1 s0) fun q5 =>
    Option.bind (if (zabs ((q5 7 i 8) - (q5 7 i 9))) < (5 : Int32) then
    some (1 : Int32)
  else
    some (3 : Int32)) fun q6 =>
    Option.bind (fTu_wearPart i (1 : Int32) q6 q5) fun q10 =>
    Option.bind (fEx_put i (q10 7 i 8) q10) fun q11 =>
    Option.bind (fTu_wearPart i (2 : Int32) (q11.1 + (zabs (q11.2 7 i 7))) q11.2) fun q12 =>
    some q12
else
  some s0
set_option maxHeartbeats 4000000 in
set_option maxRecDepth 20000 in
theorem bfTu_wearOut {X : zX} (F : zFr X cX5_wearOut 1 RX5 none) (i : Nat) (hi : i < 8) (s0 : zM) {κ : zM → Option zO} (hκ : ∀ a, κ a = some ((fun a => ((.inl ((fun _ => (none : Option zV)) a), (fun q => [q]) a) : zO)) a)) : zZ X [(0, [])] 3 67 1 0 [some (zr 0 7 i)] [] [s0] (Option.bind (fTu_wearOut i s0) κ) := by
  unfold fTu_wearOut
  refine zz_aload_n F (i := 0) dX5_wearOut_0 rfl rfl ?_
  refine zz_getf F dX5_wearOut_1 wfRX5_9 zCl_5 rfl (⟨zlb rfl, zlb rfl, hi⟩) rfl (by decide) rfl rfl ?_
  refine zz_iconst F (v := (2 : Int32)) dX5_wearOut_4 (by decide) ?_
  refine zz_icmp_eq F (tgt := 9) dX5_wearOut_5 (by decide) (fun h => zz_t h ?_) (fun h => zz_f h ?_)
  · refine zz_aload_n F (i := 0) dX5_wearOut_9 rfl rfl ?_
    refine zz_iconst F (v := (0 : Int32)) dX5_wearOut_10 (by decide) ?_
    refine zz_aload_n F (i := 0) dX5_wearOut_11 rfl rfl ?_
    refine zz_getf F dX5_wearOut_12 wfRX5_50 zCl_5 rfl (⟨zlb rfl, zlb rfl, hi⟩) rfl (by decide) rfl rfl ?_
    refine zz_bipush F (v := (12 : Int32)) dX5_wearOut_15 (by decide) ?_
    refine zz_join (pj := 25) (Lj := fun q1 => [some (zr 0 7 i)]) (Sj := fun q1 => [zi q1, zi (0 : Int32), zr 0 7 i]) (Mj := fun q1 => [s0]) (fun q1 => ?_) (fun κ3 hj2 => ?_)
    · refine zz_bind ?_
      refine zz_callVr F (ρ := [0]) (so := fun q5 => []) (Mo := fun q5 => [q5]) (zfTu_wearPart i (0 : Int32) q1 hi s0) dX5_wearOut_25 wcRX5_117 wy_yX5_wearPart rfl ⟨rel3, rfl, rfl, Nat.le_of_ble_eq_true rfl, Nat.le_of_ble_eq_true rfl, Nat.le_of_ble_eq_true rfl⟩ (⟨zlb rfl, zlb rfl, hi⟩) rfl rfl rfl (fun _ => rfl) (fun _ => rfl) fun q5 => ?_
      refine zz_aload_n F (i := 0) dX5_wearOut_28 rfl rfl ?_
      refine zz_iconst F (v := (1 : Int32)) dX5_wearOut_29 (by decide) ?_
      refine zz_aload_n F (i := 0) dX5_wearOut_30 rfl rfl ?_
      refine zz_getf F dX5_wearOut_31 wfRX5_50 zCl_5 rfl (⟨zlb rfl, zlb rfl, hi⟩) rfl (by decide) rfl rfl ?_
      refine zz_aload_n F (i := 0) dX5_wearOut_34 rfl rfl ?_
      refine zz_getf F dX5_wearOut_35 wfRX5_53 zCl_5 rfl (⟨zlb rfl, zlb rfl, hi⟩) rfl (by decide) rfl rfl ?_
      refine zz_isub F dX5_wearOut_38 ?_
      refine zz_abs F dX5_wearOut_39 wmRX5_120 wMath_abs (Nat.le_of_ble_eq_true rfl) (Nat.le_of_ble_eq_true rfl) ?_
      refine zz_iconst F (v := (5 : Int32)) dX5_wearOut_42 (by decide) ?_
      refine zz_join (pj := 51) (Lj := fun q6 => [some (zr 0 7 i)]) (Sj := fun q6 => [zi q6, zi (1 : Int32), zr 0 7 i]) (Mj := fun q6 => [q5]) (fun q6 => ?_) (fun κ8 hj7 => ?_)
      · refine zz_bind ?_
        refine zz_callVr F (ρ := [0]) (so := fun q10 => []) (Mo := fun q10 => [q10]) (zfTu_wearPart i (1 : Int32) q6 hi q5) dX5_wearOut_51 wcRX5_117 wy_yX5_wearPart rfl ⟨rel3, rfl, rfl, Nat.le_of_ble_eq_true rfl, Nat.le_of_ble_eq_true rfl, Nat.le_of_ble_eq_true rfl⟩ (⟨zlb rfl, zlb rfl, hi⟩) rfl rfl rfl (fun _ => rfl) (fun _ => rfl) fun q10 => ?_
        refine zz_aload_n F (i := 0) dX5_wearOut_54 rfl rfl ?_
        refine zz_iconst F (v := (2 : Int32)) dX5_wearOut_55 (by decide) ?_
        refine zz_aload_n F (i := 0) dX5_wearOut_56 rfl rfl ?_
        refine zz_getr F dX5_wearOut_57 wfRX5_34 zCl_5 rfl (⟨zlb rfl, zlb rfl, hi⟩) rfl (by decide) rfl (r' := 0) (by decide) ?_
        refine zz_aload_n F (i := 0) dX5_wearOut_60 rfl rfl ?_
        refine zz_getf F dX5_wearOut_61 wfRX5_50 zCl_5 rfl (⟨zlb rfl, zlb rfl, hi⟩) rfl (by decide) rfl rfl ?_
        refine zz_bind ?_
        refine zz_callVr F (ρ := [0]) (so := fun q11 => [zi q11.1, zi (2 : Int32), zr 0 7 i]) (Mo := fun q11 => [q11.2]) (zfEx_put i (q10 7 i 8) hi q10) dX5_wearOut_64 wcRX5_123 wy_yX1_put rfl ⟨rel3, rfl, rfl, Nat.le_of_ble_eq_true rfl, Nat.le_of_ble_eq_true rfl, Nat.le_of_ble_eq_true rfl⟩ (⟨zlb rfl, zlb rfl, hi⟩) rfl rfl rfl (fun _ => rfl) (fun _ => rfl) fun q11 => ?_
        refine zz_aload_n F (i := 0) dX5_wearOut_67 rfl rfl ?_
        refine zz_getf F dX5_wearOut_68 wfRX5_47 zCl_5 rfl (⟨zlb rfl, zlb rfl, hi⟩) rfl (by decide) rfl rfl ?_
        refine zz_abs F dX5_wearOut_71 wmRX5_120 wMath_abs (Nat.le_of_ble_eq_true rfl) (Nat.le_of_ble_eq_true rfl) ?_
        refine zz_iadd F dX5_wearOut_74 ?_
        refine zz_bind ?_
        refine zz_callVr F (ρ := [0]) (so := fun q12 => []) (Mo := fun q12 => [q12]) (zfTu_wearPart i (2 : Int32) (q11.1 + (zabs (q11.2 7 i 7))) hi q11.2) dX5_wearOut_75 wcRX5_117 wy_yX5_wearPart rfl ⟨rel3, rfl, rfl, Nat.le_of_ble_eq_true rfl, Nat.le_of_ble_eq_true rfl, Nat.le_of_ble_eq_true rfl⟩ (⟨zlb rfl, zlb rfl, hi⟩) rfl rfl rfl (fun _ => rfl) (fun _ => rfl) fun q12 => ?_
        exact zz_return F dX5_wearOut_78 rfl (hκ _)
      · refine zz_icmp_lt F (tgt := 50) dX5_wearOut_43 (by decide) (fun h => zz_t h ?_) (fun h => zz_f h ?_)
        · refine zz_iconst F (v := (1 : Int32)) dX5_wearOut_50 (by decide) ?_
          exact zz_sub (zs_k zs_z) (hj7 (1 : Int32))
        · refine zz_iconst F (v := (3 : Int32)) dX5_wearOut_46 (by decide) ?_
          refine zz_goto F (tgt := 51) dX5_wearOut_47 (by decide) ?_
          exact zz_sub (zs_k zs_z) (hj7 (3 : Int32))
    · refine zz_icmp_le F (tgt := 24) dX5_wearOut_17 (by decide) (fun h => zz_t h ?_) (fun h => zz_f h ?_)
      · refine zz_iconst F (v := (1 : Int32)) dX5_wearOut_24 (by decide) ?_
        exact zz_sub (zs_k zs_z) (hj2 (1 : Int32))
      · refine zz_iconst F (v := (2 : Int32)) dX5_wearOut_20 (by decide) ?_
        refine zz_goto F (tgt := 25) dX5_wearOut_21 (by decide) ?_
        exact zz_sub (zs_k zs_z) (hj2 (2 : Int32))
  · exact zz_return F dX5_wearOut_8 rfl (hκ _)
theorem zfTu_wearOut (i : Nat) (hi : i < 8) (s0 : zM) : ∀ a, fTu_wearOut i s0 = some a → zMet yX5_wearOut cX5_wearOut 1 none 3 67 [(0, [])] [zr 0 7 i] [s0] ((fun a => ((.inl ((fun _ => (none : Option zV)) a), (fun q => [q]) a) : zO)) a) := fun a ha => zMet_of (L0 := [some (zr 0 7 i)]) (φ := Option.bind (fTu_wearOut i s0) (fun a => some ((fun a => ((.inl ((fun _ => (none : Option zV)) a), (fun q => [q]) a) : zO)) a))) (by decide) (fun _ => Nat.le_of_ble_eq_true rfl) (zl0 0 rfl) (fun X F => bfTu_wearOut F i hi s0 (fun _ => rfl)) (by rw [ha]; rfl)

theorem dX6_finishes_0 : decode cX6_finishes 0 = .ok (.aload_n 0, 1) := by decide +kernel
theorem dX6_finishes_1 : decode cX6_finishes 1 = .ok (.getfield 15, 3) := by decide +kernel
theorem dX6_finishes_4 : decode cX6_finishes 4 = .ok (.iconst (-1), 1) := by decide +kernel
theorem dX6_finishes_5 : decode cX6_finishes 5 = .ok (.if_icmp .ne 5, 3) := by decide +kernel
theorem dX6_finishes_8 : decode cX6_finishes 8 = .ok (.iconst 0, 1) := by decide +kernel
theorem dX6_finishes_9 : decode cX6_finishes 9 = .ok (.ireturn, 1) := by decide +kernel
theorem dX6_finishes_10 : decode cX6_finishes 10 = .ok (.aload_n 0, 1) := by decide +kernel
theorem dX6_finishes_11 : decode cX6_finishes 11 = .ok (.dup, 1) := by decide +kernel
theorem dX6_finishes_12 : decode cX6_finishes 12 = .ok (.getfield 25, 3) := by decide +kernel
theorem dX6_finishes_15 : decode cX6_finishes 15 = .ok (.iconst 1, 1) := by decide +kernel
theorem dX6_finishes_16 : decode cX6_finishes 16 = .ok (.isub, 1) := by decide +kernel
theorem dX6_finishes_17 : decode cX6_finishes 17 = .ok (.putfield 25, 3) := by decide +kernel
theorem dX6_finishes_20 : decode cX6_finishes 20 = .ok (.aload_n 0, 1) := by decide +kernel
theorem dX6_finishes_21 : decode cX6_finishes 21 = .ok (.getfield 25, 3) := by decide +kernel
theorem dX6_finishes_24 : decode cX6_finishes 24 = .ok (.ifCond .le 5, 3) := by decide +kernel
theorem dX6_finishes_27 : decode cX6_finishes 27 = .ok (.iconst 0, 1) := by decide +kernel
theorem dX6_finishes_28 : decode cX6_finishes 28 = .ok (.ireturn, 1) := by decide +kernel
theorem dX6_finishes_29 : decode cX6_finishes 29 = .ok (.aload_n 0, 1) := by decide +kernel
theorem dX6_finishes_30 : decode cX6_finishes 30 = .ok (.iconst (-1), 1) := by decide +kernel
theorem dX6_finishes_31 : decode cX6_finishes 31 = .ok (.putfield 15, 3) := by decide +kernel
theorem dX6_finishes_34 : decode cX6_finishes 34 = .ok (.iconst 1, 1) := by decide +kernel
theorem dX6_finishes_35 : decode cX6_finishes 35 = .ok (.ireturn, 1) := by decide +kernel
theorem wfRX6_15 : zFl RX6 15 6 3 := ⟨_, rfl, by decide, zm_f 623 (by decide +kernel) rfl⟩
theorem wfRX6_25 : zFl RX6 25 6 4 := ⟨_, rfl, by decide, zm_f 626 (by decide +kernel) rfl⟩
theorem wpRX6_25 : zFw RX6 25 6 4 .int := ⟨_, rfl, by decide, zm_f 626 (by decide +kernel) rfl, rfl, by decide +kernel⟩
theorem wpRX6_15 : zFw RX6 15 6 3 .int := ⟨_, rfl, by decide, zm_f 623 (by decide +kernel) rfl, rfl, by decide +kernel⟩
def fVe_finishes (i : Nat) (s0 : zM) : Option (Int32 × zM) :=
  if (s0 13 i 3) = (-1 : Int32) then
  some ((0 : Int32), s0)
else
  zlet (zu s0 13 i 4 ((s0 13 i 4) - (1 : Int32))) fun s0_1 =>
    if (s0_1 13 i 4) ≤ 0 then
    zlet (zu s0_1 13 i 3 (-1 : Int32)) fun s0_2 =>
      some ((1 : Int32), s0_2)
  else
    some ((0 : Int32), s0_1)
set_option maxHeartbeats 4000000 in
set_option maxRecDepth 20000 in
theorem bfVe_finishes {X : zX} (F : zFr X cX6_finishes 1 RX6 (some .boolean)) (i : Nat) (hi : i < 3) (s0 : zM) {κ : Int32 × zM → Option zO} (hκ : ∀ a, κ a = some ((fun a => ((.inl ((fun q => some (zi q.1)) a), (fun q => [q.2]) a) : zO)) a)) : zZ X [(0, [])] 0 0 1 0 [some (zr 0 13 i)] [] [s0] (Option.bind (fVe_finishes i s0) κ) := by
  unfold fVe_finishes
  refine zz_aload_n F (i := 0) dX6_finishes_0 rfl rfl ?_
  refine zz_getf F dX6_finishes_1 wfRX6_15 zCl_6 rfl (⟨zlb rfl, zlb rfl, hi⟩) rfl (by decide) rfl rfl ?_
  refine zz_iconst F (v := (-1 : Int32)) dX6_finishes_4 (by decide) ?_
  refine zz_icmp_ne F (tgt := 10) dX6_finishes_5 (by decide) (fun h => zz_f h ?_) (fun h => zz_t h ?_)
  · refine zz_aload_n F (i := 0) dX6_finishes_10 rfl rfl ?_
    refine zz_dup F dX6_finishes_11 rfl ?_
    refine zz_getf F dX6_finishes_12 wfRX6_25 zCl_6 rfl (⟨zlb rfl, zlb rfl, hi⟩) rfl (by decide) rfl rfl ?_
    refine zz_iconst F (v := (1 : Int32)) dX6_finishes_15 (by decide) ?_
    refine zz_isub F dX6_finishes_16 ?_
    refine zz_put F (Ms' := [(zu s0 13 i 4 ((s0 13 i 4) - (1 : Int32)))]) dX6_finishes_17 wpRX6_25 zCl_6 rfl (⟨zlb rfl, zlb rfl, hi⟩) rfl (by decide) rfl rfl rfl ?_
    refine zz_letm (Mf := fun s0_1 => [s0_1]) fun s0_1 => ?_
    refine zz_aload_n F (i := 0) dX6_finishes_20 rfl rfl ?_
    refine zz_getf F dX6_finishes_21 wfRX6_25 zCl_6 rfl (⟨zlb rfl, zlb rfl, hi⟩) rfl (by decide) rfl rfl ?_
    refine zz_if_le F (tgt := 29) dX6_finishes_24 (by decide) (fun h => zz_t h ?_) (fun h => zz_f h ?_)
    · refine zz_aload_n F (i := 0) dX6_finishes_29 rfl rfl ?_
      refine zz_iconst F (v := (-1 : Int32)) dX6_finishes_30 (by decide) ?_
      refine zz_put F (Ms' := [(zu s0_1 13 i 3 (-1 : Int32))]) dX6_finishes_31 wpRX6_15 zCl_6 rfl (⟨zlb rfl, zlb rfl, hi⟩) rfl (by decide) rfl rfl rfl ?_
      refine zz_letm (Mf := fun s0_2 => [s0_2]) fun s0_2 => ?_
      refine zz_iconst F (v := (1 : Int32)) dX6_finishes_34 (by decide) ?_
      exact zz_zreturn F dX6_finishes_35 rfl rfl (hκ _)
    · refine zz_iconst F (v := (0 : Int32)) dX6_finishes_27 (by decide) ?_
      exact zz_zreturn F dX6_finishes_28 rfl rfl (hκ _)
  · refine zz_iconst F (v := (0 : Int32)) dX6_finishes_8 (by decide) ?_
    exact zz_zreturn F dX6_finishes_9 rfl rfl (hκ _)
theorem zfVe_finishes (i : Nat) (hi : i < 3) (s0 : zM) : ∀ a, fVe_finishes i s0 = some a → zMet yX6_finishes cX6_finishes 1 (some .boolean) 0 0 [(0, [])] [zr 0 13 i] [s0] ((fun a => ((.inl ((fun q => some (zi q.1)) a), (fun q => [q.2]) a) : zO)) a) := fun a ha => zMet_of (L0 := [some (zr 0 13 i)]) (φ := Option.bind (fVe_finishes i s0) (fun a => some ((fun a => ((.inl ((fun q => some (zi q.1)) a), (fun q => [q.2]) a) : zO)) a))) (by decide) (fun _ => Nat.le_of_ble_eq_true rfl) (zl0 0 rfl) (fun X F => bfVe_finishes F i hi s0 (fun _ => rfl)) (by rw [ha]; rfl)

theorem dX3_hasTurbine_0 : decode cX3_hasTurbine 0 = .ok (.iload_n 1, 1) := by decide +kernel
theorem dX3_hasTurbine_1 : decode cX3_hasTurbine 1 = .ok (.ifCond .lt 15, 3) := by decide +kernel
theorem dX3_hasTurbine_4 : decode cX3_hasTurbine 4 = .ok (.iload_n 1, 1) := by decide +kernel
theorem dX3_hasTurbine_5 : decode cX3_hasTurbine 5 = .ok (.aload_n 0, 1) := by decide +kernel
theorem dX3_hasTurbine_6 : decode cX3_hasTurbine 6 = .ok (.getfield 56, 3) := by decide +kernel
theorem dX3_hasTurbine_9 : decode cX3_hasTurbine 9 = .ok (.if_icmp .ge 7, 3) := by decide +kernel
theorem dX3_hasTurbine_12 : decode cX3_hasTurbine 12 = .ok (.iconst 1, 1) := by decide +kernel
theorem dX3_hasTurbine_13 : decode cX3_hasTurbine 13 = .ok (.goto 4, 3) := by decide +kernel
theorem dX3_hasTurbine_16 : decode cX3_hasTurbine 16 = .ok (.iconst 0, 1) := by decide +kernel
theorem dX3_hasTurbine_17 : decode cX3_hasTurbine 17 = .ok (.ireturn, 1) := by decide +kernel
def fSe_hasTurbine (a1 : Int32) (s0 : zM) : Option (Int32) :=
  if a1 < 0 then
  some (0 : Int32)
else
  if (s0 0 0 5) ≤ a1 then
    some (0 : Int32)
  else
    some (1 : Int32)
set_option maxHeartbeats 4000000 in
set_option maxRecDepth 20000 in
theorem bfSe_hasTurbine {X : zX} (F : zFr X cX3_hasTurbine 2 RX3 (some .boolean)) (a1 : Int32)  (s0 : zM) {κ : Int32 → Option zO} (hκ : ∀ a, κ a = some ((fun a => ((.inl ((fun q => some (zi q)) a), (fun _ => [s0]) a) : zO)) a)) : zZ X [(0, [])] 0 0 2 0 [some (zr 0 0 0), some (zi a1)] [] [s0] (Option.bind (fSe_hasTurbine a1 s0) κ) := by
  unfold fSe_hasTurbine
  refine zz_iload_n F (i := 1) dX3_hasTurbine_0 rfl rfl ?_
  refine zz_if_lt F (tgt := 16) dX3_hasTurbine_1 (by decide) (fun h => zz_t h ?_) (fun h => zz_f h ?_)
  · refine zz_iconst F (v := (0 : Int32)) dX3_hasTurbine_16 (by decide) ?_
    exact zz_zreturn F dX3_hasTurbine_17 rfl rfl (hκ _)
  · refine zz_iload_n F (i := 1) dX3_hasTurbine_4 rfl rfl ?_
    refine zz_aload_n F (i := 0) dX3_hasTurbine_5 rfl rfl ?_
    refine zz_getf F dX3_hasTurbine_6 wfRX3_56 zCl_3 rfl (⟨zlb rfl, zlb rfl, zlb rfl⟩) rfl (by decide) rfl rfl ?_
    refine zz_icmp_ge F (tgt := 16) dX3_hasTurbine_9 (by decide) (fun h => zz_t h ?_) (fun h => zz_f h ?_)
    · refine zz_iconst F (v := (0 : Int32)) dX3_hasTurbine_16 (by decide) ?_
      exact zz_zreturn F dX3_hasTurbine_17 rfl rfl (hκ _)
    · refine zz_iconst F (v := (1 : Int32)) dX3_hasTurbine_12 (by decide) ?_
      refine zz_goto F (tgt := 17) dX3_hasTurbine_13 (by decide) ?_
      exact zz_zreturn F dX3_hasTurbine_17 rfl rfl (hκ _)
theorem zfSe_hasTurbine (a1 : Int32)  (s0 : zM) : ∀ a, fSe_hasTurbine a1 s0 = some a → zMet yX3_hasTurbine cX3_hasTurbine 2 (some .boolean) 0 0 [(0, [])] [zr 0 0 0, zi a1] [s0] ((fun a => ((.inl ((fun q => some (zi q)) a), (fun _ => [s0]) a) : zO)) a) := fun a ha => zMet_of (L0 := [some (zr 0 0 0), some (zi a1)]) (φ := Option.bind (fSe_hasTurbine a1 s0) (fun a => some ((fun a => ((.inl ((fun q => some (zi q)) a), (fun _ => [s0]) a) : zO)) a))) (by decide) (fun _ => Nat.le_of_ble_eq_true rfl) (zl0 0 rfl) (fun X F => bfSe_hasTurbine F a1 s0 (fun _ => rfl)) (by rw [ha]; rfl)

theorem dX3_work_0 : decode cX3_work 0 = .ok (.aload_n 1, 1) := by decide +kernel
theorem dX3_work_1 : decode cX3_work 1 = .ok (.getfield 199, 3) := by decide +kernel
theorem dX3_work_4 : decode cX3_work 4 = .ok (.ifCond .ne 4, 3) := by decide +kernel
theorem dX3_work_7 : decode cX3_work 7 = .ok (.return_, 1) := by decide +kernel
theorem dX3_work_8 : decode cX3_work 8 = .ok (.aload_n 0, 1) := by decide +kernel
theorem dX3_work_9 : decode cX3_work 9 = .ok (.getfield 32, 3) := by decide +kernel
theorem dX3_work_12 : decode cX3_work 12 = .ok (.getfield 203, 3) := by decide +kernel
theorem dX3_work_15 : decode cX3_work 15 = .ok (.aload_n 1, 1) := by decide +kernel
theorem dX3_work_16 : decode cX3_work 16 = .ok (.getfield 71, 3) := by decide +kernel
theorem dX3_work_19 : decode cX3_work 19 = .ok (.bipush 10, 2) := by decide +kernel
theorem dX3_work_21 : decode cX3_work 21 = .ok (.iadd, 1) := by decide +kernel
theorem dX3_work_22 : decode cX3_work 22 = .ok (.if_icmp .le 13, 3) := by decide +kernel
theorem dX3_work_25 : decode cX3_work 25 = .ok (.aload_n 1, 1) := by decide +kernel
theorem dX3_work_26 : decode cX3_work 26 = .ok (.dup, 1) := by decide +kernel
theorem dX3_work_27 : decode cX3_work 27 = .ok (.getfield 206, 3) := by decide +kernel
theorem dX3_work_30 : decode cX3_work 30 = .ok (.iconst 1, 1) := by decide +kernel
theorem dX3_work_31 : decode cX3_work 31 = .ok (.iadd, 1) := by decide +kernel
theorem dX3_work_32 : decode cX3_work 32 = .ok (.putfield 206, 3) := by decide +kernel
theorem dX3_work_35 : decode cX3_work 35 = .ok (.aload_n 1, 1) := by decide +kernel
theorem dX3_work_36 : decode cX3_work 36 = .ok (.getfield 209, 3) := by decide +kernel
theorem dX3_work_39 : decode cX3_work 39 = .ok (.istore_n 2, 1) := by decide +kernel
theorem dX3_work_40 : decode cX3_work 40 = .ok (.aload_n 1, 1) := by decide +kernel
theorem dX3_work_41 : decode cX3_work 41 = .ok (.invokevirtual 212, 3) := by decide +kernel
theorem dX3_work_44 : decode cX3_work 44 = .ok (.ifCond .eq 48, 3) := by decide +kernel
theorem dX3_work_47 : decode cX3_work 47 = .ok (.aload_n 0, 1) := by decide +kernel
theorem dX3_work_48 : decode cX3_work 48 = .ok (.aload_n 1, 1) := by decide +kernel
theorem dX3_work_49 : decode cX3_work 49 = .ok (.getfield 96, 3) := by decide +kernel
theorem dX3_work_52 : decode cX3_work 52 = .ok (.invokevirtual 216, 3) := by decide +kernel
theorem dX3_work_55 : decode cX3_work 55 = .ok (.ifCond .eq 37, 3) := by decide +kernel
theorem dX3_work_58 : decode cX3_work 58 = .ok (.iload_n 2, 1) := by decide +kernel
theorem dX3_work_59 : decode cX3_work 59 = .ok (.ifCond .lt 33, 3) := by decide +kernel
theorem dX3_work_62 : decode cX3_work 62 = .ok (.iload_n 2, 1) := by decide +kernel
theorem dX3_work_63 : decode cX3_work 63 = .ok (.iconst 3, 1) := by decide +kernel
theorem dX3_work_64 : decode cX3_work 64 = .ok (.if_icmp .ge 28, 3) := by decide +kernel
theorem dX3_work_67 : decode cX3_work 67 = .ok (.aload_n 0, 1) := by decide +kernel
theorem dX3_work_68 : decode cX3_work 68 = .ok (.getfield 11, 3) := by decide +kernel
theorem dX3_work_71 : decode cX3_work 71 = .ok (.aload_n 1, 1) := by decide +kernel
theorem dX3_work_72 : decode cX3_work 72 = .ok (.getfield 96, 3) := by decide +kernel
theorem dX3_work_75 : decode cX3_work 75 = .ok (.aaload, 1) := by decide +kernel
theorem dX3_work_76 : decode cX3_work 76 = .ok (.getfield 220, 3) := by decide +kernel
theorem dX3_work_79 : decode cX3_work 79 = .ok (.iload_n 2, 1) := by decide +kernel
theorem dX3_work_80 : decode cX3_work 80 = .ok (.iconst 0, 1) := by decide +kernel
theorem dX3_work_81 : decode cX3_work 81 = .ok (.iastore, 1) := by decide +kernel
theorem dX3_work_82 : decode cX3_work 82 = .ok (.aload_n 0, 1) := by decide +kernel
theorem dX3_work_83 : decode cX3_work 83 = .ok (.dup, 1) := by decide +kernel
theorem dX3_work_84 : decode cX3_work 84 = .ok (.getfield 77, 3) := by decide +kernel
theorem dX3_work_87 : decode cX3_work 87 = .ok (.iconst 1, 1) := by decide +kernel
theorem dX3_work_88 : decode cX3_work 88 = .ok (.iadd, 1) := by decide +kernel
theorem dX3_work_89 : decode cX3_work 89 = .ok (.putfield 77, 3) := by decide +kernel
theorem dX3_work_92 : decode cX3_work 92 = .ok (.return_, 1) := by decide +kernel
theorem wfRX3_199 : zFl RX3 199 6 2 := ⟨_, rfl, by decide, zm_f 621 (by decide +kernel) rfl⟩
theorem wfRX3_203 : zFl RX3 203 7 2 := ⟨_, rfl, by decide, zm_f 459 (by decide +kernel) rfl⟩
theorem wfRX3_71 : zFl RX3 71 6 0 := ⟨_, rfl, by decide, zm_f 616 (by decide +kernel) rfl⟩
theorem wfRX3_206 : zFl RX3 206 6 5 := ⟨_, rfl, by decide, zm_f 629 (by decide +kernel) rfl⟩
theorem wpRX3_206 : zFw RX3 206 6 5 .int := ⟨_, rfl, by decide, zm_f 629 (by decide +kernel) rfl, rfl, by decide +kernel⟩
theorem wfRX3_209 : zFl RX3 209 6 3 := ⟨_, rfl, by decide, zm_f 624 (by decide +kernel) rfl⟩
theorem wcRX3_212 : Cond.methodLink RX3 212 yX6_finishes ∈ zTg ∧ Cond.instanceMethod yX6_finishes ∈ zTg ∧ Cond.selects RX6 yX6_finishes yX6_finishes ∈ zTg ∧ Cond.initialized RX6 ∈ zTg ∧ Cond.code yX6_finishes cX6_finishes 1 (some .boolean) ∈ zTg := ⟨zm_f 265 (by decide +kernel) rfl, zm_f 266 (by decide +kernel) rfl, zm_f 267 (by decide +kernel) rfl, zm_f 28 (by decide +kernel) rfl, zm_f 268 (by decide +kernel) rfl⟩
theorem wy_yX6_finishes : yX6_finishes.cls = RX6 ∧ yX6_finishes.cls ≠ "java/lang/invoke/MethodHandle" ∧ yX6_finishes.cls ≠ "java/lang/invoke/VarHandle" ∧ (parseMethodDescriptor yX6_finishes.desc).map (fun d => d.parameters.length) = some 0 := by decide +kernel
theorem wfRX3_96 : zFl RX3 96 6 1 := ⟨_, rfl, by decide, zm_f 618 (by decide +kernel) rfl⟩
theorem wcRX3_216 : Cond.methodLink RX3 216 yX3_hasTurbine ∈ zTg ∧ Cond.instanceMethod yX3_hasTurbine ∈ zTg ∧ Cond.selects RX3 yX3_hasTurbine yX3_hasTurbine ∈ zTg ∧ Cond.initialized RX3 ∈ zTg ∧ Cond.code yX3_hasTurbine cX3_hasTurbine 2 (some .boolean) ∈ zTg := ⟨zm_f 269 (by decide +kernel) rfl, zm_f 270 (by decide +kernel) rfl, zm_f 271 (by decide +kernel) rfl, zm_f 22 (by decide +kernel) rfl, zm_f 272 (by decide +kernel) rfl⟩
theorem wy_yX3_hasTurbine : yX3_hasTurbine.cls = RX3 ∧ yX3_hasTurbine.cls ≠ "java/lang/invoke/MethodHandle" ∧ yX3_hasTurbine.cls ≠ "java/lang/invoke/VarHandle" ∧ (parseMethodDescriptor yX3_hasTurbine.desc).map (fun d => d.parameters.length) = some 1 := by decide +kernel
theorem wfRX3_220 : zFl RX3 220 5 11 := ⟨_, rfl, by decide, zm_f 556 (by decide +kernel) rfl⟩
theorem wfRX3_77 : zFl RX3 77 3 10 := ⟨_, rfl, by decide, zm_f 665 (by decide +kernel) rfl⟩
theorem wpRX3_77 : zFw RX3 77 3 10 .int := ⟨_, rfl, by decide, zm_f 665 (by decide +kernel) rfl, rfl, by decide +kernel⟩
def fSe_work (i : Nat) (s0 : zM) : Option (zM) :=
  if (s0 13 i 2 &&& 1) = 0 then
  some s0
else
  Option.bind (if (s0 4 0 2) ≤ ((s0 13 i 0) + (10 : Int32)) then
    some s0
  else
    zlet (zu s0 13 i 5 ((s0 13 i 5) + (1 : Int32))) fun s0_5 =>
      some s0_5) fun q1 =>
    zlet ((q1 13 i 3)) fun v6 =>
    Option.bind (fVe_finishes i q1) fun q7 =>
    if q7.1 = 0 then
    some q7.2
  else
    Option.bind (fSe_hasTurbine (q7.2 13 i 1) q7.2) fun q8 =>
      if q8 = 0 then
      some q7.2
    else
      if v6 < 0 then
        some q7.2
      else
        if (3 : Int32) ≤ v6 then
          some q7.2
        else
          zix (q7.2 13 i 1) 8 fun j9 =>
            zix v6 3 fun j10 =>
            zlet (zu q7.2 8 j9 j10 (0 : Int32)) fun s0_11 =>
            zlet (zu s0_11 0 0 10 ((s0_11 0 0 10) + (1 : Int32))) fun s0_12 =>
            some s0_12
set_option maxHeartbeats 4000000 in
set_option maxRecDepth 20000 in
theorem bfSe_work {X : zX} (F : zFr X cX3_work 3 RX3 none) (i : Nat) (hi : i < 3) (s0 : zM) {κ : zM → Option zO} (hκ : ∀ a, κ a = some ((fun a => ((.inl ((fun _ => (none : Option zV)) a), (fun q => [q]) a) : zO)) a)) : zZ X [(0, [])] 1 21 3 0 [some (zr 0 0 0), some (zr 0 13 i), none] [] [s0] (Option.bind (fSe_work i s0) κ) := by
  unfold fSe_work
  refine zz_aload_n F (i := 1) dX3_work_0 rfl rfl ?_
  refine zz_getb F dX3_work_1 wfRX3_199 zCl_6 rfl (⟨zlb rfl, zlb rfl, hi⟩) rfl (by decide) rfl rfl ?_
  refine zz_if_ne F (tgt := 8) dX3_work_4 (by decide) (fun h => zz_f h ?_) (fun h => zz_t h ?_)
  · refine zz_aload_n F (i := 0) dX3_work_8 rfl rfl ?_
    refine zz_getr F dX3_work_9 wfRX3_32 zCl_3 rfl (⟨zlb rfl, zlb rfl, zlb rfl⟩) rfl (by decide) rfl (r' := 0) (by decide) ?_
    refine zz_getf F dX3_work_12 wfRX3_203 zCl_7 rfl (⟨zlb rfl, zlb rfl, zlb rfl⟩) rfl (by decide) rfl rfl ?_
    refine zz_aload_n F (i := 1) dX3_work_15 rfl rfl ?_
    refine zz_getf F dX3_work_16 wfRX3_71 zCl_6 rfl (⟨zlb rfl, zlb rfl, hi⟩) rfl (by decide) rfl rfl ?_
    refine zz_bipush F (v := (10 : Int32)) dX3_work_19 (by decide) ?_
    refine zz_iadd F dX3_work_21 ?_
    refine zz_join (pj := 35) (Lj := fun q1 => [some (zr 0 0 0), some (zr 0 13 i), none]) (Sj := fun q1 => []) (Mj := fun q1 => [q1]) (fun q1 => ?_) (fun κ3 hj2 => ?_)
    · refine zz_aload_n F (i := 1) dX3_work_35 rfl rfl ?_
      refine zz_getf F dX3_work_36 wfRX3_209 zCl_6 rfl (⟨zlb rfl, zlb rfl, hi⟩) rfl (by decide) rfl rfl ?_
      refine zz_istore_n F (i := 2) (L' := [some (zr 0 0 0), some (zr 0 13 i), some (zi (q1 13 i 3))]) dX3_work_39 rfl (by decide) rfl rfl ?_
      refine zz_letl (Lf := fun v6 => [some (zr 0 0 0), some (zr 0 13 i), some (zi v6)]) fun v6 => ?_
      refine zz_aload_n F (i := 1) dX3_work_40 rfl rfl ?_
      refine zz_bind ?_
      refine zz_callVr F (ρ := [0]) (so := fun q7 => [zi q7.1]) (Mo := fun q7 => [q7.2]) (zfVe_finishes i hi q1) dX3_work_41 wcRX3_212 wy_yX6_finishes rfl ⟨rel3, rfl, rfl, Nat.le_of_ble_eq_true rfl, Nat.le_of_ble_eq_true rfl, Nat.le_of_ble_eq_true rfl⟩ (⟨zlb rfl, zlb rfl, hi⟩) rfl rfl rfl (fun _ => rfl) (fun _ => rfl) fun q7 => ?_
      refine zz_if_eq F (tgt := 92) dX3_work_44 (by decide) (fun h => zz_t h ?_) (fun h => zz_f h ?_)
      · exact zz_return F dX3_work_92 rfl (hκ _)
      · refine zz_aload_n F (i := 0) dX3_work_47 rfl rfl ?_
        refine zz_aload_n F (i := 1) dX3_work_48 rfl rfl ?_
        refine zz_getf F dX3_work_49 wfRX3_96 zCl_6 rfl (⟨zlb rfl, zlb rfl, hi⟩) rfl (by decide) rfl rfl ?_
        refine zz_bind ?_
        refine zz_callVr F (ρ := [0]) (so := fun q8 => [zi q8]) (Mo := fun q8 => [q7.2]) (zfSe_hasTurbine (q7.2 13 i 1) q7.2) dX3_work_52 wcRX3_216 wy_yX3_hasTurbine rfl ⟨rel3, rfl, rfl, Nat.le_of_ble_eq_true rfl, Nat.le_of_ble_eq_true rfl, Nat.le_of_ble_eq_true rfl⟩ (⟨zlb rfl, zlb rfl, zlb rfl⟩) rfl rfl rfl (fun _ => rfl) (fun _ => rfl) fun q8 => ?_
        refine zz_if_eq F (tgt := 92) dX3_work_55 (by decide) (fun h => zz_t h ?_) (fun h => zz_f h ?_)
        · exact zz_return F dX3_work_92 rfl (hκ _)
        · refine zz_iload_n F (i := 2) dX3_work_58 rfl rfl ?_
          refine zz_if_lt F (tgt := 92) dX3_work_59 (by decide) (fun h => zz_t h ?_) (fun h => zz_f h ?_)
          · exact zz_return F dX3_work_92 rfl (hκ _)
          · refine zz_iload_n F (i := 2) dX3_work_62 rfl rfl ?_
            refine zz_iconst F (v := (3 : Int32)) dX3_work_63 (by decide) ?_
            refine zz_icmp_ge F (tgt := 92) dX3_work_64 (by decide) (fun h => zz_t h ?_) (fun h => zz_f h ?_)
            · exact zz_return F dX3_work_92 rfl (hκ _)
            · refine zz_aload_n F (i := 0) dX3_work_67 rfl rfl ?_
              refine zz_getr F dX3_work_68 wfRX3_11 zCl_3 rfl (⟨zlb rfl, zlb rfl, zlb rfl⟩) rfl (by decide) rfl (r' := 0) (by decide) ?_
              refine zz_aload_n F (i := 1) dX3_work_71 rfl rfl ?_
              refine zz_getf F dX3_work_72 wfRX3_96 zCl_6 rfl (⟨zlb rfl, zlb rfl, hi⟩) rfl (by decide) rfl rfl ?_
              refine zz_ix fun j9 hj9 hinj9 hej9 => zz_aal F dX3_work_75 rfl (⟨zlb rfl, zlb rfl, zlb rfl⟩) rfl (by decide) rfl hinj9 hej9 rfl ?_
              refine zz_getr F dX3_work_76 wfRX3_220 zCl_5 rfl (⟨zlb rfl, zlb rfl, hj9⟩) rfl (by decide) rfl (r' := 0) (by decide) ?_
              refine zz_iload_n F (i := 2) dX3_work_79 rfl rfl ?_
              refine zz_iconst F (v := (0 : Int32)) dX3_work_80 (by decide) ?_
              refine zz_ix fun j10 hj10 hinj10 hej10 => zz_ias F (Ms' := [(zu q7.2 8 j9 j10 (0 : Int32))]) dX3_work_81 rfl (⟨zlb rfl, zlb rfl, hj9⟩) rfl hinj10 hej10 rfl ?_
              refine zz_letm (Mf := fun s0_11 => [s0_11]) fun s0_11 => ?_
              refine zz_aload_n F (i := 0) dX3_work_82 rfl rfl ?_
              refine zz_dup F dX3_work_83 rfl ?_
              refine zz_getf F dX3_work_84 wfRX3_77 zCl_3 rfl (⟨zlb rfl, zlb rfl, zlb rfl⟩) rfl (by decide) rfl rfl ?_
              refine zz_iconst F (v := (1 : Int32)) dX3_work_87 (by decide) ?_
              refine zz_iadd F dX3_work_88 ?_
              refine zz_put F (Ms' := [(zu s0_11 0 0 10 ((s0_11 0 0 10) + (1 : Int32)))]) dX3_work_89 wpRX3_77 zCl_3 rfl (⟨zlb rfl, zlb rfl, zlb rfl⟩) rfl (by decide) rfl rfl rfl ?_
              refine zz_letm (Mf := fun s0_12 => [s0_12]) fun s0_12 => ?_
              exact zz_return F dX3_work_92 rfl (hκ _)
    · refine zz_icmp_le F (tgt := 35) dX3_work_22 (by decide) (fun h => zz_t h ?_) (fun h => zz_f h ?_)
      · exact zz_sub (zs_k (zs_k (zs_k zs_z))) (hj2 s0)
      · refine zz_aload_n F (i := 1) dX3_work_25 rfl rfl ?_
        refine zz_dup F dX3_work_26 rfl ?_
        refine zz_getf F dX3_work_27 wfRX3_206 zCl_6 rfl (⟨zlb rfl, zlb rfl, hi⟩) rfl (by decide) rfl rfl ?_
        refine zz_iconst F (v := (1 : Int32)) dX3_work_30 (by decide) ?_
        refine zz_iadd F dX3_work_31 ?_
        refine zz_put F (Ms' := [(zu s0 13 i 5 ((s0 13 i 5) + (1 : Int32)))]) dX3_work_32 wpRX3_206 zCl_6 rfl (⟨zlb rfl, zlb rfl, hi⟩) rfl (by decide) rfl rfl rfl ?_
        refine zz_letm (Mf := fun s0_5 => [s0_5]) fun s0_5 => ?_
        exact zz_sub (zs_k (zs_k (zs_k zs_z))) (hj2 s0_5)
  · exact zz_return F dX3_work_7 rfl (hκ _)
theorem zfSe_work (i : Nat) (hi : i < 3) (s0 : zM) : ∀ a, fSe_work i s0 = some a → zMet yX3_work cX3_work 3 none 1 21 [(0, [])] [zr 0 0 0, zr 0 13 i] [s0] ((fun a => ((.inl ((fun _ => (none : Option zV)) a), (fun q => [q]) a) : zO)) a) := fun a ha => zMet_of (L0 := [some (zr 0 0 0), some (zr 0 13 i), none]) (φ := Option.bind (fSe_work i s0) (fun a => some ((fun a => ((.inl ((fun _ => (none : Option zV)) a), (fun q => [q]) a) : zO)) a))) (by decide) (fun _ => Nat.le_of_ble_eq_true rfl) (zl0 1 rfl) (fun X F => bfSe_work F i hi s0 (fun _ => rfl)) (by rw [ha]; rfl)
