theorem dX3_loadStrings_0 : decode cX3_loadStrings 0 = .ok (.iconst 0, 1) := by decide +kernel
theorem dX3_loadStrings_1 : decode cX3_loadStrings 1 = .ok (.istore_n 1, 1) := by decide +kernel
theorem dX3_loadStrings_2 : decode cX3_loadStrings 2 = .ok (.iload_n 1, 1) := by decide +kernel
theorem dX3_loadStrings_3 : decode cX3_loadStrings 3 = .ok (.aload_n 0, 1) := by decide +kernel
theorem dX3_loadStrings_4 : decode cX3_loadStrings 4 = .ok (.getfield 50, 3) := by decide +kernel
theorem dX3_loadStrings_7 : decode cX3_loadStrings 7 = .ok (.if_icmp .ge 34, 3) := by decide +kernel
theorem dX3_loadStrings_10 : decode cX3_loadStrings 10 = .ok (.aload_n 0, 1) := by decide +kernel
theorem dX3_loadStrings_11 : decode cX3_loadStrings 11 = .ok (.getfield 19, 3) := by decide +kernel
theorem dX3_loadStrings_14 : decode cX3_loadStrings 14 = .ok (.iload_n 1, 1) := by decide +kernel
theorem dX3_loadStrings_15 : decode cX3_loadStrings 15 = .ok (.aaload, 1) := by decide +kernel
theorem dX3_loadStrings_16 : decode cX3_loadStrings 16 = .ok (.aload_n 0, 1) := by decide +kernel
theorem dX3_loadStrings_17 : decode cX3_loadStrings 17 = .ok (.iload_n 1, 1) := by decide +kernel
theorem dX3_loadStrings_18 : decode cX3_loadStrings 18 = .ok (.aload_n 0, 1) := by decide +kernel
theorem dX3_loadStrings_19 : decode cX3_loadStrings 19 = .ok (.getfield 19, 3) := by decide +kernel
theorem dX3_loadStrings_22 : decode cX3_loadStrings 22 = .ok (.iload_n 1, 1) := by decide +kernel
theorem dX3_loadStrings_23 : decode cX3_loadStrings 23 = .ok (.aaload, 1) := by decide +kernel
theorem dX3_loadStrings_24 : decode cX3_loadStrings 24 = .ok (.invokevirtual 183, 3) := by decide +kernel
theorem dX3_loadStrings_27 : decode cX3_loadStrings 27 = .ok (.bipush 6, 2) := by decide +kernel
theorem dX3_loadStrings_29 : decode cX3_loadStrings 29 = .ok (.invokevirtual 166, 3) := by decide +kernel
theorem dX3_loadStrings_32 : decode cX3_loadStrings 32 = .ok (.invokevirtual 185, 3) := by decide +kernel
theorem dX3_loadStrings_35 : decode cX3_loadStrings 35 = .ok (.iinc 1 1, 3) := by decide +kernel
theorem dX3_loadStrings_38 : decode cX3_loadStrings 38 = .ok (.goto (-36), 3) := by decide +kernel
theorem dX3_loadStrings_41 : decode cX3_loadStrings 41 = .ok (.return_, 1) := by decide +kernel
theorem wcRX3_183 : Cond.methodLink RX3 183 yX0_limit ∈ zTg ∧ Cond.instanceMethod yX0_limit ∈ zTg ∧ Cond.selects RX0 yX0_limit yX0_limit ∈ zTg ∧ Cond.initialized RX0 ∈ zTg ∧ Cond.code yX0_limit cX0_limit 1 (some .int) ∈ zTg := ⟨zm_f 652 (by decide +kernel) rfl, zm_f 653 (by decide +kernel) rfl, zm_f 654 (by decide +kernel) rfl, zm_f 43 (by decide +kernel) rfl, zm_f 655 (by decide +kernel) rfl⟩
theorem wy_yX0_limit : yX0_limit.cls = RX0 ∧ yX0_limit.cls ≠ "java/lang/invoke/MethodHandle" ∧ yX0_limit.cls ≠ "java/lang/invoke/VarHandle" ∧ (parseMethodDescriptor yX0_limit.desc).map (fun d => d.parameters.length) = some 0 := by decide +kernel
theorem wcRX3_166 : Cond.methodLink RX3 166 yX3_giveUp ∈ zTg ∧ Cond.instanceMethod yX3_giveUp ∈ zTg ∧ Cond.selects RX3 yX3_giveUp yX3_giveUp ∈ zTg ∧ Cond.initialized RX3 ∈ zTg ∧ Cond.code yX3_giveUp cX3_giveUp 9 (some .int) ∈ zTg := ⟨zm_f 656 (by decide +kernel) rfl, zm_f 658 (by decide +kernel) rfl, zm_f 9 (by decide +kernel) rfl, zm_f 38 (by decide +kernel) rfl, zm_f 659 (by decide +kernel) rfl⟩
theorem wy_yX3_giveUp : yX3_giveUp.cls = RX3 ∧ yX3_giveUp.cls ≠ "java/lang/invoke/MethodHandle" ∧ yX3_giveUp.cls ≠ "java/lang/invoke/VarHandle" ∧ (parseMethodDescriptor yX3_giveUp.desc).map (fun d => d.parameters.length) = some 3 := by decide +kernel
theorem wcRX3_185 : Cond.methodLink RX3 185 yX0_carry ∈ zTg ∧ Cond.instanceMethod yX0_carry ∈ zTg ∧ Cond.selects RX0 yX0_carry yX0_carry ∈ zTg ∧ Cond.initialized RX0 ∈ zTg ∧ Cond.code yX0_carry cX0_carry 2 none ∈ zTg := ⟨zm_f 665 (by decide +kernel) rfl, zm_f 666 (by decide +kernel) rfl, zm_f 667 (by decide +kernel) rfl, zm_f 43 (by decide +kernel) rfl, zm_f 668 (by decide +kernel) rfl⟩
theorem wy_yX0_carry : yX0_carry.cls = RX0 ∧ yX0_carry.cls ≠ "java/lang/invoke/MethodHandle" ∧ yX0_carry.cls ≠ "java/lang/invoke/VarHandle" ∧ (parseMethodDescriptor yX0_carry.desc).map (fun d => d.parameters.length) = some 1 := by decide +kernel
def fSe_loadStrings_l2  (q1 : Int32 × zM) : Option ((Int32 × zM) ⊕ ((zM))) :=
  if (q1.2 0 0 6) ≤ q1.1 then
  some (.inr q1.2)
else
  zix q1.1 3 fun j3 =>
    zix q1.1 3 fun j4 =>
    Option.bind (fCa_limit j4 q1.2) fun q5 =>
    Option.bind (fSe_giveUp q1.1 q5 (6 : Int32) q1.2) fun q6 =>
    Option.bind (fCa_carry j3 q6.1 q6.2) fun q7 =>
    zlet (q1.1 + 1) fun v8 =>
    some (.inl (v8, q7))
def fSe_loadStrings  (s0 : zM) : Option (zM) :=
  Option.bind (ziter (fSe_loadStrings_l2 ) 1000 ((0 : Int32), s0)) fun q2 =>
  some q2
set_option maxHeartbeats 4000000 in
set_option maxRecDepth 20000 in
theorem bfSe_loadStrings_l2 {X : zX} (F : zFr X cX3_loadStrings 2 RX3 none)   {ψ : (Int32 × zM) ⊕ ((zM)) → Option zO} (h1 : ∀ q1 : Int32 × zM, zZ X [(0, [])] 2 50 2 2 [some (zr 0 0 0), some (zi q1.1)] [] [q1.2] (ψ (.inl q1))) (h2 : ∀ q2 : zM, zZ X [(0, [])] 2 50 2 41 [none, none] [] [q2] (ψ (.inr q2))) (q1 : Int32 × zM) : zZ X [(0, [])] 2 50 2 2 [some (zr 0 0 0), some (zi q1.1)] [] [q1.2] (Option.bind (fSe_loadStrings_l2  q1) ψ) := by
  unfold fSe_loadStrings_l2
  refine zz_iload_n F (i := 1) dX3_loadStrings_2 rfl rfl ?_
  refine zz_aload_n F (i := 0) dX3_loadStrings_3 rfl rfl ?_
  refine zz_getf F dX3_loadStrings_4 wfRX3_50 zCl_3 rfl (⟨zlb rfl, zlb rfl, zlb rfl⟩) rfl (by decide) rfl rfl ?_
  refine zz_icmp_ge F (tgt := 41) dX3_loadStrings_7 (by decide) (fun h => zz_t h ?_) (fun h => zz_f h ?_)
  · exact zz_sub (zs_n (zs_n zs_z)) (h2 q1.2)
  · refine zz_aload_n F (i := 0) dX3_loadStrings_10 rfl rfl ?_
    refine zz_getr F dX3_loadStrings_11 wfRX3_19 zCl_3 rfl (⟨zlb rfl, zlb rfl, zlb rfl⟩) rfl (by decide) rfl (r' := 0) (by decide) ?_
    refine zz_iload_n F (i := 1) dX3_loadStrings_14 rfl rfl ?_
    refine zz_ix fun j3 hj3 hinj3 hej3 => zz_aal F dX3_loadStrings_15 rfl (⟨zlb rfl, zlb rfl, zlb rfl⟩) rfl (by decide) rfl hinj3 hej3 rfl ?_
    refine zz_aload_n F (i := 0) dX3_loadStrings_16 rfl rfl ?_
    refine zz_iload_n F (i := 1) dX3_loadStrings_17 rfl rfl ?_
    refine zz_aload_n F (i := 0) dX3_loadStrings_18 rfl rfl ?_
    refine zz_getr F dX3_loadStrings_19 wfRX3_19 zCl_3 rfl (⟨zlb rfl, zlb rfl, zlb rfl⟩) rfl (by decide) rfl (r' := 0) (by decide) ?_
    refine zz_iload_n F (i := 1) dX3_loadStrings_22 rfl rfl ?_
    refine zz_ix fun j4 hj4 hinj4 hej4 => zz_aal F dX3_loadStrings_23 rfl (⟨zlb rfl, zlb rfl, zlb rfl⟩) rfl (by decide) rfl hinj4 hej4 rfl ?_
    refine zz_bind ?_
    refine zz_callVr F (ρ := [0]) (so := fun q5 => [zi q5, zi q1.1, zr 0 0 0, zr 0 12 j3]) (Mo := fun q5 => [q1.2]) (zfCa_limit j4 hj4 q1.2) dX3_loadStrings_24 wcRX3_183 wy_yX0_limit rfl ⟨rel3, rfl, rfl, Nat.le_of_ble_eq_true rfl, Nat.le_of_ble_eq_true rfl, Nat.le_of_ble_eq_true rfl⟩ (⟨zlb rfl, zlb rfl, hj4⟩) rfl rfl rfl (fun _ => rfl) (fun _ => rfl) fun q5 => ?_
    refine zz_bipush F (v := (6 : Int32)) dX3_loadStrings_27 (by decide) ?_
    refine zz_bind ?_
    refine zz_callVr F (ρ := [0]) (so := fun q6 => [zi q6.1, zr 0 12 j3]) (Mo := fun q6 => [q6.2]) (zfSe_giveUp q1.1 q5 (6 : Int32) q1.2) dX3_loadStrings_29 wcRX3_166 wy_yX3_giveUp rfl ⟨rel3, rfl, rfl, Nat.le_of_ble_eq_true rfl, Nat.le_of_ble_eq_true rfl, Nat.le_of_ble_eq_true rfl⟩ (⟨zlb rfl, zlb rfl, zlb rfl⟩) rfl rfl rfl (fun _ => rfl) (fun _ => rfl) fun q6 => ?_
    refine zz_bind ?_
    refine zz_callVr F (ρ := [0]) (so := fun q7 => []) (Mo := fun q7 => [q7]) (zfCa_carry j3 q6.1 hj3 q6.2) dX3_loadStrings_32 wcRX3_185 wy_yX0_carry rfl ⟨rel3, rfl, rfl, Nat.le_of_ble_eq_true rfl, Nat.le_of_ble_eq_true rfl, Nat.le_of_ble_eq_true rfl⟩ (⟨zlb rfl, zlb rfl, hj3⟩) rfl rfl rfl (fun _ => rfl) (fun _ => rfl) fun q7 => ?_
    refine zz_iinc F (i := 1) (v := q1.1 + 1) (L' := [some (zr 0 0 0), some (zi (q1.1 + 1))]) dX3_loadStrings_35 rfl (by first | rfl | decide) (by decide) rfl rfl ?_
    refine zz_letl (Lf := fun v8 => [some (zr 0 0 0), some (zi v8)]) fun v8 => ?_
    refine zz_goto F (tgt := 2) dX3_loadStrings_38 (by decide) ?_
    exact zz_sub (zs_k (zs_k zs_z)) (h1 (v8, q7))
set_option maxHeartbeats 4000000 in
set_option maxRecDepth 20000 in
theorem bfSe_loadStrings {X : zX} (F : zFr X cX3_loadStrings 2 RX3 none)   (s0 : zM) {κ : zM → Option zO} (hκ : ∀ a, κ a = some ((fun a => ((.inl ((fun _ => (none : Option zV)) a), (fun q => [q]) a) : zO)) a)) : zZ X [(0, [])] 2 50 2 0 [some (zr 0 0 0), none] [] [s0] (Option.bind (fSe_loadStrings s0) κ) := by
  unfold fSe_loadStrings
  refine zz_iconst F (v := (0 : Int32)) dX3_loadStrings_0 (by decide) ?_
  refine zz_istore_n F (i := 1) (L' := [some (zr 0 0 0), some (zi (0 : Int32))]) dX3_loadStrings_1 rfl (by decide) rfl rfl ?_
  refine zz_sub (zs_k (zs_k zs_z)) ?_
  refine zz_bind ?_
  refine zz_iter (Lf := fun q1 => [some (zr 0 0 0), some (zi q1.1)]) (Mf := fun q1 => [q1.2]) (fun q1 _ e9 e10 => bfSe_loadStrings_l2 F   e9 (fun q2 => ?_)  q1) 1000 ((0 : Int32), s0)
  rw [e10]
  exact zz_return F dX3_loadStrings_41 rfl (hκ _)
theorem zfSe_loadStrings   (s0 : zM) : ∀ a, fSe_loadStrings s0 = some a → zMet yX3_loadStrings cX3_loadStrings 2 none 2 50 [(0, [])] [zr 0 0 0] [s0] ((fun a => ((.inl ((fun _ => (none : Option zV)) a), (fun q => [q]) a) : zO)) a) := fun a ha => zMet_of (L0 := [some (zr 0 0 0), none]) (φ := Option.bind (fSe_loadStrings s0) (fun a => some ((fun a => ((.inl ((fun _ => (none : Option zV)) a), (fun q => [q]) a) : zO)) a))) (by decide) (fun _ => Nat.le_of_ble_eq_true rfl) (zl0 1 rfl) (fun X F => bfSe_loadStrings F s0 (fun _ => rfl)) (by rw [ha]; rfl)

theorem dX2_takeNominated_0 : decode cX2_takeNominated 0 = .ok (.aload_n 0, 1) := by decide +kernel
theorem dX2_takeNominated_1 : decode cX2_takeNominated 1 = .ok (.getfield 9, 3) := by decide +kernel
theorem dX2_takeNominated_4 : decode cX2_takeNominated 4 = .ok (.iconst 0, 1) := by decide +kernel
theorem dX2_takeNominated_5 : decode cX2_takeNominated 5 = .ok (.iaload, 1) := by decide +kernel
theorem dX2_takeNominated_6 : decode cX2_takeNominated 6 = .ok (.istore_n 1, 1) := by decide +kernel
theorem dX2_takeNominated_7 : decode cX2_takeNominated 7 = .ok (.iconst 1, 1) := by decide +kernel
theorem dX2_takeNominated_8 : decode cX2_takeNominated 8 = .ok (.istore_n 2, 1) := by decide +kernel
theorem dX2_takeNominated_9 : decode cX2_takeNominated 9 = .ok (.iload_n 2, 1) := by decide +kernel
theorem dX2_takeNominated_10 : decode cX2_takeNominated 10 = .ok (.bipush 24, 2) := by decide +kernel
theorem dX2_takeNominated_12 : decode cX2_takeNominated 12 = .ok (.if_icmp .ge 23, 3) := by decide +kernel
theorem dX2_takeNominated_15 : decode cX2_takeNominated 15 = .ok (.aload_n 0, 1) := by decide +kernel
theorem dX2_takeNominated_16 : decode cX2_takeNominated 16 = .ok (.getfield 9, 3) := by decide +kernel
theorem dX2_takeNominated_19 : decode cX2_takeNominated 19 = .ok (.iload_n 2, 1) := by decide +kernel
theorem dX2_takeNominated_20 : decode cX2_takeNominated 20 = .ok (.iconst 1, 1) := by decide +kernel
theorem dX2_takeNominated_21 : decode cX2_takeNominated 21 = .ok (.isub, 1) := by decide +kernel
theorem dX2_takeNominated_22 : decode cX2_takeNominated 22 = .ok (.aload_n 0, 1) := by decide +kernel
theorem dX2_takeNominated_23 : decode cX2_takeNominated 23 = .ok (.getfield 9, 3) := by decide +kernel
theorem dX2_takeNominated_26 : decode cX2_takeNominated 26 = .ok (.iload_n 2, 1) := by decide +kernel
theorem dX2_takeNominated_27 : decode cX2_takeNominated 27 = .ok (.iaload, 1) := by decide +kernel
theorem dX2_takeNominated_28 : decode cX2_takeNominated 28 = .ok (.iastore, 1) := by decide +kernel
theorem dX2_takeNominated_29 : decode cX2_takeNominated 29 = .ok (.iinc 2 1, 3) := by decide +kernel
theorem dX2_takeNominated_32 : decode cX2_takeNominated 32 = .ok (.goto (-23), 3) := by decide +kernel
theorem dX2_takeNominated_35 : decode cX2_takeNominated 35 = .ok (.aload_n 0, 1) := by decide +kernel
theorem dX2_takeNominated_36 : decode cX2_takeNominated 36 = .ok (.getfield 9, 3) := by decide +kernel
theorem dX2_takeNominated_39 : decode cX2_takeNominated 39 = .ok (.bipush 23, 2) := by decide +kernel
theorem dX2_takeNominated_41 : decode cX2_takeNominated 41 = .ok (.iconst (-1), 1) := by decide +kernel
theorem dX2_takeNominated_42 : decode cX2_takeNominated 42 = .ok (.iastore, 1) := by decide +kernel
theorem dX2_takeNominated_43 : decode cX2_takeNominated 43 = .ok (.iload_n 1, 1) := by decide +kernel
theorem dX2_takeNominated_44 : decode cX2_takeNominated 44 = .ok (.ireturn, 1) := by decide +kernel
def fLe_takeNominated_l9  (q3 : Int32 × zM) : Option ((Int32 × zM) ⊕ ((zM))) :=
  if (24 : Int32) ≤ q3.1 then
  some (.inr q3.2)
else
  zix q3.1 24 fun j5 =>
    zix (q3.1 - (1 : Int32)) 24 fun j6 =>
    zlet (zu q3.2 6 0 j6 (q3.2 6 0 j5)) fun s0_7 =>
    zlet (q3.1 + 1) fun v8 =>
    some (.inl (v8, s0_7))
def fLe_takeNominated  (s0 : zM) : Option (Int32 × zM) :=
  zix (0 : Int32) 24 fun j1 =>
  zlet ((s0 6 0 j1)) fun v2 =>
  Option.bind (ziter (fLe_takeNominated_l9 ) 1000 ((1 : Int32), s0)) fun q4 =>
  zix (23 : Int32) 24 fun j9 =>
  zlet (zu q4 6 0 j9 (-1 : Int32)) fun s0_10 =>
  some (v2, s0_10)
set_option maxHeartbeats 4000000 in
set_option maxRecDepth 20000 in
theorem bfLe_takeNominated_l9 {X : zX} (F : zFr X cX2_takeNominated 3 RX2 (some .int)) (v2 : Int32)  {ψ : (Int32 × zM) ⊕ ((zM)) → Option zO} (h1 : ∀ q3 : Int32 × zM, zZ X [(0, [])] 0 0 3 9 [some (zr 0 5 0), some (zi v2), some (zi q3.1)] [] [q3.2] (ψ (.inl q3))) (h2 : ∀ q4 : zM, zZ X [(0, [])] 0 0 3 35 [some (zr 0 5 0), some (zi v2), none] [] [q4] (ψ (.inr q4))) (q3 : Int32 × zM) : zZ X [(0, [])] 0 0 3 9 [some (zr 0 5 0), some (zi v2), some (zi q3.1)] [] [q3.2] (Option.bind (fLe_takeNominated_l9  q3) ψ) := by
  unfold fLe_takeNominated_l9
  refine zz_iload_n F (i := 2) dX2_takeNominated_9 rfl rfl ?_
  refine zz_bipush F (v := (24 : Int32)) dX2_takeNominated_10 (by decide) ?_
  refine zz_icmp_ge F (tgt := 35) dX2_takeNominated_12 (by decide) (fun h => zz_t h ?_) (fun h => zz_f h ?_)
  · exact zz_sub (zs_k (zs_k (zs_n zs_z))) (h2 q3.2)
  · refine zz_aload_n F (i := 0) dX2_takeNominated_15 rfl rfl ?_
    refine zz_getr F dX2_takeNominated_16 wfRX2_9 zCl_2 rfl (⟨zlb rfl, zlb rfl, zlb rfl⟩) rfl (by decide) rfl (r' := 0) (by decide) ?_
    refine zz_iload_n F (i := 2) dX2_takeNominated_19 rfl rfl ?_
    refine zz_iconst F (v := (1 : Int32)) dX2_takeNominated_20 (by decide) ?_
    refine zz_isub F dX2_takeNominated_21 ?_
    refine zz_aload_n F (i := 0) dX2_takeNominated_22 rfl rfl ?_
    refine zz_getr F dX2_takeNominated_23 wfRX2_9 zCl_2 rfl (⟨zlb rfl, zlb rfl, zlb rfl⟩) rfl (by decide) rfl (r' := 0) (by decide) ?_
    refine zz_iload_n F (i := 2) dX2_takeNominated_26 rfl rfl ?_
    refine zz_ix fun j5 hj5 hinj5 hej5 => zz_ial F dX2_takeNominated_27 rfl (⟨zlb rfl, zlb rfl, zlb rfl⟩) rfl hinj5 hej5 ?_
    refine zz_ix fun j6 hj6 hinj6 hej6 => zz_ias F (Ms' := [(zu q3.2 6 0 j6 (q3.2 6 0 j5))]) dX2_takeNominated_28 rfl (⟨zlb rfl, zlb rfl, zlb rfl⟩) rfl hinj6 hej6 rfl ?_
    refine zz_letm (Mf := fun s0_7 => [s0_7]) fun s0_7 => ?_
    refine zz_iinc F (i := 2) (v := q3.1 + 1) (L' := [some (zr 0 5 0), some (zi v2), some (zi (q3.1 + 1))]) dX2_takeNominated_29 rfl (by first | rfl | decide) (by decide) rfl rfl ?_
    refine zz_letl (Lf := fun v8 => [some (zr 0 5 0), some (zi v2), some (zi v8)]) fun v8 => ?_
    refine zz_goto F (tgt := 9) dX2_takeNominated_32 (by decide) ?_
    exact zz_sub (zs_k (zs_k (zs_k zs_z))) (h1 (v8, s0_7))
set_option maxHeartbeats 4000000 in
set_option maxRecDepth 20000 in
theorem bfLe_takeNominated {X : zX} (F : zFr X cX2_takeNominated 3 RX2 (some .int))   (s0 : zM) {κ : Int32 × zM → Option zO} (hκ : ∀ a, κ a = some ((fun a => ((.inl ((fun q => some (zi q.1)) a), (fun q => [q.2]) a) : zO)) a)) : zZ X [(0, [])] 0 0 3 0 [some (zr 0 5 0), none, none] [] [s0] (Option.bind (fLe_takeNominated s0) κ) := by
  unfold fLe_takeNominated
  refine zz_aload_n F (i := 0) dX2_takeNominated_0 rfl rfl ?_
  refine zz_getr F dX2_takeNominated_1 wfRX2_9 zCl_2 rfl (⟨zlb rfl, zlb rfl, zlb rfl⟩) rfl (by decide) rfl (r' := 0) (by decide) ?_
  refine zz_iconst F (v := (0 : Int32)) dX2_takeNominated_4 (by decide) ?_
  refine zz_ix fun j1 hj1 hinj1 hej1 => zz_ial F dX2_takeNominated_5 rfl (⟨zlb rfl, zlb rfl, zlb rfl⟩) rfl hinj1 hej1 ?_
  refine zz_istore_n F (i := 1) (L' := [some (zr 0 5 0), some (zi (s0 6 0 j1)), none]) dX2_takeNominated_6 rfl (by decide) rfl rfl ?_
  refine zz_letl (Lf := fun v2 => [some (zr 0 5 0), some (zi v2), none]) fun v2 => ?_
  refine zz_iconst F (v := (1 : Int32)) dX2_takeNominated_7 (by decide) ?_
  refine zz_istore_n F (i := 2) (L' := [some (zr 0 5 0), some (zi v2), some (zi (1 : Int32))]) dX2_takeNominated_8 rfl (by decide) rfl rfl ?_
  refine zz_sub (zs_k (zs_k (zs_k zs_z))) ?_
  refine zz_bind ?_
  refine zz_iter (Lf := fun q3 => [some (zr 0 5 0), some (zi v2), some (zi q3.1)]) (Mf := fun q3 => [q3.2]) (fun q3 _ e11 e12 => bfLe_takeNominated_l9 F v2  e11 (fun q4 => ?_)  q3) 1000 ((1 : Int32), s0)
  rw [e12]
  refine zz_aload_n F (i := 0) dX2_takeNominated_35 rfl rfl ?_
  refine zz_getr F dX2_takeNominated_36 wfRX2_9 zCl_2 rfl (⟨zlb rfl, zlb rfl, zlb rfl⟩) rfl (by decide) rfl (r' := 0) (by decide) ?_
  refine zz_bipush F (v := (23 : Int32)) dX2_takeNominated_39 (by decide) ?_
  refine zz_iconst F (v := (-1 : Int32)) dX2_takeNominated_41 (by decide) ?_
  refine zz_ix fun j9 hj9 hinj9 hej9 => zz_ias F (Ms' := [(zu q4 6 0 j9 (-1 : Int32))]) dX2_takeNominated_42 rfl (⟨zlb rfl, zlb rfl, zlb rfl⟩) rfl hinj9 hej9 rfl ?_
  refine zz_letm (Mf := fun s0_10 => [s0_10]) fun s0_10 => ?_
  refine zz_iload_n F (i := 1) dX2_takeNominated_43 rfl rfl ?_
  exact zz_ireturn F dX2_takeNominated_44 rfl (hκ _)
theorem zfLe_takeNominated   (s0 : zM) : ∀ a, fLe_takeNominated s0 = some a → zMet yX2_takeNominated cX2_takeNominated 3 (some .int) 0 0 [(0, [])] [zr 0 5 0] [s0] ((fun a => ((.inl ((fun q => some (zi q.1)) a), (fun q => [q.2]) a) : zO)) a) := fun a ha => zMet_of (L0 := [some (zr 0 5 0), none, none]) (φ := Option.bind (fLe_takeNominated s0) (fun a => some ((fun a => ((.inl ((fun q => some (zi q.1)) a), (fun q => [q.2]) a) : zO)) a))) (by decide) (fun _ => Nat.le_of_ble_eq_true rfl) (zl0 2 rfl) (fun X F => bfLe_takeNominated F s0 (fun _ => rfl)) (by rw [ha]; rfl)

theorem dX2_book_0 : decode cX2_book 0 = .ok (.aload_n 0, 1) := by decide +kernel
theorem dX2_book_1 : decode cX2_book 1 = .ok (.dup, 1) := by decide +kernel
theorem dX2_book_2 : decode cX2_book 2 = .ok (.getfield 21, 3) := by decide +kernel
theorem dX2_book_5 : decode cX2_book 5 = .ok (.iload_n 1, 1) := by decide +kernel
theorem dX2_book_6 : decode cX2_book 6 = .ok (.iadd, 1) := by decide +kernel
theorem dX2_book_7 : decode cX2_book 7 = .ok (.putfield 21, 3) := by decide +kernel
theorem dX2_book_10 : decode cX2_book 10 = .ok (.aload_n 0, 1) := by decide +kernel
theorem dX2_book_11 : decode cX2_book 11 = .ok (.iload_n 2, 1) := by decide +kernel
theorem dX2_book_12 : decode cX2_book 12 = .ok (.putfield 28, 3) := by decide +kernel
theorem dX2_book_15 : decode cX2_book 15 = .ok (.aload_n 0, 1) := by decide +kernel
theorem dX2_book_16 : decode cX2_book 16 = .ok (.dup, 1) := by decide +kernel
theorem dX2_book_17 : decode cX2_book 17 = .ok (.getfield 25, 3) := by decide +kernel
theorem dX2_book_20 : decode cX2_book 20 = .ok (.iload_n 2, 1) := by decide +kernel
theorem dX2_book_21 : decode cX2_book 21 = .ok (.iadd, 1) := by decide +kernel
theorem dX2_book_22 : decode cX2_book 22 = .ok (.putfield 25, 3) := by decide +kernel
theorem dX2_book_25 : decode cX2_book 25 = .ok (.aload_n 0, 1) := by decide +kernel
theorem dX2_book_26 : decode cX2_book 26 = .ok (.dup, 1) := by decide +kernel
theorem dX2_book_27 : decode cX2_book 27 = .ok (.getfield 31, 3) := by decide +kernel
theorem dX2_book_30 : decode cX2_book 30 = .ok (.iload_n 2, 1) := by decide +kernel
theorem dX2_book_31 : decode cX2_book 31 = .ok (.iload_n 3, 1) := by decide +kernel
theorem dX2_book_32 : decode cX2_book 32 = .ok (.imul, 1) := by decide +kernel
theorem dX2_book_33 : decode cX2_book 33 = .ok (.bipush 100, 2) := by decide +kernel
theorem dX2_book_35 : decode cX2_book 35 = .ok (.idiv, 1) := by decide +kernel
theorem dX2_book_36 : decode cX2_book 36 = .ok (.iadd, 1) := by decide +kernel
theorem dX2_book_37 : decode cX2_book 37 = .ok (.putfield 31, 3) := by decide +kernel
theorem dX2_book_40 : decode cX2_book 40 = .ok (.aload_n 0, 1) := by decide +kernel
theorem dX2_book_41 : decode cX2_book 41 = .ok (.invokevirtual 34, 3) := by decide +kernel
theorem dX2_book_44 : decode cX2_book 44 = .ok (.istore 4, 2) := by decide +kernel
theorem dX2_book_46 : decode cX2_book 46 = .ok (.iload 4, 2) := by decide +kernel
theorem dX2_book_48 : decode cX2_book 48 = .ok (.iconst (-1), 1) := by decide +kernel
theorem dX2_book_49 : decode cX2_book 49 = .ok (.if_icmp .eq 25, 3) := by decide +kernel
theorem dX2_book_52 : decode cX2_book 52 = .ok (.aload_n 0, 1) := by decide +kernel
theorem dX2_book_53 : decode cX2_book 53 = .ok (.dup, 1) := by decide +kernel
theorem dX2_book_54 : decode cX2_book 54 = .ok (.getfield 31, 3) := by decide +kernel
theorem dX2_book_57 : decode cX2_book 57 = .ok (.iload 4, 2) := by decide +kernel
theorem dX2_book_59 : decode cX2_book 59 = .ok (.iload_n 2, 1) := by decide +kernel
theorem dX2_book_60 : decode cX2_book 60 = .ok (.isub, 1) := by decide +kernel
theorem dX2_book_61 : decode cX2_book 61 = .ok (.invokestatic 38, 3) := by decide +kernel
theorem dX2_book_64 : decode cX2_book 64 = .ok (.bipush 20, 2) := by decide +kernel
theorem dX2_book_66 : decode cX2_book 66 = .ok (.imul, 1) := by decide +kernel
theorem dX2_book_67 : decode cX2_book 67 = .ok (.bipush 100, 2) := by decide +kernel
theorem dX2_book_69 : decode cX2_book 69 = .ok (.idiv, 1) := by decide +kernel
theorem dX2_book_70 : decode cX2_book 70 = .ok (.isub, 1) := by decide +kernel
theorem dX2_book_71 : decode cX2_book 71 = .ok (.putfield 31, 3) := by decide +kernel
theorem dX2_book_74 : decode cX2_book 74 = .ok (.return_, 1) := by decide +kernel
theorem wfRX2_21 : zFl RX2 21 2 1 := ⟨_, rfl, by decide, zm_f 114 (by decide +kernel) rfl⟩
theorem wpRX2_21 : zFw RX2 21 2 1 .int := ⟨_, rfl, by decide, zm_f 114 (by decide +kernel) rfl, rfl, by decide +kernel⟩
theorem wpRX2_28 : zFw RX2 28 2 3 .int := ⟨_, rfl, by decide, zm_f 118 (by decide +kernel) rfl, rfl, by decide +kernel⟩
theorem wfRX2_25 : zFl RX2 25 2 2 := ⟨_, rfl, by decide, zm_f 116 (by decide +kernel) rfl⟩
theorem wpRX2_25 : zFw RX2 25 2 2 .int := ⟨_, rfl, by decide, zm_f 116 (by decide +kernel) rfl, rfl, by decide +kernel⟩
theorem wfRX2_31 : zFl RX2 31 2 4 := ⟨_, rfl, by decide, zm_f 120 (by decide +kernel) rfl⟩
theorem wpRX2_31 : zFw RX2 31 2 4 .int := ⟨_, rfl, by decide, zm_f 120 (by decide +kernel) rfl, rfl, by decide +kernel⟩
theorem wcRX2_34 : Cond.methodLink RX2 34 yX2_takeNominated ∈ zTg ∧ Cond.instanceMethod yX2_takeNominated ∈ zTg ∧ Cond.selects RX2 yX2_takeNominated yX2_takeNominated ∈ zTg ∧ Cond.initialized RX2 ∈ zTg ∧ Cond.code yX2_takeNominated cX2_takeNominated 3 (some .int) ∈ zTg := ⟨zm_f 673 (by decide +kernel) rfl, zm_f 675 (by decide +kernel) rfl, zm_f 11 (by decide +kernel) rfl, zm_f 40 (by decide +kernel) rfl, zm_f 676 (by decide +kernel) rfl⟩
theorem wy_yX2_takeNominated : yX2_takeNominated.cls = RX2 ∧ yX2_takeNominated.cls ≠ "java/lang/invoke/MethodHandle" ∧ yX2_takeNominated.cls ≠ "java/lang/invoke/VarHandle" ∧ (parseMethodDescriptor yX2_takeNominated.desc).map (fun d => d.parameters.length) = some 0 := by decide +kernel
theorem wmRX2_38 : Cond.methodLink RX2 38 Lib.Math.abs.name ∈ zTg := zm_f 677 (by decide +kernel) rfl
theorem wMath_abs : Cond.static Lib.Math.abs.name ∈ zTg ∧ Cond.initialized "java/lang/Math" ∈ zTg ∧ Cond.code Lib.Math.abs.name Lib.Math.abs.code 1 (some .int) ∈ zTg := ⟨zm_f 678 (by decide +kernel) rfl, zm_f 56 (by decide +kernel) rfl, zm_f 679 (by decide +kernel) rfl⟩
def fLe_book (a1 : Int32) (a2 : Int32) (a3 : Int32) (s0 : zM) : Option (zM) :=
  zlet (zu s0 5 0 1 ((s0 5 0 1) + a1)) fun s0_1 =>
  zlet (zu s0_1 5 0 3 a2) fun s0_2 =>
  zlet (zu s0_2 5 0 2 ((s0_2 5 0 2) + a2)) fun s0_3 =>
  zlet (zu s0_3 5 0 4 ((s0_3 5 0 4) + ((a2 * a3) / (100 : Int32)))) fun s0_4 =>
  Option.bind (fLe_takeNominated s0_4) fun q5 =>
  if q5.1 = (-1 : Int32) then
  some q5.2
else
  zlet (zu q5.2 5 0 4 ((q5.2 5 0 4) - (((zabs (q5.1 - a2)) * (20 : Int32)) / (100 : Int32)))) fun s0_6 =>
    some s0_6
set_option maxHeartbeats 4000000 in
set_option maxRecDepth 20000 in
theorem bfLe_book {X : zX} (F : zFr X cX2_book 5 RX2 none) (a1 : Int32) (a2 : Int32) (a3 : Int32)  (s0 : zM) {κ : zM → Option zO} (hκ : ∀ a, κ a = some ((fun a => ((.inl ((fun _ => (none : Option zV)) a), (fun q => [q]) a) : zO)) a)) : zZ X [(0, [])] 1 23 5 0 [some (zr 0 5 0), some (zi a1), some (zi a2), some (zi a3), none] [] [s0] (Option.bind (fLe_book a1 a2 a3 s0) κ) := by
  unfold fLe_book
  refine zz_aload_n F (i := 0) dX2_book_0 rfl rfl ?_
  refine zz_dup F dX2_book_1 rfl ?_
  refine zz_getf F dX2_book_2 wfRX2_21 zCl_2 rfl (⟨zlb rfl, zlb rfl, zlb rfl⟩) rfl (by decide) rfl rfl ?_
  refine zz_iload_n F (i := 1) dX2_book_5 rfl rfl ?_
  refine zz_iadd F dX2_book_6 ?_
  refine zz_put F (Ms' := [(zu s0 5 0 1 ((s0 5 0 1) + a1))]) dX2_book_7 wpRX2_21 zCl_2 rfl (⟨zlb rfl, zlb rfl, zlb rfl⟩) rfl (by decide) rfl rfl rfl ?_
  refine zz_letm (Mf := fun s0_1 => [s0_1]) fun s0_1 => ?_
  refine zz_aload_n F (i := 0) dX2_book_10 rfl rfl ?_
  refine zz_iload_n F (i := 2) dX2_book_11 rfl rfl ?_
  refine zz_put F (Ms' := [(zu s0_1 5 0 3 a2)]) dX2_book_12 wpRX2_28 zCl_2 rfl (⟨zlb rfl, zlb rfl, zlb rfl⟩) rfl (by decide) rfl rfl rfl ?_
  refine zz_letm (Mf := fun s0_2 => [s0_2]) fun s0_2 => ?_
  refine zz_aload_n F (i := 0) dX2_book_15 rfl rfl ?_
  refine zz_dup F dX2_book_16 rfl ?_
  refine zz_getf F dX2_book_17 wfRX2_25 zCl_2 rfl (⟨zlb rfl, zlb rfl, zlb rfl⟩) rfl (by decide) rfl rfl ?_
  refine zz_iload_n F (i := 2) dX2_book_20 rfl rfl ?_
  refine zz_iadd F dX2_book_21 ?_
  refine zz_put F (Ms' := [(zu s0_2 5 0 2 ((s0_2 5 0 2) + a2))]) dX2_book_22 wpRX2_25 zCl_2 rfl (⟨zlb rfl, zlb rfl, zlb rfl⟩) rfl (by decide) rfl rfl rfl ?_
  refine zz_letm (Mf := fun s0_3 => [s0_3]) fun s0_3 => ?_
  refine zz_aload_n F (i := 0) dX2_book_25 rfl rfl ?_
  refine zz_dup F dX2_book_26 rfl ?_
  refine zz_getf F dX2_book_27 wfRX2_31 zCl_2 rfl (⟨zlb rfl, zlb rfl, zlb rfl⟩) rfl (by decide) rfl rfl ?_
  refine zz_iload_n F (i := 2) dX2_book_30 rfl rfl ?_
  refine zz_iload_n F (i := 3) dX2_book_31 rfl rfl ?_
  refine zz_imul F dX2_book_32 ?_
  refine zz_bipush F (v := (100 : Int32)) dX2_book_33 (by decide) ?_
  refine zz_idiv F dX2_book_35 (by decide) ?_
  refine zz_iadd F dX2_book_36 ?_
  refine zz_put F (Ms' := [(zu s0_3 5 0 4 ((s0_3 5 0 4) + ((a2 * a3) / (100 : Int32))))]) dX2_book_37 wpRX2_31 zCl_2 rfl (⟨zlb rfl, zlb rfl, zlb rfl⟩) rfl (by decide) rfl rfl rfl ?_
  refine zz_letm (Mf := fun s0_4 => [s0_4]) fun s0_4 => ?_
  refine zz_aload_n F (i := 0) dX2_book_40 rfl rfl ?_
  refine zz_bind ?_
  refine zz_callVr F (ρ := [0]) (so := fun q5 => [zi q5.1]) (Mo := fun q5 => [q5.2]) (zfLe_takeNominated s0_4) dX2_book_41 wcRX2_34 wy_yX2_takeNominated rfl ⟨rel3, rfl, rfl, Nat.le_of_ble_eq_true rfl, Nat.le_of_ble_eq_true rfl, Nat.le_of_ble_eq_true rfl⟩ (⟨zlb rfl, zlb rfl, zlb rfl⟩) rfl rfl rfl (fun _ => rfl) (fun _ => rfl) fun q5 => ?_
  refine zz_istore F (i := 4) (L' := [some (zr 0 5 0), some (zi a1), some (zi a2), some (zi a3), some (zi q5.1)]) dX2_book_44 (by decide) rfl rfl ?_
  refine zz_iload F (i := 4) dX2_book_46 rfl ?_
  refine zz_iconst F (v := (-1 : Int32)) dX2_book_48 (by decide) ?_
  refine zz_icmp_eq F (tgt := 74) dX2_book_49 (by decide) (fun h => zz_t h ?_) (fun h => zz_f h ?_)
  · exact zz_return F dX2_book_74 rfl (hκ _)
  · refine zz_aload_n F (i := 0) dX2_book_52 rfl rfl ?_
    refine zz_dup F dX2_book_53 rfl ?_
    refine zz_getf F dX2_book_54 wfRX2_31 zCl_2 rfl (⟨zlb rfl, zlb rfl, zlb rfl⟩) rfl (by decide) rfl rfl ?_
    refine zz_iload F (i := 4) dX2_book_57 rfl ?_
    refine zz_iload_n F (i := 2) dX2_book_59 rfl rfl ?_
    refine zz_isub F dX2_book_60 ?_
    refine zz_abs F dX2_book_61 wmRX2_38 wMath_abs (Nat.le_of_ble_eq_true rfl) (Nat.le_of_ble_eq_true rfl) ?_
    refine zz_bipush F (v := (20 : Int32)) dX2_book_64 (by decide) ?_
    refine zz_imul F dX2_book_66 ?_
    refine zz_bipush F (v := (100 : Int32)) dX2_book_67 (by decide) ?_
    refine zz_idiv F dX2_book_69 (by decide) ?_
    refine zz_isub F dX2_book_70 ?_
    refine zz_put F (Ms' := [(zu q5.2 5 0 4 ((q5.2 5 0 4) - (((zabs (q5.1 - a2)) * (20 : Int32)) / (100 : Int32))))]) dX2_book_71 wpRX2_31 zCl_2 rfl (⟨zlb rfl, zlb rfl, zlb rfl⟩) rfl (by decide) rfl rfl rfl ?_
    refine zz_letm (Mf := fun s0_6 => [s0_6]) fun s0_6 => ?_
    exact zz_return F dX2_book_74 rfl (hκ _)
theorem zfLe_book (a1 : Int32) (a2 : Int32) (a3 : Int32)  (s0 : zM) : ∀ a, fLe_book a1 a2 a3 s0 = some a → zMet yX2_book cX2_book 5 none 1 23 [(0, [])] [zr 0 5 0, zi a1, zi a2, zi a3] [s0] ((fun a => ((.inl ((fun _ => (none : Option zV)) a), (fun q => [q]) a) : zO)) a) := fun a ha => zMet_of (L0 := [some (zr 0 5 0), some (zi a1), some (zi a2), some (zi a3), none]) (φ := Option.bind (fLe_book a1 a2 a3 s0) (fun a => some ((fun a => ((.inl ((fun _ => (none : Option zV)) a), (fun q => [q]) a) : zO)) a))) (by decide) (fun _ => Nat.le_of_ble_eq_true rfl) (zl0 1 rfl) (fun X F => bfLe_book F a1 a2 a3 s0 (fun _ => rfl)) (by rw [ha]; rfl)

theorem dX5_wearPart_0 : decode cX5_wearPart 0 = .ok (.iload_n 1, 1) := by decide +kernel
theorem dX5_wearPart_1 : decode cX5_wearPart 1 = .ok (.ifCond .lt 28, 3) := by decide +kernel
theorem dX5_wearPart_4 : decode cX5_wearPart 4 = .ok (.iload_n 1, 1) := by decide +kernel
theorem dX5_wearPart_5 : decode cX5_wearPart 5 = .ok (.iconst 3, 1) := by decide +kernel
theorem dX5_wearPart_6 : decode cX5_wearPart 6 = .ok (.if_icmp .ge 23, 3) := by decide +kernel
theorem dX5_wearPart_9 : decode cX5_wearPart 9 = .ok (.aload_n 0, 1) := by decide +kernel
theorem dX5_wearPart_10 : decode cX5_wearPart 10 = .ok (.getfield 24, 3) := by decide +kernel
theorem dX5_wearPart_13 : decode cX5_wearPart 13 = .ok (.iload_n 1, 1) := by decide +kernel
theorem dX5_wearPart_14 : decode cX5_wearPart 14 = .ok (.sipush 9999, 3) := by decide +kernel
theorem dX5_wearPart_17 : decode cX5_wearPart 17 = .ok (.aload_n 0, 1) := by decide +kernel
theorem dX5_wearPart_18 : decode cX5_wearPart 18 = .ok (.getfield 24, 3) := by decide +kernel
theorem dX5_wearPart_21 : decode cX5_wearPart 21 = .ok (.iload_n 1, 1) := by decide +kernel
theorem dX5_wearPart_22 : decode cX5_wearPart 22 = .ok (.iaload, 1) := by decide +kernel
theorem dX5_wearPart_23 : decode cX5_wearPart 23 = .ok (.iload_n 2, 1) := by decide +kernel
theorem dX5_wearPart_24 : decode cX5_wearPart 24 = .ok (.iadd, 1) := by decide +kernel
theorem dX5_wearPart_25 : decode cX5_wearPart 25 = .ok (.invokestatic 126, 3) := by decide +kernel
theorem dX5_wearPart_28 : decode cX5_wearPart 28 = .ok (.iastore, 1) := by decide +kernel
theorem dX5_wearPart_29 : decode cX5_wearPart 29 = .ok (.return_, 1) := by decide +kernel
theorem wmRX5_126 : Cond.methodLink RX5 126 Lib.Math.min.name ∈ zTg := zm_f 688 (by decide +kernel) rfl
def fTu_wearPart (i : Nat) (a1 : Int32) (a2 : Int32) (s0 : zM) : Option (zM) :=
  if a1 < 0 then
  some s0
else
  if (3 : Int32) ≤ a1 then
    some s0
  else
    zix a1 3 fun j1 =>
      zix a1 3 fun j2 =>
      zlet (zu s0 8 i j2 (zmin (9999 : Int32) ((s0 8 i j1) + a2))) fun s0_3 =>
      some s0_3
set_option maxHeartbeats 4000000 in
set_option maxRecDepth 20000 in
theorem bfTu_wearPart {X : zX} (F : zFr X cX5_wearPart 3 RX5 none) (i : Nat) (a1 : Int32) (a2 : Int32) (hi : i < 8) (s0 : zM) {κ : zM → Option zO} (hκ : ∀ a, κ a = some ((fun a => ((.inl ((fun _ => (none : Option zV)) a), (fun q => [q]) a) : zO)) a)) : zZ X [(0, [])] 1 23 3 0 [some (zr 0 7 i), some (zi a1), some (zi a2)] [] [s0] (Option.bind (fTu_wearPart i a1 a2 s0) κ) := by
  unfold fTu_wearPart
  refine zz_iload_n F (i := 1) dX5_wearPart_0 rfl rfl ?_
  refine zz_if_lt F (tgt := 29) dX5_wearPart_1 (by decide) (fun h => zz_t h ?_) (fun h => zz_f h ?_)
  · exact zz_return F dX5_wearPart_29 rfl (hκ _)
  · refine zz_iload_n F (i := 1) dX5_wearPart_4 rfl rfl ?_
    refine zz_iconst F (v := (3 : Int32)) dX5_wearPart_5 (by decide) ?_
    refine zz_icmp_ge F (tgt := 29) dX5_wearPart_6 (by decide) (fun h => zz_t h ?_) (fun h => zz_f h ?_)
    · exact zz_return F dX5_wearPart_29 rfl (hκ _)
    · refine zz_aload_n F (i := 0) dX5_wearPart_9 rfl rfl ?_
      refine zz_getr F dX5_wearPart_10 wfRX5_24 zCl_5 rfl (⟨zlb rfl, zlb rfl, hi⟩) rfl (by decide) rfl (r' := 0) (by decide) ?_
      refine zz_iload_n F (i := 1) dX5_wearPart_13 rfl rfl ?_
      refine zz_sipush F (v := (9999 : Int32)) dX5_wearPart_14 (by decide) ?_
      refine zz_aload_n F (i := 0) dX5_wearPart_17 rfl rfl ?_
      refine zz_getr F dX5_wearPart_18 wfRX5_24 zCl_5 rfl (⟨zlb rfl, zlb rfl, hi⟩) rfl (by decide) rfl (r' := 0) (by decide) ?_
      refine zz_iload_n F (i := 1) dX5_wearPart_21 rfl rfl ?_
      refine zz_ix fun j1 hj1 hinj1 hej1 => zz_ial F dX5_wearPart_22 rfl (⟨zlb rfl, zlb rfl, hi⟩) rfl hinj1 hej1 ?_
      refine zz_iload_n F (i := 2) dX5_wearPart_23 rfl rfl ?_
      refine zz_iadd F dX5_wearPart_24 ?_
      refine zz_min F dX5_wearPart_25 wmRX5_126 wMath_min (Nat.le_of_ble_eq_true rfl) (Nat.le_of_ble_eq_true rfl) ?_
      refine zz_ix fun j2 hj2 hinj2 hej2 => zz_ias F (Ms' := [(zu s0 8 i j2 (zmin (9999 : Int32) ((s0 8 i j1) + a2)))]) dX5_wearPart_28 rfl (⟨zlb rfl, zlb rfl, hi⟩) rfl hinj2 hej2 rfl ?_
      refine zz_letm (Mf := fun s0_3 => [s0_3]) fun s0_3 => ?_
      exact zz_return F dX5_wearPart_29 rfl (hκ _)
theorem zfTu_wearPart (i : Nat) (a1 : Int32) (a2 : Int32) (hi : i < 8) (s0 : zM) : ∀ a, fTu_wearPart i a1 a2 s0 = some a → zMet yX5_wearPart cX5_wearPart 3 none 1 23 [(0, [])] [zr 0 7 i, zi a1, zi a2] [s0] ((fun a => ((.inl ((fun _ => (none : Option zV)) a), (fun q => [q]) a) : zO)) a) := fun a ha => zMet_of (L0 := [some (zr 0 7 i), some (zi a1), some (zi a2)]) (φ := Option.bind (fTu_wearPart i a1 a2 s0) (fun a => some ((fun a => ((.inl ((fun _ => (none : Option zV)) a), (fun q => [q]) a) : zO)) a))) (by decide) (fun _ => Nat.le_of_ble_eq_true rfl) (zl0 0 rfl) (fun X F => bfTu_wearPart F i a1 a2 hi s0 (fun _ => rfl)) (by rw [ha]; rfl)

theorem dX1_goesOn_0 : decode cX1_goesOn 0 = .ok (.aload_n 0, 1) := by decide +kernel
theorem dX1_goesOn_1 : decode cX1_goesOn 1 = .ok (.getfield 21, 3) := by decide +kernel
theorem dX1_goesOn_4 : decode cX1_goesOn 4 = .ok (.iconst 2, 1) := by decide +kernel
theorem dX1_goesOn_5 : decode cX1_goesOn 5 = .ok (.if_icmp .ge 5, 3) := by decide +kernel
theorem dX1_goesOn_8 : decode cX1_goesOn 8 = .ok (.iconst 0, 1) := by decide +kernel
theorem dX1_goesOn_9 : decode cX1_goesOn 9 = .ok (.ireturn, 1) := by decide +kernel
theorem dX1_goesOn_10 : decode cX1_goesOn 10 = .ok (.aload_n 0, 1) := by decide +kernel
theorem dX1_goesOn_11 : decode cX1_goesOn 11 = .ok (.getfield 9, 3) := by decide +kernel
theorem dX1_goesOn_14 : decode cX1_goesOn 14 = .ok (.aload_n 0, 1) := by decide +kernel
theorem dX1_goesOn_15 : decode cX1_goesOn 15 = .ok (.getfield 21, 3) := by decide +kernel
theorem dX1_goesOn_18 : decode cX1_goesOn 18 = .ok (.iconst 1, 1) := by decide +kernel
theorem dX1_goesOn_19 : decode cX1_goesOn 19 = .ok (.isub, 1) := by decide +kernel
theorem dX1_goesOn_20 : decode cX1_goesOn 20 = .ok (.iaload, 1) := by decide +kernel
theorem dX1_goesOn_21 : decode cX1_goesOn 21 = .ok (.istore_n 2, 1) := by decide +kernel
theorem dX1_goesOn_22 : decode cX1_goesOn 22 = .ok (.iload_n 2, 1) := by decide +kernel
theorem dX1_goesOn_23 : decode cX1_goesOn 23 = .ok (.aload_n 0, 1) := by decide +kernel
theorem dX1_goesOn_24 : decode cX1_goesOn 24 = .ok (.getfield 9, 3) := by decide +kernel
theorem dX1_goesOn_27 : decode cX1_goesOn 27 = .ok (.aload_n 0, 1) := by decide +kernel
theorem dX1_goesOn_28 : decode cX1_goesOn 28 = .ok (.getfield 21, 3) := by decide +kernel
theorem dX1_goesOn_31 : decode cX1_goesOn 31 = .ok (.iconst 2, 1) := by decide +kernel
theorem dX1_goesOn_32 : decode cX1_goesOn 32 = .ok (.isub, 1) := by decide +kernel
theorem dX1_goesOn_33 : decode cX1_goesOn 33 = .ok (.iaload, 1) := by decide +kernel
theorem dX1_goesOn_34 : decode cX1_goesOn 34 = .ok (.if_icmp .le 16, 3) := by decide +kernel
theorem dX1_goesOn_37 : decode cX1_goesOn 37 = .ok (.iload_n 1, 1) := by decide +kernel
theorem dX1_goesOn_38 : decode cX1_goesOn 38 = .ok (.iload_n 2, 1) := by decide +kernel
theorem dX1_goesOn_39 : decode cX1_goesOn 39 = .ok (.if_icmp .le 7, 3) := by decide +kernel
theorem dX1_goesOn_42 : decode cX1_goesOn 42 = .ok (.iconst 1, 1) := by decide +kernel
theorem dX1_goesOn_43 : decode cX1_goesOn 43 = .ok (.goto 17, 3) := by decide +kernel
theorem dX1_goesOn_46 : decode cX1_goesOn 46 = .ok (.iconst 0, 1) := by decide +kernel
theorem dX1_goesOn_47 : decode cX1_goesOn 47 = .ok (.goto 13, 3) := by decide +kernel
theorem dX1_goesOn_50 : decode cX1_goesOn 50 = .ok (.iload_n 1, 1) := by decide +kernel
theorem dX1_goesOn_51 : decode cX1_goesOn 51 = .ok (.iload_n 2, 1) := by decide +kernel
theorem dX1_goesOn_52 : decode cX1_goesOn 52 = .ok (.if_icmp .ge 7, 3) := by decide +kernel
theorem dX1_goesOn_55 : decode cX1_goesOn 55 = .ok (.iconst 1, 1) := by decide +kernel
theorem dX1_goesOn_56 : decode cX1_goesOn 56 = .ok (.goto 4, 3) := by decide +kernel
theorem dX1_goesOn_59 : decode cX1_goesOn 59 = .ok (.iconst 0, 1) := by decide +kernel
theorem dX1_goesOn_60 : decode cX1_goesOn 60 = .ok (.ireturn, 1) := by decide +kernel
theorem wfRX1_21 : zFl RX1 21 1 1 := ⟨_, rfl, by decide, zm_f 147 (by decide +kernel) rfl⟩
theorem wfRX1_9 : zFl RX1 9 1 0 := ⟨_, rfl, by decide, zm_f 145 (by decide +kernel) rfl⟩
def fEx_goesOn (i : Nat) (a1 : Int32) (s0 : zM) : Option (Int32) :=
  if (2 : Int32) ≤ (s0 10 i 1) then
  zix ((s0 10 i 1) - (1 : Int32)) 30 fun j1 =>
    zlet ((s0 11 i j1)) fun v2 =>
    zix ((s0 10 i 1) - (2 : Int32)) 30 fun j3 =>
    if v2 ≤ (s0 11 i j3) then
    if v2 ≤ a1 then
      some (0 : Int32)
    else
      some (1 : Int32)
  else
    if a1 ≤ v2 then
      some (0 : Int32)
    else
      some (1 : Int32)
else
  some (0 : Int32)
set_option maxHeartbeats 4000000 in
set_option maxRecDepth 20000 in
theorem bfEx_goesOn {X : zX} (F : zFr X cX1_goesOn 3 RX1 (some .boolean)) (i : Nat) (a1 : Int32) (hi : i < 8) (s0 : zM) {κ : Int32 → Option zO} (hκ : ∀ a, κ a = some ((fun a => ((.inl ((fun q => some (zi q)) a), (fun _ => [s0]) a) : zO)) a)) : zZ X [(0, [])] 0 0 3 0 [some (zr 0 10 i), some (zi a1), none] [] [s0] (Option.bind (fEx_goesOn i a1 s0) κ) := by
  unfold fEx_goesOn
  refine zz_aload_n F (i := 0) dX1_goesOn_0 rfl rfl ?_
  refine zz_getf F dX1_goesOn_1 wfRX1_21 zCl_1 rfl (⟨zlb rfl, zlb rfl, hi⟩) rfl (by decide) rfl rfl ?_
  refine zz_iconst F (v := (2 : Int32)) dX1_goesOn_4 (by decide) ?_
  refine zz_icmp_ge F (tgt := 10) dX1_goesOn_5 (by decide) (fun h => zz_t h ?_) (fun h => zz_f h ?_)
  · refine zz_aload_n F (i := 0) dX1_goesOn_10 rfl rfl ?_
    refine zz_getr F dX1_goesOn_11 wfRX1_9 zCl_1 rfl (⟨zlb rfl, zlb rfl, hi⟩) rfl (by decide) rfl (r' := 0) (by decide) ?_
    refine zz_aload_n F (i := 0) dX1_goesOn_14 rfl rfl ?_
    refine zz_getf F dX1_goesOn_15 wfRX1_21 zCl_1 rfl (⟨zlb rfl, zlb rfl, hi⟩) rfl (by decide) rfl rfl ?_
    refine zz_iconst F (v := (1 : Int32)) dX1_goesOn_18 (by decide) ?_
    refine zz_isub F dX1_goesOn_19 ?_
    refine zz_ix fun j1 hj1 hinj1 hej1 => zz_ial F dX1_goesOn_20 rfl (⟨zlb rfl, zlb rfl, hi⟩) rfl hinj1 hej1 ?_
    refine zz_istore_n F (i := 2) (L' := [some (zr 0 10 i), some (zi a1), some (zi (s0 11 i j1))]) dX1_goesOn_21 rfl (by decide) rfl rfl ?_
    refine zz_letl (Lf := fun v2 => [some (zr 0 10 i), some (zi a1), some (zi v2)]) fun v2 => ?_
    refine zz_iload_n F (i := 2) dX1_goesOn_22 rfl rfl ?_
    refine zz_aload_n F (i := 0) dX1_goesOn_23 rfl rfl ?_
    refine zz_getr F dX1_goesOn_24 wfRX1_9 zCl_1 rfl (⟨zlb rfl, zlb rfl, hi⟩) rfl (by decide) rfl (r' := 0) (by decide) ?_
    refine zz_aload_n F (i := 0) dX1_goesOn_27 rfl rfl ?_
    refine zz_getf F dX1_goesOn_28 wfRX1_21 zCl_1 rfl (⟨zlb rfl, zlb rfl, hi⟩) rfl (by decide) rfl rfl ?_
    refine zz_iconst F (v := (2 : Int32)) dX1_goesOn_31 (by decide) ?_
    refine zz_isub F dX1_goesOn_32 ?_
    refine zz_ix fun j3 hj3 hinj3 hej3 => zz_ial F dX1_goesOn_33 rfl (⟨zlb rfl, zlb rfl, hi⟩) rfl hinj3 hej3 ?_
    refine zz_icmp_le F (tgt := 50) dX1_goesOn_34 (by decide) (fun h => zz_t h ?_) (fun h => zz_f h ?_)
    · refine zz_iload_n F (i := 1) dX1_goesOn_50 rfl rfl ?_
      refine zz_iload_n F (i := 2) dX1_goesOn_51 rfl rfl ?_
      refine zz_icmp_ge F (tgt := 59) dX1_goesOn_52 (by decide) (fun h => zz_t h ?_) (fun h => zz_f h ?_)
      · refine zz_iconst F (v := (0 : Int32)) dX1_goesOn_59 (by decide) ?_
        exact zz_zreturn F dX1_goesOn_60 rfl rfl (hκ _)
      · refine zz_iconst F (v := (1 : Int32)) dX1_goesOn_55 (by decide) ?_
        refine zz_goto F (tgt := 60) dX1_goesOn_56 (by decide) ?_
        exact zz_zreturn F dX1_goesOn_60 rfl rfl (hκ _)
    · refine zz_iload_n F (i := 1) dX1_goesOn_37 rfl rfl ?_
      refine zz_iload_n F (i := 2) dX1_goesOn_38 rfl rfl ?_
      refine zz_icmp_le F (tgt := 46) dX1_goesOn_39 (by decide) (fun h => zz_t h ?_) (fun h => zz_f h ?_)
      · refine zz_iconst F (v := (0 : Int32)) dX1_goesOn_46 (by decide) ?_
        refine zz_goto F (tgt := 60) dX1_goesOn_47 (by decide) ?_
        exact zz_zreturn F dX1_goesOn_60 rfl rfl (hκ _)
      · refine zz_iconst F (v := (1 : Int32)) dX1_goesOn_42 (by decide) ?_
        refine zz_goto F (tgt := 60) dX1_goesOn_43 (by decide) ?_
        exact zz_zreturn F dX1_goesOn_60 rfl rfl (hκ _)
  · refine zz_iconst F (v := (0 : Int32)) dX1_goesOn_8 (by decide) ?_
    exact zz_zreturn F dX1_goesOn_9 rfl rfl (hκ _)
theorem zfEx_goesOn (i : Nat) (a1 : Int32) (hi : i < 8) (s0 : zM) : ∀ a, fEx_goesOn i a1 s0 = some a → zMet yX1_goesOn cX1_goesOn 3 (some .boolean) 0 0 [(0, [])] [zr 0 10 i, zi a1] [s0] ((fun a => ((.inl ((fun q => some (zi q)) a), (fun _ => [s0]) a) : zO)) a) := fun a ha => zMet_of (L0 := [some (zr 0 10 i), some (zi a1), none]) (φ := Option.bind (fEx_goesOn i a1 s0) (fun a => some ((fun a => ((.inl ((fun q => some (zi q)) a), (fun _ => [s0]) a) : zO)) a))) (by decide) (fun _ => Nat.le_of_ble_eq_true rfl) (zl0 1 rfl) (fun X F => bfEx_goesOn F i a1 hi s0 (fun _ => rfl)) (by rw [ha]; rfl)

theorem dX1_takeOut_0 : decode cX1_takeOut 0 = .ok (.iload_n 1, 1) := by decide +kernel
theorem dX1_takeOut_1 : decode cX1_takeOut 1 = .ok (.istore_n 3, 1) := by decide +kernel
theorem dX1_takeOut_2 : decode cX1_takeOut 2 = .ok (.iload_n 3, 1) := by decide +kernel
theorem dX1_takeOut_3 : decode cX1_takeOut 3 = .ok (.iload_n 2, 1) := by decide +kernel
theorem dX1_takeOut_4 : decode cX1_takeOut 4 = .ok (.iadd, 1) := by decide +kernel
theorem dX1_takeOut_5 : decode cX1_takeOut 5 = .ok (.aload_n 0, 1) := by decide +kernel
theorem dX1_takeOut_6 : decode cX1_takeOut 6 = .ok (.getfield 21, 3) := by decide +kernel
theorem dX1_takeOut_9 : decode cX1_takeOut 9 = .ok (.if_icmp .ge 23, 3) := by decide +kernel
theorem dX1_takeOut_12 : decode cX1_takeOut 12 = .ok (.aload_n 0, 1) := by decide +kernel
theorem dX1_takeOut_13 : decode cX1_takeOut 13 = .ok (.getfield 9, 3) := by decide +kernel
theorem dX1_takeOut_16 : decode cX1_takeOut 16 = .ok (.iload_n 3, 1) := by decide +kernel
theorem dX1_takeOut_17 : decode cX1_takeOut 17 = .ok (.aload_n 0, 1) := by decide +kernel
theorem dX1_takeOut_18 : decode cX1_takeOut 18 = .ok (.getfield 9, 3) := by decide +kernel
theorem dX1_takeOut_21 : decode cX1_takeOut 21 = .ok (.iload_n 3, 1) := by decide +kernel
theorem dX1_takeOut_22 : decode cX1_takeOut 22 = .ok (.iload_n 2, 1) := by decide +kernel
theorem dX1_takeOut_23 : decode cX1_takeOut 23 = .ok (.iadd, 1) := by decide +kernel
theorem dX1_takeOut_24 : decode cX1_takeOut 24 = .ok (.iaload, 1) := by decide +kernel
theorem dX1_takeOut_25 : decode cX1_takeOut 25 = .ok (.iastore, 1) := by decide +kernel
theorem dX1_takeOut_26 : decode cX1_takeOut 26 = .ok (.iinc 3 1, 3) := by decide +kernel
theorem dX1_takeOut_29 : decode cX1_takeOut 29 = .ok (.goto (-27), 3) := by decide +kernel
theorem dX1_takeOut_32 : decode cX1_takeOut 32 = .ok (.aload_n 0, 1) := by decide +kernel
theorem dX1_takeOut_33 : decode cX1_takeOut 33 = .ok (.dup, 1) := by decide +kernel
theorem dX1_takeOut_34 : decode cX1_takeOut 34 = .ok (.getfield 21, 3) := by decide +kernel
theorem dX1_takeOut_37 : decode cX1_takeOut 37 = .ok (.iload_n 2, 1) := by decide +kernel
theorem dX1_takeOut_38 : decode cX1_takeOut 38 = .ok (.isub, 1) := by decide +kernel
theorem dX1_takeOut_39 : decode cX1_takeOut 39 = .ok (.putfield 21, 3) := by decide +kernel
theorem dX1_takeOut_42 : decode cX1_takeOut 42 = .ok (.return_, 1) := by decide +kernel
theorem wpRX1_21 : zFw RX1 21 1 1 .int := ⟨_, rfl, by decide, zm_f 147 (by decide +kernel) rfl, rfl, by decide +kernel⟩
def fEx_takeOut_l2 (i : Nat) (a2 : Int32) (q1 : Int32 × zM) : Option ((Int32 × zM) ⊕ ((zM))) :=
  if (q1.2 10 i 1) ≤ (q1.1 + a2) then
  some (.inr q1.2)
else
  zix (q1.1 + a2) 30 fun j3 =>
    zix q1.1 30 fun j4 =>
    zlet (zu q1.2 11 i j4 (q1.2 11 i j3)) fun s0_5 =>
    zlet (q1.1 + 1) fun v6 =>
    some (.inl (v6, s0_5))
def fEx_takeOut (i : Nat) (a1 : Int32) (a2 : Int32) (s0 : zM) : Option (zM) :=
  Option.bind (ziter (fEx_takeOut_l2 i a2) 1000 (a1, s0)) fun q2 =>
  zlet (zu q2 10 i 1 ((q2 10 i 1) - a2)) fun s0_7 =>
  some s0_7
set_option maxHeartbeats 4000000 in
set_option maxRecDepth 20000 in
theorem bfEx_takeOut_l2 {X : zX} (F : zFr X cX1_takeOut 4 RX1 none) (i : Nat) (a2 : Int32) (hi : i < 8) {ψ : (Int32 × zM) ⊕ ((zM)) → Option zO} (h1 : ∀ q1 : Int32 × zM, zZ X [(0, [])] 0 0 4 2 [some (zr 0 10 i), none, some (zi a2), some (zi q1.1)] [] [q1.2] (ψ (.inl q1))) (h2 : ∀ q2 : zM, zZ X [(0, [])] 0 0 4 32 [some (zr 0 10 i), none, some (zi a2), none] [] [q2] (ψ (.inr q2))) (q1 : Int32 × zM) : zZ X [(0, [])] 0 0 4 2 [some (zr 0 10 i), none, some (zi a2), some (zi q1.1)] [] [q1.2] (Option.bind (fEx_takeOut_l2 i a2 q1) ψ) := by
  unfold fEx_takeOut_l2
  refine zz_iload_n F (i := 3) dX1_takeOut_2 rfl rfl ?_
  refine zz_iload_n F (i := 2) dX1_takeOut_3 rfl rfl ?_
  refine zz_iadd F dX1_takeOut_4 ?_
  refine zz_aload_n F (i := 0) dX1_takeOut_5 rfl rfl ?_
  refine zz_getf F dX1_takeOut_6 wfRX1_21 zCl_1 rfl (⟨zlb rfl, zlb rfl, hi⟩) rfl (by decide) rfl rfl ?_
  refine zz_icmp_ge F (tgt := 32) dX1_takeOut_9 (by decide) (fun h => zz_t h ?_) (fun h => zz_f h ?_)
  · exact zz_sub (zs_k (zs_k (zs_k (zs_n zs_z)))) (h2 q1.2)
  · refine zz_aload_n F (i := 0) dX1_takeOut_12 rfl rfl ?_
    refine zz_getr F dX1_takeOut_13 wfRX1_9 zCl_1 rfl (⟨zlb rfl, zlb rfl, hi⟩) rfl (by decide) rfl (r' := 0) (by decide) ?_
    refine zz_iload_n F (i := 3) dX1_takeOut_16 rfl rfl ?_
    refine zz_aload_n F (i := 0) dX1_takeOut_17 rfl rfl ?_
    refine zz_getr F dX1_takeOut_18 wfRX1_9 zCl_1 rfl (⟨zlb rfl, zlb rfl, hi⟩) rfl (by decide) rfl (r' := 0) (by decide) ?_
    refine zz_iload_n F (i := 3) dX1_takeOut_21 rfl rfl ?_
    refine zz_iload_n F (i := 2) dX1_takeOut_22 rfl rfl ?_
    refine zz_iadd F dX1_takeOut_23 ?_
    refine zz_ix fun j3 hj3 hinj3 hej3 => zz_ial F dX1_takeOut_24 rfl (⟨zlb rfl, zlb rfl, hi⟩) rfl hinj3 hej3 ?_
    refine zz_ix fun j4 hj4 hinj4 hej4 => zz_ias F (Ms' := [(zu q1.2 11 i j4 (q1.2 11 i j3))]) dX1_takeOut_25 rfl (⟨zlb rfl, zlb rfl, hi⟩) rfl hinj4 hej4 rfl ?_
    refine zz_letm (Mf := fun s0_5 => [s0_5]) fun s0_5 => ?_
    refine zz_iinc F (i := 3) (v := q1.1 + 1) (L' := [some (zr 0 10 i), none, some (zi a2), some (zi (q1.1 + 1))]) dX1_takeOut_26 rfl (by first | rfl | decide) (by decide) rfl rfl ?_
    refine zz_letl (Lf := fun v6 => [some (zr 0 10 i), none, some (zi a2), some (zi v6)]) fun v6 => ?_
    refine zz_goto F (tgt := 2) dX1_takeOut_29 (by decide) ?_
    exact zz_sub (zs_k (zs_k (zs_k (zs_k zs_z)))) (h1 (v6, s0_5))
set_option maxHeartbeats 4000000 in
set_option maxRecDepth 20000 in
theorem bfEx_takeOut {X : zX} (F : zFr X cX1_takeOut 4 RX1 none) (i : Nat) (a1 : Int32) (a2 : Int32) (hi : i < 8) (s0 : zM) {κ : zM → Option zO} (hκ : ∀ a, κ a = some ((fun a => ((.inl ((fun _ => (none : Option zV)) a), (fun q => [q]) a) : zO)) a)) : zZ X [(0, [])] 0 0 4 0 [some (zr 0 10 i), some (zi a1), some (zi a2), none] [] [s0] (Option.bind (fEx_takeOut i a1 a2 s0) κ) := by
  unfold fEx_takeOut
  refine zz_iload_n F (i := 1) dX1_takeOut_0 rfl rfl ?_
  refine zz_istore_n F (i := 3) (L' := [some (zr 0 10 i), some (zi a1), some (zi a2), some (zi a1)]) dX1_takeOut_1 rfl (by decide) rfl rfl ?_
  refine zz_sub (zs_k (zs_n (zs_k (zs_k zs_z)))) ?_
  refine zz_bind ?_
  refine zz_iter (Lf := fun q1 => [some (zr 0 10 i), none, some (zi a2), some (zi q1.1)]) (Mf := fun q1 => [q1.2]) (fun q1 _ e8 e9 => bfEx_takeOut_l2 F i a2 hi e8 (fun q2 => ?_)  q1) 1000 (a1, s0)
  rw [e9]
  refine zz_aload_n F (i := 0) dX1_takeOut_32 rfl rfl ?_
  refine zz_dup F dX1_takeOut_33 rfl ?_
  refine zz_getf F dX1_takeOut_34 wfRX1_21 zCl_1 rfl (⟨zlb rfl, zlb rfl, hi⟩) rfl (by decide) rfl rfl ?_
  refine zz_iload_n F (i := 2) dX1_takeOut_37 rfl rfl ?_
  refine zz_isub F dX1_takeOut_38 ?_
  refine zz_put F (Ms' := [(zu q2 10 i 1 ((q2 10 i 1) - a2))]) dX1_takeOut_39 wpRX1_21 zCl_1 rfl (⟨zlb rfl, zlb rfl, hi⟩) rfl (by decide) rfl rfl rfl ?_
  refine zz_letm (Mf := fun s0_7 => [s0_7]) fun s0_7 => ?_
  exact zz_return F dX1_takeOut_42 rfl (hκ _)
theorem zfEx_takeOut (i : Nat) (a1 : Int32) (a2 : Int32) (hi : i < 8) (s0 : zM) : ∀ a, fEx_takeOut i a1 a2 s0 = some a → zMet yX1_takeOut cX1_takeOut 4 none 0 0 [(0, [])] [zr 0 10 i, zi a1, zi a2] [s0] ((fun a => ((.inl ((fun _ => (none : Option zV)) a), (fun q => [q]) a) : zO)) a) := fun a ha => zMet_of (L0 := [some (zr 0 10 i), some (zi a1), some (zi a2), none]) (φ := Option.bind (fEx_takeOut i a1 a2 s0) (fun a => some ((fun a => ((.inl ((fun _ => (none : Option zV)) a), (fun q => [q]) a) : zO)) a))) (by decide) (fun _ => Nat.le_of_ble_eq_true rfl) (zl0 1 rfl) (fun X F => bfEx_takeOut F i a1 a2 hi s0 (fun _ => rfl)) (by rw [ha]; rfl)

theorem dX1_hasCycle_0 : decode cX1_hasCycle 0 = .ok (.aload_n 0, 1) := by decide +kernel
theorem dX1_hasCycle_1 : decode cX1_hasCycle 1 = .ok (.getfield 21, 3) := by decide +kernel
theorem dX1_hasCycle_4 : decode cX1_hasCycle 4 = .ok (.iconst 3, 1) := by decide +kernel
theorem dX1_hasCycle_5 : decode cX1_hasCycle 5 = .ok (.if_icmp .lt 62, 3) := by decide +kernel
theorem dX1_hasCycle_8 : decode cX1_hasCycle 8 = .ok (.aload_n 0, 1) := by decide +kernel
theorem dX1_hasCycle_9 : decode cX1_hasCycle 9 = .ok (.getfield 9, 3) := by decide +kernel
theorem dX1_hasCycle_12 : decode cX1_hasCycle 12 = .ok (.aload_n 0, 1) := by decide +kernel
theorem dX1_hasCycle_13 : decode cX1_hasCycle 13 = .ok (.getfield 21, 3) := by decide +kernel
theorem dX1_hasCycle_16 : decode cX1_hasCycle 16 = .ok (.iconst 1, 1) := by decide +kernel
theorem dX1_hasCycle_17 : decode cX1_hasCycle 17 = .ok (.isub, 1) := by decide +kernel
theorem dX1_hasCycle_18 : decode cX1_hasCycle 18 = .ok (.iaload, 1) := by decide +kernel
theorem dX1_hasCycle_19 : decode cX1_hasCycle 19 = .ok (.aload_n 0, 1) := by decide +kernel
theorem dX1_hasCycle_20 : decode cX1_hasCycle 20 = .ok (.getfield 9, 3) := by decide +kernel
theorem dX1_hasCycle_23 : decode cX1_hasCycle 23 = .ok (.aload_n 0, 1) := by decide +kernel
theorem dX1_hasCycle_24 : decode cX1_hasCycle 24 = .ok (.getfield 21, 3) := by decide +kernel
theorem dX1_hasCycle_27 : decode cX1_hasCycle 27 = .ok (.iconst 2, 1) := by decide +kernel
theorem dX1_hasCycle_28 : decode cX1_hasCycle 28 = .ok (.isub, 1) := by decide +kernel
theorem dX1_hasCycle_29 : decode cX1_hasCycle 29 = .ok (.iaload, 1) := by decide +kernel
theorem dX1_hasCycle_30 : decode cX1_hasCycle 30 = .ok (.isub, 1) := by decide +kernel
theorem dX1_hasCycle_31 : decode cX1_hasCycle 31 = .ok (.invokestatic 43, 3) := by decide +kernel
theorem dX1_hasCycle_34 : decode cX1_hasCycle 34 = .ok (.aload_n 0, 1) := by decide +kernel
theorem dX1_hasCycle_35 : decode cX1_hasCycle 35 = .ok (.getfield 9, 3) := by decide +kernel
theorem dX1_hasCycle_38 : decode cX1_hasCycle 38 = .ok (.aload_n 0, 1) := by decide +kernel
theorem dX1_hasCycle_39 : decode cX1_hasCycle 39 = .ok (.getfield 21, 3) := by decide +kernel
theorem dX1_hasCycle_42 : decode cX1_hasCycle 42 = .ok (.iconst 2, 1) := by decide +kernel
theorem dX1_hasCycle_43 : decode cX1_hasCycle 43 = .ok (.isub, 1) := by decide +kernel
theorem dX1_hasCycle_44 : decode cX1_hasCycle 44 = .ok (.iaload, 1) := by decide +kernel
theorem dX1_hasCycle_45 : decode cX1_hasCycle 45 = .ok (.aload_n 0, 1) := by decide +kernel
theorem dX1_hasCycle_46 : decode cX1_hasCycle 46 = .ok (.getfield 9, 3) := by decide +kernel
theorem dX1_hasCycle_49 : decode cX1_hasCycle 49 = .ok (.aload_n 0, 1) := by decide +kernel
theorem dX1_hasCycle_50 : decode cX1_hasCycle 50 = .ok (.getfield 21, 3) := by decide +kernel
theorem dX1_hasCycle_53 : decode cX1_hasCycle 53 = .ok (.iconst 3, 1) := by decide +kernel
theorem dX1_hasCycle_54 : decode cX1_hasCycle 54 = .ok (.isub, 1) := by decide +kernel
theorem dX1_hasCycle_55 : decode cX1_hasCycle 55 = .ok (.iaload, 1) := by decide +kernel
theorem dX1_hasCycle_56 : decode cX1_hasCycle 56 = .ok (.isub, 1) := by decide +kernel
theorem dX1_hasCycle_57 : decode cX1_hasCycle 57 = .ok (.invokestatic 43, 3) := by decide +kernel
theorem dX1_hasCycle_60 : decode cX1_hasCycle 60 = .ok (.if_icmp .lt 7, 3) := by decide +kernel
theorem dX1_hasCycle_63 : decode cX1_hasCycle 63 = .ok (.iconst 1, 1) := by decide +kernel
theorem dX1_hasCycle_64 : decode cX1_hasCycle 64 = .ok (.goto 4, 3) := by decide +kernel
theorem dX1_hasCycle_67 : decode cX1_hasCycle 67 = .ok (.iconst 0, 1) := by decide +kernel
theorem dX1_hasCycle_68 : decode cX1_hasCycle 68 = .ok (.ireturn, 1) := by decide +kernel
theorem wmRX1_43 : Cond.methodLink RX1 43 Lib.Math.abs.name ∈ zTg := zm_f 706 (by decide +kernel) rfl
def fEx_hasCycle (i : Nat) (s0 : zM) : Option (Int32) :=
  if (s0 10 i 1) < (3 : Int32) then
  some (0 : Int32)
else
  zix ((s0 10 i 1) - (1 : Int32)) 30 fun j1 =>
    zix ((s0 10 i 1) - (2 : Int32)) 30 fun j2 =>
    zix ((s0 10 i 1) - (2 : Int32)) 30 fun j3 =>
    zix ((s0 10 i 1) - (3 : Int32)) 30 fun j4 =>
    if (zabs ((s0 11 i j1) - (s0 11 i j2))) < (zabs ((s0 11 i j3) - (s0 11 i j4))) then
    some (0 : Int32)
  else
    some (1 : Int32)
set_option maxHeartbeats 4000000 in
set_option maxRecDepth 20000 in
theorem bfEx_hasCycle {X : zX} (F : zFr X cX1_hasCycle 1 RX1 (some .boolean)) (i : Nat) (hi : i < 8) (s0 : zM) {κ : Int32 → Option zO} (hκ : ∀ a, κ a = some ((fun a => ((.inl ((fun q => some (zi q)) a), (fun _ => [s0]) a) : zO)) a)) : zZ X [(0, [])] 1 23 1 0 [some (zr 0 10 i)] [] [s0] (Option.bind (fEx_hasCycle i s0) κ) := by
  unfold fEx_hasCycle
  refine zz_aload_n F (i := 0) dX1_hasCycle_0 rfl rfl ?_
  refine zz_getf F dX1_hasCycle_1 wfRX1_21 zCl_1 rfl (⟨zlb rfl, zlb rfl, hi⟩) rfl (by decide) rfl rfl ?_
  refine zz_iconst F (v := (3 : Int32)) dX1_hasCycle_4 (by decide) ?_
  refine zz_icmp_lt F (tgt := 67) dX1_hasCycle_5 (by decide) (fun h => zz_t h ?_) (fun h => zz_f h ?_)
  · refine zz_iconst F (v := (0 : Int32)) dX1_hasCycle_67 (by decide) ?_
    exact zz_zreturn F dX1_hasCycle_68 rfl rfl (hκ _)
  · refine zz_aload_n F (i := 0) dX1_hasCycle_8 rfl rfl ?_
    refine zz_getr F dX1_hasCycle_9 wfRX1_9 zCl_1 rfl (⟨zlb rfl, zlb rfl, hi⟩) rfl (by decide) rfl (r' := 0) (by decide) ?_
    refine zz_aload_n F (i := 0) dX1_hasCycle_12 rfl rfl ?_
    refine zz_getf F dX1_hasCycle_13 wfRX1_21 zCl_1 rfl (⟨zlb rfl, zlb rfl, hi⟩) rfl (by decide) rfl rfl ?_
    refine zz_iconst F (v := (1 : Int32)) dX1_hasCycle_16 (by decide) ?_
    refine zz_isub F dX1_hasCycle_17 ?_
    refine zz_ix fun j1 hj1 hinj1 hej1 => zz_ial F dX1_hasCycle_18 rfl (⟨zlb rfl, zlb rfl, hi⟩) rfl hinj1 hej1 ?_
    refine zz_aload_n F (i := 0) dX1_hasCycle_19 rfl rfl ?_
    refine zz_getr F dX1_hasCycle_20 wfRX1_9 zCl_1 rfl (⟨zlb rfl, zlb rfl, hi⟩) rfl (by decide) rfl (r' := 0) (by decide) ?_
    refine zz_aload_n F (i := 0) dX1_hasCycle_23 rfl rfl ?_
    refine zz_getf F dX1_hasCycle_24 wfRX1_21 zCl_1 rfl (⟨zlb rfl, zlb rfl, hi⟩) rfl (by decide) rfl rfl ?_
    refine zz_iconst F (v := (2 : Int32)) dX1_hasCycle_27 (by decide) ?_
    refine zz_isub F dX1_hasCycle_28 ?_
    refine zz_ix fun j2 hj2 hinj2 hej2 => zz_ial F dX1_hasCycle_29 rfl (⟨zlb rfl, zlb rfl, hi⟩) rfl hinj2 hej2 ?_
    refine zz_isub F dX1_hasCycle_30 ?_
    refine zz_abs F dX1_hasCycle_31 wmRX1_43 wMath_abs (Nat.le_of_ble_eq_true rfl) (Nat.le_of_ble_eq_true rfl) ?_
    refine zz_aload_n F (i := 0) dX1_hasCycle_34 rfl rfl ?_
    refine zz_getr F dX1_hasCycle_35 wfRX1_9 zCl_1 rfl (⟨zlb rfl, zlb rfl, hi⟩) rfl (by decide) rfl (r' := 0) (by decide) ?_
    refine zz_aload_n F (i := 0) dX1_hasCycle_38 rfl rfl ?_
    refine zz_getf F dX1_hasCycle_39 wfRX1_21 zCl_1 rfl (⟨zlb rfl, zlb rfl, hi⟩) rfl (by decide) rfl rfl ?_
    refine zz_iconst F (v := (2 : Int32)) dX1_hasCycle_42 (by decide) ?_
    refine zz_isub F dX1_hasCycle_43 ?_
    refine zz_ix fun j3 hj3 hinj3 hej3 => zz_ial F dX1_hasCycle_44 rfl (⟨zlb rfl, zlb rfl, hi⟩) rfl hinj3 hej3 ?_
    refine zz_aload_n F (i := 0) dX1_hasCycle_45 rfl rfl ?_
    refine zz_getr F dX1_hasCycle_46 wfRX1_9 zCl_1 rfl (⟨zlb rfl, zlb rfl, hi⟩) rfl (by decide) rfl (r' := 0) (by decide) ?_
    refine zz_aload_n F (i := 0) dX1_hasCycle_49 rfl rfl ?_
    refine zz_getf F dX1_hasCycle_50 wfRX1_21 zCl_1 rfl (⟨zlb rfl, zlb rfl, hi⟩) rfl (by decide) rfl rfl ?_
    refine zz_iconst F (v := (3 : Int32)) dX1_hasCycle_53 (by decide) ?_
    refine zz_isub F dX1_hasCycle_54 ?_
    refine zz_ix fun j4 hj4 hinj4 hej4 => zz_ial F dX1_hasCycle_55 rfl (⟨zlb rfl, zlb rfl, hi⟩) rfl hinj4 hej4 ?_
    refine zz_isub F dX1_hasCycle_56 ?_
    refine zz_abs F dX1_hasCycle_57 wmRX1_43 wMath_abs (Nat.le_of_ble_eq_true rfl) (Nat.le_of_ble_eq_true rfl) ?_
    refine zz_icmp_lt F (tgt := 67) dX1_hasCycle_60 (by decide) (fun h => zz_t h ?_) (fun h => zz_f h ?_)
    · refine zz_iconst F (v := (0 : Int32)) dX1_hasCycle_67 (by decide) ?_
      exact zz_zreturn F dX1_hasCycle_68 rfl rfl (hκ _)
    · refine zz_iconst F (v := (1 : Int32)) dX1_hasCycle_63 (by decide) ?_
      refine zz_goto F (tgt := 68) dX1_hasCycle_64 (by decide) ?_
      exact zz_zreturn F dX1_hasCycle_68 rfl rfl (hκ _)
theorem zfEx_hasCycle (i : Nat) (hi : i < 8) (s0 : zM) : ∀ a, fEx_hasCycle i s0 = some a → zMet yX1_hasCycle cX1_hasCycle 1 (some .boolean) 1 23 [(0, [])] [zr 0 10 i] [s0] ((fun a => ((.inl ((fun q => some (zi q)) a), (fun _ => [s0]) a) : zO)) a) := fun a ha => zMet_of (L0 := [some (zr 0 10 i)]) (φ := Option.bind (fEx_hasCycle i s0) (fun a => some ((fun a => ((.inl ((fun q => some (zi q)) a), (fun _ => [s0]) a) : zO)) a))) (by decide) (fun _ => Nat.le_of_ble_eq_true rfl) (zl0 0 rfl) (fun X F => bfEx_hasCycle F i hi s0 (fun _ => rfl)) (by rw [ha]; rfl)

theorem dX1_put_0 : decode cX1_put 0 = .ok (.aload_n 0, 1) := by decide +kernel
theorem dX1_put_1 : decode cX1_put 1 = .ok (.getfield 21, 3) := by decide +kernel
theorem dX1_put_4 : decode cX1_put 4 = .ok (.ifCond .le 20, 3) := by decide +kernel
theorem dX1_put_7 : decode cX1_put 7 = .ok (.aload_n 0, 1) := by decide +kernel
theorem dX1_put_8 : decode cX1_put 8 = .ok (.getfield 9, 3) := by decide +kernel
theorem dX1_put_11 : decode cX1_put 11 = .ok (.aload_n 0, 1) := by decide +kernel
theorem dX1_put_12 : decode cX1_put 12 = .ok (.getfield 21, 3) := by decide +kernel
theorem dX1_put_15 : decode cX1_put 15 = .ok (.iconst 1, 1) := by decide +kernel
theorem dX1_put_16 : decode cX1_put 16 = .ok (.isub, 1) := by decide +kernel
theorem dX1_put_17 : decode cX1_put 17 = .ok (.iaload, 1) := by decide +kernel
theorem dX1_put_18 : decode cX1_put 18 = .ok (.iload_n 1, 1) := by decide +kernel
theorem dX1_put_19 : decode cX1_put 19 = .ok (.if_icmp .ne 5, 3) := by decide +kernel
theorem dX1_put_22 : decode cX1_put 22 = .ok (.iconst 0, 1) := by decide +kernel
theorem dX1_put_23 : decode cX1_put 23 = .ok (.ireturn, 1) := by decide +kernel
theorem dX1_put_24 : decode cX1_put 24 = .ok (.aload_n 0, 1) := by decide +kernel
theorem dX1_put_25 : decode cX1_put 25 = .ok (.iload_n 1, 1) := by decide +kernel
theorem dX1_put_26 : decode cX1_put 26 = .ok (.invokevirtual 31, 3) := by decide +kernel
theorem dX1_put_29 : decode cX1_put 29 = .ok (.ifCond .eq 16, 3) := by decide +kernel
theorem dX1_put_32 : decode cX1_put 32 = .ok (.aload_n 0, 1) := by decide +kernel
theorem dX1_put_33 : decode cX1_put 33 = .ok (.dup, 1) := by decide +kernel
theorem dX1_put_34 : decode cX1_put 34 = .ok (.getfield 21, 3) := by decide +kernel
theorem dX1_put_37 : decode cX1_put 37 = .ok (.iconst 1, 1) := by decide +kernel
theorem dX1_put_38 : decode cX1_put 38 = .ok (.isub, 1) := by decide +kernel
theorem dX1_put_39 : decode cX1_put 39 = .ok (.putfield 21, 3) := by decide +kernel
theorem dX1_put_42 : decode cX1_put 42 = .ok (.goto 18, 3) := by decide +kernel
theorem dX1_put_45 : decode cX1_put 45 = .ok (.aload_n 0, 1) := by decide +kernel
theorem dX1_put_46 : decode cX1_put 46 = .ok (.getfield 21, 3) := by decide +kernel
theorem dX1_put_49 : decode cX1_put 49 = .ok (.bipush 30, 2) := by decide +kernel
theorem dX1_put_51 : decode cX1_put 51 = .ok (.if_icmp .lt 9, 3) := by decide +kernel
theorem dX1_put_54 : decode cX1_put 54 = .ok (.aload_n 0, 1) := by decide +kernel
theorem dX1_put_55 : decode cX1_put 55 = .ok (.iconst 0, 1) := by decide +kernel
theorem dX1_put_56 : decode cX1_put 56 = .ok (.iconst 1, 1) := by decide +kernel
theorem dX1_put_57 : decode cX1_put 57 = .ok (.invokevirtual 35, 3) := by decide +kernel
theorem dX1_put_60 : decode cX1_put 60 = .ok (.aload_n 0, 1) := by decide +kernel
theorem dX1_put_61 : decode cX1_put 61 = .ok (.getfield 9, 3) := by decide +kernel
theorem dX1_put_64 : decode cX1_put 64 = .ok (.aload_n 0, 1) := by decide +kernel
theorem dX1_put_65 : decode cX1_put 65 = .ok (.getfield 21, 3) := by decide +kernel
theorem dX1_put_68 : decode cX1_put 68 = .ok (.iload_n 1, 1) := by decide +kernel
theorem dX1_put_69 : decode cX1_put 69 = .ok (.iastore, 1) := by decide +kernel
theorem dX1_put_70 : decode cX1_put 70 = .ok (.aload_n 0, 1) := by decide +kernel
theorem dX1_put_71 : decode cX1_put 71 = .ok (.dup, 1) := by decide +kernel
theorem dX1_put_72 : decode cX1_put 72 = .ok (.getfield 21, 3) := by decide +kernel
theorem dX1_put_75 : decode cX1_put 75 = .ok (.iconst 1, 1) := by decide +kernel
theorem dX1_put_76 : decode cX1_put 76 = .ok (.iadd, 1) := by decide +kernel
theorem dX1_put_77 : decode cX1_put 77 = .ok (.putfield 21, 3) := by decide +kernel
theorem dX1_put_80 : decode cX1_put 80 = .ok (.iconst 0, 1) := by decide +kernel
theorem dX1_put_81 : decode cX1_put 81 = .ok (.istore_n 2, 1) := by decide +kernel
theorem dX1_put_82 : decode cX1_put 82 = .ok (.iconst 0, 1) := by decide +kernel
theorem dX1_put_83 : decode cX1_put 83 = .ok (.istore_n 3, 1) := by decide +kernel
theorem dX1_put_84 : decode cX1_put 84 = .ok (.iload_n 3, 1) := by decide +kernel
theorem dX1_put_85 : decode cX1_put 85 = .ok (.bipush 30, 2) := by decide +kernel
theorem dX1_put_87 : decode cX1_put 87 = .ok (.if_icmp .ge 85, 3) := by decide +kernel
theorem dX1_put_90 : decode cX1_put 90 = .ok (.aload_n 0, 1) := by decide +kernel
theorem dX1_put_91 : decode cX1_put 91 = .ok (.invokevirtual 39, 3) := by decide +kernel
theorem dX1_put_94 : decode cX1_put 94 = .ok (.ifCond .eq 78, 3) := by decide +kernel
theorem dX1_put_97 : decode cX1_put 97 = .ok (.aload_n 0, 1) := by decide +kernel
theorem dX1_put_98 : decode cX1_put 98 = .ok (.getfield 9, 3) := by decide +kernel
theorem dX1_put_101 : decode cX1_put 101 = .ok (.aload_n 0, 1) := by decide +kernel
theorem dX1_put_102 : decode cX1_put 102 = .ok (.getfield 21, 3) := by decide +kernel
theorem dX1_put_105 : decode cX1_put 105 = .ok (.iconst 2, 1) := by decide +kernel
theorem dX1_put_106 : decode cX1_put 106 = .ok (.isub, 1) := by decide +kernel
theorem dX1_put_107 : decode cX1_put 107 = .ok (.iaload, 1) := by decide +kernel
theorem dX1_put_108 : decode cX1_put 108 = .ok (.aload_n 0, 1) := by decide +kernel
theorem dX1_put_109 : decode cX1_put 109 = .ok (.getfield 9, 3) := by decide +kernel
theorem dX1_put_112 : decode cX1_put 112 = .ok (.aload_n 0, 1) := by decide +kernel
theorem dX1_put_113 : decode cX1_put 113 = .ok (.getfield 21, 3) := by decide +kernel
theorem dX1_put_116 : decode cX1_put 116 = .ok (.iconst 3, 1) := by decide +kernel
theorem dX1_put_117 : decode cX1_put 117 = .ok (.isub, 1) := by decide +kernel
theorem dX1_put_118 : decode cX1_put 118 = .ok (.iaload, 1) := by decide +kernel
theorem dX1_put_119 : decode cX1_put 119 = .ok (.isub, 1) := by decide +kernel
theorem dX1_put_120 : decode cX1_put 120 = .ok (.istore 4, 2) := by decide +kernel
theorem dX1_put_122 : decode cX1_put 122 = .ok (.iload_n 2, 1) := by decide +kernel
theorem dX1_put_123 : decode cX1_put 123 = .ok (.iload 4, 2) := by decide +kernel
theorem dX1_put_125 : decode cX1_put 125 = .ok (.iload 4, 2) := by decide +kernel
theorem dX1_put_127 : decode cX1_put 127 = .ok (.imul, 1) := by decide +kernel
theorem dX1_put_128 : decode cX1_put 128 = .ok (.bipush 10, 2) := by decide +kernel
theorem dX1_put_130 : decode cX1_put 130 = .ok (.idiv, 1) := by decide +kernel
theorem dX1_put_131 : decode cX1_put 131 = .ok (.iadd, 1) := by decide +kernel
theorem dX1_put_132 : decode cX1_put 132 = .ok (.istore_n 2, 1) := by decide +kernel
theorem dX1_put_133 : decode cX1_put 133 = .ok (.aload_n 0, 1) := by decide +kernel
theorem dX1_put_134 : decode cX1_put 134 = .ok (.dup, 1) := by decide +kernel
theorem dX1_put_135 : decode cX1_put 135 = .ok (.getfield 28, 3) := by decide +kernel
theorem dX1_put_138 : decode cX1_put 138 = .ok (.iconst 1, 1) := by decide +kernel
theorem dX1_put_139 : decode cX1_put 139 = .ok (.iadd, 1) := by decide +kernel
theorem dX1_put_140 : decode cX1_put 140 = .ok (.putfield 28, 3) := by decide +kernel
theorem dX1_put_143 : decode cX1_put 143 = .ok (.aload_n 0, 1) := by decide +kernel
theorem dX1_put_144 : decode cX1_put 144 = .ok (.aload_n 0, 1) := by decide +kernel
theorem dX1_put_145 : decode cX1_put 145 = .ok (.getfield 21, 3) := by decide +kernel
theorem dX1_put_148 : decode cX1_put 148 = .ok (.iconst 3, 1) := by decide +kernel
theorem dX1_put_149 : decode cX1_put 149 = .ok (.isub, 1) := by decide +kernel
theorem dX1_put_150 : decode cX1_put 150 = .ok (.aload_n 0, 1) := by decide +kernel
theorem dX1_put_151 : decode cX1_put 151 = .ok (.getfield 21, 3) := by decide +kernel
theorem dX1_put_154 : decode cX1_put 154 = .ok (.iconst 3, 1) := by decide +kernel
theorem dX1_put_155 : decode cX1_put 155 = .ok (.if_icmp .ne 7, 3) := by decide +kernel
theorem dX1_put_158 : decode cX1_put 158 = .ok (.iconst 1, 1) := by decide +kernel
theorem dX1_put_159 : decode cX1_put 159 = .ok (.goto 4, 3) := by decide +kernel
theorem dX1_put_162 : decode cX1_put 162 = .ok (.iconst 2, 1) := by decide +kernel
theorem dX1_put_163 : decode cX1_put 163 = .ok (.invokevirtual 35, 3) := by decide +kernel
theorem dX1_put_166 : decode cX1_put 166 = .ok (.iinc 3 1, 3) := by decide +kernel
theorem dX1_put_169 : decode cX1_put 169 = .ok (.goto (-85), 3) := by decide +kernel
theorem dX1_put_172 : decode cX1_put 172 = .ok (.aload_n 0, 1) := by decide +kernel
theorem dX1_put_173 : decode cX1_put 173 = .ok (.dup, 1) := by decide +kernel
theorem dX1_put_174 : decode cX1_put 174 = .ok (.getfield 25, 3) := by decide +kernel
theorem dX1_put_177 : decode cX1_put 177 = .ok (.iload_n 2, 1) := by decide +kernel
theorem dX1_put_178 : decode cX1_put 178 = .ok (.iadd, 1) := by decide +kernel
theorem dX1_put_179 : decode cX1_put 179 = .ok (.putfield 25, 3) := by decide +kernel
theorem dX1_put_182 : decode cX1_put 182 = .ok (.iload_n 2, 1) := by decide +kernel
theorem dX1_put_183 : decode cX1_put 183 = .ok (.ireturn, 1) := by decide +kernel
theorem wcRX1_31 : Cond.methodLink RX1 31 yX1_goesOn ∈ zTg ∧ Cond.instanceMethod yX1_goesOn ∈ zTg ∧ Cond.selects RX1 yX1_goesOn yX1_goesOn ∈ zTg ∧ Cond.initialized RX1 ∈ zTg ∧ Cond.code yX1_goesOn cX1_goesOn 3 (some .boolean) ∈ zTg := ⟨zm_f 694 (by decide +kernel) rfl, zm_f 696 (by decide +kernel) rfl, zm_f 13 (by decide +kernel) rfl, zm_f 42 (by decide +kernel) rfl, zm_f 697 (by decide +kernel) rfl⟩
theorem wy_yX1_goesOn : yX1_goesOn.cls = RX1 ∧ yX1_goesOn.cls ≠ "java/lang/invoke/MethodHandle" ∧ yX1_goesOn.cls ≠ "java/lang/invoke/VarHandle" ∧ (parseMethodDescriptor yX1_goesOn.desc).map (fun d => d.parameters.length) = some 1 := by decide +kernel
theorem wcRX1_35 : Cond.methodLink RX1 35 yX1_takeOut ∈ zTg ∧ Cond.instanceMethod yX1_takeOut ∈ zTg ∧ Cond.selects RX1 yX1_takeOut yX1_takeOut ∈ zTg ∧ Cond.initialized RX1 ∈ zTg ∧ Cond.code yX1_takeOut cX1_takeOut 4 none ∈ zTg := ⟨zm_f 698 (by decide +kernel) rfl, zm_f 700 (by decide +kernel) rfl, zm_f 14 (by decide +kernel) rfl, zm_f 42 (by decide +kernel) rfl, zm_f 701 (by decide +kernel) rfl⟩
theorem wy_yX1_takeOut : yX1_takeOut.cls = RX1 ∧ yX1_takeOut.cls ≠ "java/lang/invoke/MethodHandle" ∧ yX1_takeOut.cls ≠ "java/lang/invoke/VarHandle" ∧ (parseMethodDescriptor yX1_takeOut.desc).map (fun d => d.parameters.length) = some 2 := by decide +kernel
theorem wcRX1_39 : Cond.methodLink RX1 39 yX1_hasCycle ∈ zTg ∧ Cond.instanceMethod yX1_hasCycle ∈ zTg ∧ Cond.selects RX1 yX1_hasCycle yX1_hasCycle ∈ zTg ∧ Cond.initialized RX1 ∈ zTg ∧ Cond.code yX1_hasCycle cX1_hasCycle 1 (some .boolean) ∈ zTg := ⟨zm_f 702 (by decide +kernel) rfl, zm_f 704 (by decide +kernel) rfl, zm_f 15 (by decide +kernel) rfl, zm_f 42 (by decide +kernel) rfl, zm_f 705 (by decide +kernel) rfl⟩
theorem wy_yX1_hasCycle : yX1_hasCycle.cls = RX1 ∧ yX1_hasCycle.cls ≠ "java/lang/invoke/MethodHandle" ∧ yX1_hasCycle.cls ≠ "java/lang/invoke/VarHandle" ∧ (parseMethodDescriptor yX1_hasCycle.desc).map (fun d => d.parameters.length) = some 0 := by decide +kernel
theorem wfRX1_28 : zFl RX1 28 1 3 := ⟨_, rfl, by decide, zm_f 151 (by decide +kernel) rfl⟩
theorem wpRX1_28 : zFw RX1 28 1 3 .int := ⟨_, rfl, by decide, zm_f 151 (by decide +kernel) rfl, rfl, by decide +kernel⟩
theorem wfRX1_25 : zFl RX1 25 1 2 := ⟨_, rfl, by decide, zm_f 149 (by decide +kernel) rfl⟩
theorem wpRX1_25 : zFw RX1 25 1 2 .int := ⟨_, rfl, by decide, zm_f 149 (by decide +kernel) rfl, rfl, by decide +kernel⟩
def fEx_put_l84 (i : Nat) (q16 : Int32 × Int32 × zM) : Option ((Int32 × Int32 × zM) ⊕ ((Int32 × zM))) :=
  if (30 : Int32) ≤ q16.2.1 then
  some (.inr (q16.1, q16.2.2))
else
  Option.bind (fEx_hasCycle i q16.2.2) fun q18 =>
    if q18 = 0 then
    some (.inr (q16.1, q16.2.2))
  else
    zix ((q16.2.2 10 i 1) - (2 : Int32)) 30 fun j19 =>
      zix ((q16.2.2 10 i 1) - (3 : Int32)) 30 fun j20 =>
      zlet (((q16.2.2 11 i j19) - (q16.2.2 11 i j20))) fun v21 =>
      zlet ((q16.1 + ((v21 * v21) / (10 : Int32)))) fun v22 =>
      zlet (zu q16.2.2 10 i 3 ((q16.2.2 10 i 3) + (1 : Int32))) fun s0_23 =>
      Option.bind (if (s0_23 10 i 1) = (3 : Int32) then
      some (1 : Int32)
    else
      some (2 : Int32)) fun q24 =>
      Option.bind (fEx_takeOut i ((s0_23 10 i 1) - (3 : Int32)) q24 s0_23) fun q28 =>
      zlet (q16.2.1 + 1) fun v29 =>
      some (.inl (v22, v29, q28))
def fEx_put (i : Nat) (a1 : Int32) (s0 : zM) : Option (Int32 × zM) :=
  Option.bind (if (s0 10 i 1) ≤ 0 then
  some (.inl ())
else
  zix ((s0 10 i 1) - (1 : Int32)) 30 fun j5 =>
    if (s0 11 i j5) = a1 then
    some (.inr ((0 : Int32), s0))
  else
    some (.inl ())) (Sum.elim (fun (_ : Unit) =>
  Option.bind (fEx_goesOn i a1 s0) fun q6 =>
  Option.bind (if q6 = 0 then
  if (s0 10 i 1) < (30 : Int32) then
    some s0
  else
    Option.bind (fEx_takeOut i (0 : Int32) (1 : Int32) s0) fun q11 =>
      some q11
else
  zlet (zu s0 10 i 1 ((s0 10 i 1) - (1 : Int32))) fun s0_12 =>
    some s0_12) fun q7 =>
  zix (q7 10 i 1) 30 fun j13 =>
  zlet (zu q7 11 i j13 a1) fun s0_14 =>
  zlet (zu s0_14 10 i 1 ((s0_14 10 i 1) + (1 : Int32))) fun s0_15 =>
  Option.bind (ziter (fEx_put_l84 i) 1000 ((0 : Int32), (0 : Int32), s0_15)) fun q17 =>
  zlet (zu q17.2 10 i 2 ((q17.2 10 i 2) + q17.1)) fun s0_30 =>
  some (q17.1, s0_30)) (fun r => some r))
set_option maxHeartbeats 4000000 in
set_option maxRecDepth 20000 in
theorem bfEx_put_l84 {X : zX} (F : zFr X cX1_put 5 RX1 (some .int)) (i : Nat) (hi : i < 8) {ψ : (Int32 × Int32 × zM) ⊕ ((Int32 × zM)) → Option zO} (h1 : ∀ q16 : Int32 × Int32 × zM, zZ X [(0, [])] 2 43 5 84 [some (zr 0 10 i), none, some (zi q16.1), some (zi q16.2.1), none] [] [q16.2.2] (ψ (.inl q16))) (h2 : ∀ q17 : Int32 × zM, zZ X [(0, [])] 2 43 5 172 [some (zr 0 10 i), none, some (zi q17.1), none, none] [] [q17.2] (ψ (.inr q17))) (q16 : Int32 × Int32 × zM) : zZ X [(0, [])] 2 43 5 84 [some (zr 0 10 i), none, some (zi q16.1), some (zi q16.2.1), none] [] [q16.2.2] (Option.bind (fEx_put_l84 i q16) ψ) := by
  unfold fEx_put_l84
  refine zz_iload_n F (i := 3) dX1_put_84 rfl rfl ?_
  refine zz_bipush F (v := (30 : Int32)) dX1_put_85 (by decide) ?_
  refine zz_icmp_ge F (tgt := 172) dX1_put_87 (by decide) (fun h => zz_t h ?_) (fun h => zz_f h ?_)
  · exact zz_sub (zs_k (zs_k (zs_k (zs_n (zs_k zs_z))))) (h2 (q16.1, q16.2.2))
  · refine zz_aload_n F (i := 0) dX1_put_90 rfl rfl ?_
    refine zz_bind ?_
    refine zz_callVr F (ρ := [0]) (so := fun q18 => [zi q18]) (Mo := fun q18 => [q16.2.2]) (zfEx_hasCycle i hi q16.2.2) dX1_put_91 wcRX1_39 wy_yX1_hasCycle rfl ⟨rel3, rfl, rfl, Nat.le_of_ble_eq_true rfl, Nat.le_of_ble_eq_true rfl, Nat.le_of_ble_eq_true rfl⟩ (⟨zlb rfl, zlb rfl, hi⟩) rfl rfl rfl (fun _ => rfl) (fun _ => rfl) fun q18 => ?_
    refine zz_if_eq F (tgt := 172) dX1_put_94 (by decide) (fun h => zz_t h ?_) (fun h => zz_f h ?_)
    · exact zz_sub (zs_k (zs_k (zs_k (zs_n (zs_k zs_z))))) (h2 (q16.1, q16.2.2))
    · refine zz_aload_n F (i := 0) dX1_put_97 rfl rfl ?_
      refine zz_getr F dX1_put_98 wfRX1_9 zCl_1 rfl (⟨zlb rfl, zlb rfl, hi⟩) rfl (by decide) rfl (r' := 0) (by decide) ?_
      refine zz_aload_n F (i := 0) dX1_put_101 rfl rfl ?_
      refine zz_getf F dX1_put_102 wfRX1_21 zCl_1 rfl (⟨zlb rfl, zlb rfl, hi⟩) rfl (by decide) rfl rfl ?_
      refine zz_iconst F (v := (2 : Int32)) dX1_put_105 (by decide) ?_
      refine zz_isub F dX1_put_106 ?_
      refine zz_ix fun j19 hj19 hinj19 hej19 => zz_ial F dX1_put_107 rfl (⟨zlb rfl, zlb rfl, hi⟩) rfl hinj19 hej19 ?_
      refine zz_aload_n F (i := 0) dX1_put_108 rfl rfl ?_
      refine zz_getr F dX1_put_109 wfRX1_9 zCl_1 rfl (⟨zlb rfl, zlb rfl, hi⟩) rfl (by decide) rfl (r' := 0) (by decide) ?_
      refine zz_aload_n F (i := 0) dX1_put_112 rfl rfl ?_
      refine zz_getf F dX1_put_113 wfRX1_21 zCl_1 rfl (⟨zlb rfl, zlb rfl, hi⟩) rfl (by decide) rfl rfl ?_
      refine zz_iconst F (v := (3 : Int32)) dX1_put_116 (by decide) ?_
      refine zz_isub F dX1_put_117 ?_
      refine zz_ix fun j20 hj20 hinj20 hej20 => zz_ial F dX1_put_118 rfl (⟨zlb rfl, zlb rfl, hi⟩) rfl hinj20 hej20 ?_
      refine zz_isub F dX1_put_119 ?_
      refine zz_istore F (i := 4) (L' := [some (zr 0 10 i), none, some (zi q16.1), some (zi q16.2.1), some (zi ((q16.2.2 11 i j19) - (q16.2.2 11 i j20)))]) dX1_put_120 (by decide) rfl rfl ?_
      refine zz_letl (Lf := fun v21 => [some (zr 0 10 i), none, some (zi q16.1), some (zi q16.2.1), some (zi v21)]) fun v21 => ?_
      refine zz_iload_n F (i := 2) dX1_put_122 rfl rfl ?_
      refine zz_iload F (i := 4) dX1_put_123 rfl ?_
      refine zz_iload F (i := 4) dX1_put_125 rfl ?_
      refine zz_imul F dX1_put_127 ?_
      refine zz_bipush F (v := (10 : Int32)) dX1_put_128 (by decide) ?_
      refine zz_idiv F dX1_put_130 (by decide) ?_
      refine zz_iadd F dX1_put_131 ?_
      refine zz_istore_n F (i := 2) (L' := [some (zr 0 10 i), none, some (zi (q16.1 + ((v21 * v21) / (10 : Int32)))), some (zi q16.2.1), some (zi v21)]) dX1_put_132 rfl (by decide) rfl rfl ?_
      refine zz_letl (Lf := fun v22 => [some (zr 0 10 i), none, some (zi v22), some (zi q16.2.1), some (zi v21)]) fun v22 => ?_
      refine zz_aload_n F (i := 0) dX1_put_133 rfl rfl ?_
      refine zz_dup F dX1_put_134 rfl ?_
      refine zz_getf F dX1_put_135 wfRX1_28 zCl_1 rfl (⟨zlb rfl, zlb rfl, hi⟩) rfl (by decide) rfl rfl ?_
      refine zz_iconst F (v := (1 : Int32)) dX1_put_138 (by decide) ?_
      refine zz_iadd F dX1_put_139 ?_
      refine zz_put F (Ms' := [(zu q16.2.2 10 i 3 ((q16.2.2 10 i 3) + (1 : Int32)))]) dX1_put_140 wpRX1_28 zCl_1 rfl (⟨zlb rfl, zlb rfl, hi⟩) rfl (by decide) rfl rfl rfl ?_
      refine zz_letm (Mf := fun s0_23 => [s0_23]) fun s0_23 => ?_
      refine zz_aload_n F (i := 0) dX1_put_143 rfl rfl ?_
      refine zz_aload_n F (i := 0) dX1_put_144 rfl rfl ?_
      refine zz_getf F dX1_put_145 wfRX1_21 zCl_1 rfl (⟨zlb rfl, zlb rfl, hi⟩) rfl (by decide) rfl rfl ?_
      refine zz_iconst F (v := (3 : Int32)) dX1_put_148 (by decide) ?_
      refine zz_isub F dX1_put_149 ?_
      refine zz_aload_n F (i := 0) dX1_put_150 rfl rfl ?_
      refine zz_getf F dX1_put_151 wfRX1_21 zCl_1 rfl (⟨zlb rfl, zlb rfl, hi⟩) rfl (by decide) rfl rfl ?_
      refine zz_iconst F (v := (3 : Int32)) dX1_put_154 (by decide) ?_
      refine zz_join (pj := 163) (Lj := fun q24 => [some (zr 0 10 i), none, some (zi v22), some (zi q16.2.1), none]) (Sj := fun q24 => [zi q24, zi ((s0_23 10 i 1) - (3 : Int32)), zr 0 10 i]) (Mj := fun q24 => [s0_23]) (fun q24 => ?_) (fun κ26 hj25 => ?_)
      · refine zz_bind ?_
        refine zz_callVr F (ρ := [0]) (so := fun q28 => []) (Mo := fun q28 => [q28]) (zfEx_takeOut i ((s0_23 10 i 1) - (3 : Int32)) q24 hi s0_23) dX1_put_163 wcRX1_35 wy_yX1_takeOut rfl ⟨rel3, rfl, rfl, Nat.le_of_ble_eq_true rfl, Nat.le_of_ble_eq_true rfl, Nat.le_of_ble_eq_true rfl⟩ (⟨zlb rfl, zlb rfl, hi⟩) rfl rfl rfl (fun _ => rfl) (fun _ => rfl) fun q28 => ?_
        refine zz_iinc F (i := 3) (v := q16.2.1 + 1) (L' := [some (zr 0 10 i), none, some (zi v22), some (zi (q16.2.1 + 1)), none]) dX1_put_166 rfl (by first | rfl | decide) (by decide) rfl rfl ?_
        refine zz_letl (Lf := fun v29 => [some (zr 0 10 i), none, some (zi v22), some (zi v29), none]) fun v29 => ?_
        refine zz_goto F (tgt := 84) dX1_put_169 (by decide) ?_
        exact zz_sub (zs_k (zs_k (zs_k (zs_k (zs_k zs_z))))) (h1 (v22, v29, q28))
      · refine zz_icmp_ne F (tgt := 162) dX1_put_155 (by decide) (fun h => zz_f h ?_) (fun h => zz_t h ?_)
        · refine zz_iconst F (v := (2 : Int32)) dX1_put_162 (by decide) ?_
          exact zz_sub (zs_k (zs_k (zs_k (zs_k (zs_n zs_z))))) (hj25 (2 : Int32))
        · refine zz_iconst F (v := (1 : Int32)) dX1_put_158 (by decide) ?_
          refine zz_goto F (tgt := 163) dX1_put_159 (by decide) ?_
          exact zz_sub (zs_k (zs_k (zs_k (zs_k (zs_n zs_z))))) (hj25 (1 : Int32))
set_option maxHeartbeats 4000000 in
set_option maxRecDepth 20000 in
theorem bfEx_put {X : zX} (F : zFr X cX1_put 5 RX1 (some .int)) (i : Nat) (a1 : Int32) (hi : i < 8) (s0 : zM) {κ : Int32 × zM → Option zO} (hκ : ∀ a, κ a = some ((fun a => ((.inl ((fun q => some (zi q.1)) a), (fun q => [q.2]) a) : zO)) a)) : zZ X [(0, [])] 2 43 5 0 [some (zr 0 10 i), some (zi a1), none, none, none] [] [s0] (Option.bind (fEx_put i a1 s0) κ) := by
  unfold fEx_put
  refine zz_aload_n F (i := 0) dX1_put_0 rfl rfl ?_
  refine zz_getf F dX1_put_1 wfRX1_21 zCl_1 rfl (⟨zlb rfl, zlb rfl, hi⟩) rfl (by decide) rfl rfl ?_
  refine zz_joinE (pj := 24) (Lj := fun _ => [some (zr 0 10 i), some (zi a1), none, none, none]) (Sj := fun _ => []) (Mj := fun _ => [s0]) (fun _ => ?_) (fun κ3 hj2 hr4 => ?_)
  · refine zz_aload_n F (i := 0) dX1_put_24 rfl rfl ?_
    refine zz_iload_n F (i := 1) dX1_put_25 rfl rfl ?_
    refine zz_bind ?_
    refine zz_callVr F (ρ := [0]) (so := fun q6 => [zi q6]) (Mo := fun q6 => [s0]) (zfEx_goesOn i a1 hi s0) dX1_put_26 wcRX1_31 wy_yX1_goesOn rfl ⟨rel3, rfl, rfl, Nat.le_of_ble_eq_true rfl, Nat.le_of_ble_eq_true rfl, Nat.le_of_ble_eq_true rfl⟩ (⟨zlb rfl, zlb rfl, hi⟩) rfl rfl rfl (fun _ => rfl) (fun _ => rfl) fun q6 => ?_
    refine zz_join (pj := 60) (Lj := fun q7 => [some (zr 0 10 i), some (zi a1), none, none, none]) (Sj := fun q7 => []) (Mj := fun q7 => [q7]) (fun q7 => ?_) (fun κ9 hj8 => ?_)
    · refine zz_aload_n F (i := 0) dX1_put_60 rfl rfl ?_
      refine zz_getr F dX1_put_61 wfRX1_9 zCl_1 rfl (⟨zlb rfl, zlb rfl, hi⟩) rfl (by decide) rfl (r' := 0) (by decide) ?_
      refine zz_aload_n F (i := 0) dX1_put_64 rfl rfl ?_
      refine zz_getf F dX1_put_65 wfRX1_21 zCl_1 rfl (⟨zlb rfl, zlb rfl, hi⟩) rfl (by decide) rfl rfl ?_
      refine zz_iload_n F (i := 1) dX1_put_68 rfl rfl ?_
      refine zz_ix fun j13 hj13 hinj13 hej13 => zz_ias F (Ms' := [(zu q7 11 i j13 a1)]) dX1_put_69 rfl (⟨zlb rfl, zlb rfl, hi⟩) rfl hinj13 hej13 rfl ?_
      refine zz_letm (Mf := fun s0_14 => [s0_14]) fun s0_14 => ?_
      refine zz_aload_n F (i := 0) dX1_put_70 rfl rfl ?_
      refine zz_dup F dX1_put_71 rfl ?_
      refine zz_getf F dX1_put_72 wfRX1_21 zCl_1 rfl (⟨zlb rfl, zlb rfl, hi⟩) rfl (by decide) rfl rfl ?_
      refine zz_iconst F (v := (1 : Int32)) dX1_put_75 (by decide) ?_
      refine zz_iadd F dX1_put_76 ?_
      refine zz_put F (Ms' := [(zu s0_14 10 i 1 ((s0_14 10 i 1) + (1 : Int32)))]) dX1_put_77 wpRX1_21 zCl_1 rfl (⟨zlb rfl, zlb rfl, hi⟩) rfl (by decide) rfl rfl rfl ?_
      refine zz_letm (Mf := fun s0_15 => [s0_15]) fun s0_15 => ?_
      refine zz_iconst F (v := (0 : Int32)) dX1_put_80 (by decide) ?_
      refine zz_istore_n F (i := 2) (L' := [some (zr 0 10 i), some (zi a1), some (zi (0 : Int32)), none, none]) dX1_put_81 rfl (by decide) rfl rfl ?_
      refine zz_iconst F (v := (0 : Int32)) dX1_put_82 (by decide) ?_
      refine zz_istore_n F (i := 3) (L' := [some (zr 0 10 i), some (zi a1), some (zi (0 : Int32)), some (zi (0 : Int32)), none]) dX1_put_83 rfl (by decide) rfl rfl ?_
      refine zz_sub (zs_k (zs_n (zs_k (zs_k (zs_k zs_z))))) ?_
      refine zz_bind ?_
      refine zz_iter (Lf := fun q16 => [some (zr 0 10 i), none, some (zi q16.1), some (zi q16.2.1), none]) (Mf := fun q16 => [q16.2.2]) (fun q16 _ e31 e32 => bfEx_put_l84 F i hi e31 (fun q17 => ?_)  q16) 1000 ((0 : Int32), (0 : Int32), s0_15)
      rw [e32]
      refine zz_aload_n F (i := 0) dX1_put_172 rfl rfl ?_
      refine zz_dup F dX1_put_173 rfl ?_
      refine zz_getf F dX1_put_174 wfRX1_25 zCl_1 rfl (⟨zlb rfl, zlb rfl, hi⟩) rfl (by decide) rfl rfl ?_
      refine zz_iload_n F (i := 2) dX1_put_177 rfl rfl ?_
      refine zz_iadd F dX1_put_178 ?_
      refine zz_put F (Ms' := [(zu q17.2 10 i 2 ((q17.2 10 i 2) + q17.1))]) dX1_put_179 wpRX1_25 zCl_1 rfl (⟨zlb rfl, zlb rfl, hi⟩) rfl (by decide) rfl rfl rfl ?_
      refine zz_letm (Mf := fun s0_30 => [s0_30]) fun s0_30 => ?_
      refine zz_iload_n F (i := 2) dX1_put_182 rfl rfl ?_
      exact zz_ireturn F dX1_put_183 rfl (hκ _)
    · refine zz_if_eq F (tgt := 45) dX1_put_29 (by decide) (fun h => zz_t h ?_) (fun h => zz_f h ?_)
      · refine zz_aload_n F (i := 0) dX1_put_45 rfl rfl ?_
        refine zz_getf F dX1_put_46 wfRX1_21 zCl_1 rfl (⟨zlb rfl, zlb rfl, hi⟩) rfl (by decide) rfl rfl ?_
        refine zz_bipush F (v := (30 : Int32)) dX1_put_49 (by decide) ?_
        refine zz_icmp_lt F (tgt := 60) dX1_put_51 (by decide) (fun h => zz_t h ?_) (fun h => zz_f h ?_)
        · exact zz_sub (zs_k (zs_k (zs_k (zs_k (zs_k zs_z))))) (hj8 s0)
        · refine zz_aload_n F (i := 0) dX1_put_54 rfl rfl ?_
          refine zz_iconst F (v := (0 : Int32)) dX1_put_55 (by decide) ?_
          refine zz_iconst F (v := (1 : Int32)) dX1_put_56 (by decide) ?_
          refine zz_bind ?_
          refine zz_callVr F (ρ := [0]) (so := fun q11 => []) (Mo := fun q11 => [q11]) (zfEx_takeOut i (0 : Int32) (1 : Int32) hi s0) dX1_put_57 wcRX1_35 wy_yX1_takeOut rfl ⟨rel3, rfl, rfl, Nat.le_of_ble_eq_true rfl, Nat.le_of_ble_eq_true rfl, Nat.le_of_ble_eq_true rfl⟩ (⟨zlb rfl, zlb rfl, hi⟩) rfl rfl rfl (fun _ => rfl) (fun _ => rfl) fun q11 => ?_
          exact zz_sub (zs_k (zs_k (zs_k (zs_k (zs_k zs_z))))) (hj8 q11)
      · refine zz_aload_n F (i := 0) dX1_put_32 rfl rfl ?_
        refine zz_dup F dX1_put_33 rfl ?_
        refine zz_getf F dX1_put_34 wfRX1_21 zCl_1 rfl (⟨zlb rfl, zlb rfl, hi⟩) rfl (by decide) rfl rfl ?_
        refine zz_iconst F (v := (1 : Int32)) dX1_put_37 (by decide) ?_
        refine zz_isub F dX1_put_38 ?_
        refine zz_put F (Ms' := [(zu s0 10 i 1 ((s0 10 i 1) - (1 : Int32)))]) dX1_put_39 wpRX1_21 zCl_1 rfl (⟨zlb rfl, zlb rfl, hi⟩) rfl (by decide) rfl rfl rfl ?_
        refine zz_letm (Mf := fun s0_12 => [s0_12]) fun s0_12 => ?_
        refine zz_goto F (tgt := 60) dX1_put_42 (by decide) ?_
        exact zz_sub (zs_k (zs_k (zs_k (zs_k (zs_k zs_z))))) (hj8 s0_12)
  · refine zz_if_le F (tgt := 24) dX1_put_4 (by decide) (fun h => zz_t h ?_) (fun h => zz_f h ?_)
    · exact zz_sub (zs_k (zs_k (zs_k (zs_k (zs_k zs_z))))) (hj2 ())
    · refine zz_aload_n F (i := 0) dX1_put_7 rfl rfl ?_
      refine zz_getr F dX1_put_8 wfRX1_9 zCl_1 rfl (⟨zlb rfl, zlb rfl, hi⟩) rfl (by decide) rfl (r' := 0) (by decide) ?_
      refine zz_aload_n F (i := 0) dX1_put_11 rfl rfl ?_
      refine zz_getf F dX1_put_12 wfRX1_21 zCl_1 rfl (⟨zlb rfl, zlb rfl, hi⟩) rfl (by decide) rfl rfl ?_
      refine zz_iconst F (v := (1 : Int32)) dX1_put_15 (by decide) ?_
      refine zz_isub F dX1_put_16 ?_
      refine zz_ix fun j5 hj5 hinj5 hej5 => zz_ial F dX1_put_17 rfl (⟨zlb rfl, zlb rfl, hi⟩) rfl hinj5 hej5 ?_
      refine zz_iload_n F (i := 1) dX1_put_18 rfl rfl ?_
      refine zz_icmp_ne F (tgt := 24) dX1_put_19 (by decide) (fun h => zz_f h ?_) (fun h => zz_t h ?_)
      · exact zz_sub (zs_k (zs_k (zs_k (zs_k (zs_k zs_z))))) (hj2 ())
      · refine zz_iconst F (v := (0 : Int32)) dX1_put_22 (by decide) ?_
        exact zz_ireturn F dX1_put_23 rfl ((hr4 _).trans (hκ _))
theorem zfEx_put (i : Nat) (a1 : Int32) (hi : i < 8) (s0 : zM) : ∀ a, fEx_put i a1 s0 = some a → zMet yX1_put cX1_put 5 (some .int) 2 43 [(0, [])] [zr 0 10 i, zi a1] [s0] ((fun a => ((.inl ((fun q => some (zi q.1)) a), (fun q => [q.2]) a) : zO)) a) := fun a ha => zMet_of (L0 := [some (zr 0 10 i), some (zi a1), none, none, none]) (φ := Option.bind (fEx_put i a1 s0) (fun a => some ((fun a => ((.inl ((fun q => some (zi q.1)) a), (fun q => [q.2]) a) : zO)) a))) (by decide) (fun _ => Nat.le_of_ble_eq_true rfl) (zl0 3 rfl) (fun X F => bfEx_put F i a1 hi s0 (fun _ => rfl)) (by rw [ha]; rfl)
