theorem dX7_together_0 : decode cX7_together 0 = .ok (.bipush 60, 2) := by decide +kernel
theorem dX7_together_2 : decode cX7_together 2 = .ok (.iload_n 0, 1) := by decide +kernel
theorem dX7_together_3 : decode cX7_together 3 = .ok (.iload_n 1, 1) := by decide +kernel
theorem dX7_together_4 : decode cX7_together 4 = .ok (.iload_n 0, 1) := by decide +kernel
theorem dX7_together_5 : decode cX7_together 5 = .ok (.isub, 1) := by decide +kernel
theorem dX7_together_6 : decode cX7_together 6 = .ok (.iconst 2, 1) := by decide +kernel
theorem dX7_together_7 : decode cX7_together 7 = .ok (.idiv, 1) := by decide +kernel
theorem dX7_together_8 : decode cX7_together 8 = .ok (.iadd, 1) := by decide +kernel
theorem dX7_together_9 : decode cX7_together 9 = .ok (.invokestatic 16, 3) := by decide +kernel
theorem dX7_together_12 : decode cX7_together 12 = .ok (.ireturn, 1) := by decide +kernel
def fWa_together (a0 : Int32) (a1 : Int32)  : Option (Int32) :=
  some (zmin (60 : Int32) (a0 + ((a1 - a0) / (2 : Int32))))
set_option maxHeartbeats 4000000 in
set_option maxRecDepth 20000 in
theorem bfWa_together {X : zX} (F : zFr X cX7_together 2 RX7 (some .int)) (a0 : Int32) (a1 : Int32)   {κ : Int32 → Option zO} (hκ : ∀ a, κ a = some ((fun a => ((.inl ((fun q => some (zi q)) a), (fun _ => []) a) : zO)) a)) : zZ X [] 1 23 2 0 [some (zi a0), some (zi a1)] [] [] (Option.bind (fWa_together a0 a1) κ) := by
  unfold fWa_together
  refine zz_bipush F (v := (60 : Int32)) dX7_together_0 (by decide) ?_
  refine zz_iload_n F (i := 0) dX7_together_2 rfl rfl ?_
  refine zz_iload_n F (i := 1) dX7_together_3 rfl rfl ?_
  refine zz_iload_n F (i := 0) dX7_together_4 rfl rfl ?_
  refine zz_isub F dX7_together_5 ?_
  refine zz_iconst F (v := (2 : Int32)) dX7_together_6 (by decide) ?_
  refine zz_idiv F dX7_together_7 (by decide) ?_
  refine zz_iadd F dX7_together_8 ?_
  refine zz_min F dX7_together_9 wmRX7_16 wMath_min (Nat.le_of_ble_eq_true rfl) (Nat.le_of_ble_eq_true rfl) ?_
  exact zz_ireturn F dX7_together_12 rfl (hκ _)
theorem zfWa_together (a0 : Int32) (a1 : Int32)   : ∀ a, fWa_together a0 a1 = some a → zMet yX7_together cX7_together 2 (some .int) 1 23 [] [zi a0, zi a1] [] ((fun a => ((.inl ((fun q => some (zi q)) a), (fun _ => []) a) : zO)) a) := fun a ha => zMet_of (L0 := [some (zi a0), some (zi a1)]) (φ := Option.bind (fWa_together a0 a1) (fun a => some ((fun a => ((.inl ((fun q => some (zi q)) a), (fun _ => []) a) : zO)) a))) (by decide) (fun _ => Nat.le_of_ble_eq_true rfl) (zl0 0 rfl) (fun X F => bfWa_together F a0 a1 (fun _ => rfl)) (by rw [ha]; rfl)

theorem dX3_deficitOf_0 : decode cX3_deficitOf 0 = .ok (.iconst 0, 1) := by decide +kernel
theorem dX3_deficitOf_1 : decode cX3_deficitOf 1 = .ok (.istore_n 2, 1) := by decide +kernel
theorem dX3_deficitOf_2 : decode cX3_deficitOf 2 = .ok (.iconst 0, 1) := by decide +kernel
theorem dX3_deficitOf_3 : decode cX3_deficitOf 3 = .ok (.istore_n 3, 1) := by decide +kernel
theorem dX3_deficitOf_4 : decode cX3_deficitOf 4 = .ok (.iconst 0, 1) := by decide +kernel
theorem dX3_deficitOf_5 : decode cX3_deficitOf 5 = .ok (.istore 4, 2) := by decide +kernel
theorem dX3_deficitOf_7 : decode cX3_deficitOf 7 = .ok (.iload 4, 2) := by decide +kernel
theorem dX3_deficitOf_9 : decode cX3_deficitOf 9 = .ok (.aload_n 0, 1) := by decide +kernel
theorem dX3_deficitOf_10 : decode cX3_deficitOf 10 = .ok (.getfield 56, 3) := by decide +kernel
theorem dX3_deficitOf_13 : decode cX3_deficitOf 13 = .ok (.if_icmp .ge 30, 3) := by decide +kernel
theorem dX3_deficitOf_16 : decode cX3_deficitOf 16 = .ok (.aload_n 0, 1) := by decide +kernel
theorem dX3_deficitOf_17 : decode cX3_deficitOf 17 = .ok (.iload 4, 2) := by decide +kernel
theorem dX3_deficitOf_19 : decode cX3_deficitOf 19 = .ok (.iload_n 1, 1) := by decide +kernel
theorem dX3_deficitOf_20 : decode cX3_deficitOf 20 = .ok (.invokevirtual 123, 3) := by decide +kernel
theorem dX3_deficitOf_23 : decode cX3_deficitOf 23 = .ok (.istore 5, 2) := by decide +kernel
theorem dX3_deficitOf_25 : decode cX3_deficitOf 25 = .ok (.iload_n 2, 1) := by decide +kernel
theorem dX3_deficitOf_26 : decode cX3_deficitOf 26 = .ok (.iload 5, 2) := by decide +kernel
theorem dX3_deficitOf_28 : decode cX3_deficitOf 28 = .ok (.invokestatic 127, 3) := by decide +kernel
theorem dX3_deficitOf_31 : decode cX3_deficitOf 31 = .ok (.istore_n 2, 1) := by decide +kernel
theorem dX3_deficitOf_32 : decode cX3_deficitOf 32 = .ok (.iload_n 3, 1) := by decide +kernel
theorem dX3_deficitOf_33 : decode cX3_deficitOf 33 = .ok (.iload 5, 2) := by decide +kernel
theorem dX3_deficitOf_35 : decode cX3_deficitOf 35 = .ok (.iadd, 1) := by decide +kernel
theorem dX3_deficitOf_36 : decode cX3_deficitOf 36 = .ok (.istore_n 3, 1) := by decide +kernel
theorem dX3_deficitOf_37 : decode cX3_deficitOf 37 = .ok (.iinc 4 1, 3) := by decide +kernel
theorem dX3_deficitOf_40 : decode cX3_deficitOf 40 = .ok (.goto (-33), 3) := by decide +kernel
theorem dX3_deficitOf_43 : decode cX3_deficitOf 43 = .ok (.iload_n 2, 1) := by decide +kernel
theorem dX3_deficitOf_44 : decode cX3_deficitOf 44 = .ok (.iload_n 3, 1) := by decide +kernel
theorem dX3_deficitOf_45 : decode cX3_deficitOf 45 = .ok (.invokestatic 132, 3) := by decide +kernel
theorem dX3_deficitOf_48 : decode cX3_deficitOf 48 = .ok (.ireturn, 1) := by decide +kernel
theorem wcRX3_123 : Cond.methodLink RX3 123 yX3_deficitBy ∈ zTg ∧ Cond.instanceMethod yX3_deficitBy ∈ zTg ∧ Cond.selects RX3 yX3_deficitBy yX3_deficitBy ∈ zTg ∧ Cond.initialized RX3 ∈ zTg ∧ Cond.code yX3_deficitBy cX3_deficitBy 5 (some .int) ∈ zTg := ⟨zm_f 524 (by decide +kernel) rfl, zm_f 525 (by decide +kernel) rfl, zm_f 526 (by decide +kernel) rfl, zm_f 38 (by decide +kernel) rfl, zm_f 527 (by decide +kernel) rfl⟩
theorem wy_yX3_deficitBy : yX3_deficitBy.cls = RX3 ∧ yX3_deficitBy.cls ≠ "java/lang/invoke/MethodHandle" ∧ yX3_deficitBy.cls ≠ "java/lang/invoke/VarHandle" ∧ (parseMethodDescriptor yX3_deficitBy.desc).map (fun d => d.parameters.length) = some 2 := by decide +kernel
theorem wmRX3_127 : Cond.methodLink RX3 127 Lib.Math.max.name ∈ zTg := zm_f 529 (by decide +kernel) rfl
theorem wMath_max : Cond.static Lib.Math.max.name ∈ zTg ∧ Cond.initialized "java/lang/Math" ∈ zTg ∧ Cond.code Lib.Math.max.name Lib.Math.max.code 2 (some .int) ∈ zTg := ⟨zm_f 373 (by decide +kernel) rfl, zm_f 56 (by decide +kernel) rfl, zm_f 374 (by decide +kernel) rfl⟩
theorem wcRX3_132 : Cond.methodLink RX3 132 yX7_together ∈ zTg ∧ Cond.static yX7_together ∈ zTg ∧ Cond.initialized yX7_together.cls ∈ zTg ∧ Cond.code yX7_together cX7_together 2 (some .int) ∈ zTg := ⟨zm_f 530 (by decide +kernel) rfl, zm_f 387 (by decide +kernel) rfl, zm_f 55 (by decide +kernel) rfl, zm_f 388 (by decide +kernel) rfl⟩
theorem wy_yX7_together : yX7_together.cls ≠ "java/lang/invoke/MethodHandle" ∧ yX7_together.cls ≠ "java/lang/invoke/VarHandle" ∧ (parseMethodDescriptor yX7_together.desc).map (fun d => d.parameters.length) = some 2 := by decide +kernel
def fSe_deficitOf_l7 (a1 : Int32) (s0 : zM) (q1 : Int32 × Int32 × Int32) : Option ((Int32 × Int32 × Int32) ⊕ ((Int32 × Int32))) :=
  if (s0 0 0 5) ≤ q1.2.2 then
  some (.inr (q1.1, q1.2.1))
else
  Option.bind (fSe_deficitBy q1.2.2 a1 s0) fun q3 =>
    zlet ((zmax q1.1 q3)) fun v4 =>
    zlet ((q1.2.1 + q3)) fun v5 =>
    zlet (q1.2.2 + 1) fun v6 =>
    some (.inl (v4, v5, v6))
def fSe_deficitOf (a1 : Int32) (s0 : zM) : Option (Int32) :=
  Option.bind (ziter (fSe_deficitOf_l7 a1 s0) 1000 ((0 : Int32), (0 : Int32), (0 : Int32))) fun q2 =>
  Option.bind (fWa_together q2.1 q2.2) fun q7 =>
  some q7
set_option maxHeartbeats 4000000 in
set_option maxRecDepth 20000 in
theorem bfSe_deficitOf_l7 {X : zX} (F : zFr X cX3_deficitOf 6 RX3 (some .int)) (a1 : Int32) (s0 : zM)  {ψ : (Int32 × Int32 × Int32) ⊕ ((Int32 × Int32)) → Option zO} (h1 : ∀ q1 : Int32 × Int32 × Int32, zZ X [(0, [])] 2 52 6 7 [some (zr 0 0 0), some (zi a1), some (zi q1.1), some (zi q1.2.1), some (zi q1.2.2), none] [] [s0] (ψ (.inl q1))) (h2 : ∀ q2 : Int32 × Int32, zZ X [(0, [])] 2 52 6 43 [none, none, some (zi q2.1), some (zi q2.2), none, none] [] [s0] (ψ (.inr q2))) (q1 : Int32 × Int32 × Int32) : zZ X [(0, [])] 2 52 6 7 [some (zr 0 0 0), some (zi a1), some (zi q1.1), some (zi q1.2.1), some (zi q1.2.2), none] [] [s0] (Option.bind (fSe_deficitOf_l7 a1 s0 q1) ψ) := by
  unfold fSe_deficitOf_l7
  refine zz_iload F (i := 4) dX3_deficitOf_7 rfl ?_
  refine zz_aload_n F (i := 0) dX3_deficitOf_9 rfl rfl ?_
  refine zz_getf F dX3_deficitOf_10 wfRX3_56 zCl_3 rfl (⟨zlb rfl, zlb rfl, zlb rfl⟩) rfl (by decide) rfl rfl ?_
  refine zz_icmp_ge F (tgt := 43) dX3_deficitOf_13 (by decide) (fun h => zz_t h ?_) (fun h => zz_f h ?_)
  · exact zz_sub (zs_n (zs_n (zs_k (zs_k (zs_n (zs_k zs_z)))))) (h2 (q1.1, q1.2.1))
  · refine zz_aload_n F (i := 0) dX3_deficitOf_16 rfl rfl ?_
    refine zz_iload F (i := 4) dX3_deficitOf_17 rfl ?_
    refine zz_iload_n F (i := 1) dX3_deficitOf_19 rfl rfl ?_
    refine zz_bind ?_
    refine zz_callVr F (ρ := [0]) (so := fun q3 => [zi q3]) (Mo := fun q3 => [s0]) (zfSe_deficitBy q1.2.2 a1 s0) dX3_deficitOf_20 wcRX3_123 wy_yX3_deficitBy rfl ⟨rel3, rfl, rfl, Nat.le_of_ble_eq_true rfl, Nat.le_of_ble_eq_true rfl, Nat.le_of_ble_eq_true rfl⟩ (⟨zlb rfl, zlb rfl, zlb rfl⟩) rfl rfl rfl (fun _ => rfl) (fun _ => rfl) fun q3 => ?_
    refine zz_istore F (i := 5) (L' := [some (zr 0 0 0), some (zi a1), some (zi q1.1), some (zi q1.2.1), some (zi q1.2.2), some (zi q3)]) dX3_deficitOf_23 (by decide) rfl rfl ?_
    refine zz_iload_n F (i := 2) dX3_deficitOf_25 rfl rfl ?_
    refine zz_iload F (i := 5) dX3_deficitOf_26 rfl ?_
    refine zz_max F dX3_deficitOf_28 wmRX3_127 wMath_max (Nat.le_of_ble_eq_true rfl) (Nat.le_of_ble_eq_true rfl) ?_
    refine zz_istore_n F (i := 2) (L' := [some (zr 0 0 0), some (zi a1), some (zi (zmax q1.1 q3)), some (zi q1.2.1), some (zi q1.2.2), some (zi q3)]) dX3_deficitOf_31 rfl (by decide) rfl rfl ?_
    refine zz_letl (Lf := fun v4 => [some (zr 0 0 0), some (zi a1), some (zi v4), some (zi q1.2.1), some (zi q1.2.2), some (zi q3)]) fun v4 => ?_
    refine zz_iload_n F (i := 3) dX3_deficitOf_32 rfl rfl ?_
    refine zz_iload F (i := 5) dX3_deficitOf_33 rfl ?_
    refine zz_iadd F dX3_deficitOf_35 ?_
    refine zz_istore_n F (i := 3) (L' := [some (zr 0 0 0), some (zi a1), some (zi v4), some (zi (q1.2.1 + q3)), some (zi q1.2.2), some (zi q3)]) dX3_deficitOf_36 rfl (by decide) rfl rfl ?_
    refine zz_letl (Lf := fun v5 => [some (zr 0 0 0), some (zi a1), some (zi v4), some (zi v5), some (zi q1.2.2), some (zi q3)]) fun v5 => ?_
    refine zz_iinc F (i := 4) (v := q1.2.2 + 1) (L' := [some (zr 0 0 0), some (zi a1), some (zi v4), some (zi v5), some (zi (q1.2.2 + 1)), some (zi q3)]) dX3_deficitOf_37 rfl (by first | rfl | decide) (by decide) rfl rfl ?_
    refine zz_letl (Lf := fun v6 => [some (zr 0 0 0), some (zi a1), some (zi v4), some (zi v5), some (zi v6), some (zi q3)]) fun v6 => ?_
    refine zz_goto F (tgt := 7) dX3_deficitOf_40 (by decide) ?_
    exact zz_sub (zs_k (zs_k (zs_k (zs_k (zs_k (zs_n zs_z)))))) (h1 (v4, v5, v6))
set_option maxHeartbeats 4000000 in
set_option maxRecDepth 20000 in
theorem bfSe_deficitOf {X : zX} (F : zFr X cX3_deficitOf 6 RX3 (some .int)) (a1 : Int32)  (s0 : zM) {κ : Int32 → Option zO} (hκ : ∀ a, κ a = some ((fun a => ((.inl ((fun q => some (zi q)) a), (fun _ => [s0]) a) : zO)) a)) : zZ X [(0, [])] 2 52 6 0 [some (zr 0 0 0), some (zi a1), none, none, none, none] [] [s0] (Option.bind (fSe_deficitOf a1 s0) κ) := by
  unfold fSe_deficitOf
  refine zz_iconst F (v := (0 : Int32)) dX3_deficitOf_0 (by decide) ?_
  refine zz_istore_n F (i := 2) (L' := [some (zr 0 0 0), some (zi a1), some (zi (0 : Int32)), none, none, none]) dX3_deficitOf_1 rfl (by decide) rfl rfl ?_
  refine zz_iconst F (v := (0 : Int32)) dX3_deficitOf_2 (by decide) ?_
  refine zz_istore_n F (i := 3) (L' := [some (zr 0 0 0), some (zi a1), some (zi (0 : Int32)), some (zi (0 : Int32)), none, none]) dX3_deficitOf_3 rfl (by decide) rfl rfl ?_
  refine zz_iconst F (v := (0 : Int32)) dX3_deficitOf_4 (by decide) ?_
  refine zz_istore F (i := 4) (L' := [some (zr 0 0 0), some (zi a1), some (zi (0 : Int32)), some (zi (0 : Int32)), some (zi (0 : Int32)), none]) dX3_deficitOf_5 (by decide) rfl rfl ?_
  refine zz_sub (zs_k (zs_k (zs_k (zs_k (zs_k (zs_k zs_z)))))) ?_
  refine zz_bind ?_
  refine zz_iter (Lf := fun q1 => [some (zr 0 0 0), some (zi a1), some (zi q1.1), some (zi q1.2.1), some (zi q1.2.2), none]) (Mf := fun q1 => [s0]) (fun q1 _ e8 e9 => bfSe_deficitOf_l7 F a1 s0  e8 (fun q2 => ?_)  q1) 1000 ((0 : Int32), (0 : Int32), (0 : Int32))
  rw [e9]
  refine zz_iload_n F (i := 2) dX3_deficitOf_43 rfl rfl ?_
  refine zz_iload_n F (i := 3) dX3_deficitOf_44 rfl rfl ?_
  refine zz_bind ?_
  refine zz_callSr F (ρ := []) (so := fun q7 => [zi q7]) (Mo := fun q7 => [s0]) (zfWa_together q2.1 q2.2) dX3_deficitOf_45 wcRX3_132 wy_yX7_together rfl ⟨rel4, rfl, rfl, Nat.le_of_ble_eq_true rfl, Nat.le_of_ble_eq_true rfl, Nat.le_of_ble_eq_true rfl⟩ rfl (fun _ => rfl) (fun _ => rfl) fun q7 => ?_
  exact zz_ireturn F dX3_deficitOf_48 rfl (hκ _)
theorem zfSe_deficitOf (a1 : Int32)  (s0 : zM) : ∀ a, fSe_deficitOf a1 s0 = some a → zMet yX3_deficitOf cX3_deficitOf 6 (some .int) 2 52 [(0, [])] [zr 0 0 0, zi a1] [s0] ((fun a => ((.inl ((fun q => some (zi q)) a), (fun _ => [s0]) a) : zO)) a) := fun a ha => zMet_of (L0 := [some (zr 0 0 0), some (zi a1), none, none, none, none]) (φ := Option.bind (fSe_deficitOf a1 s0) (fun a => some ((fun a => ((.inl ((fun q => some (zi q)) a), (fun _ => [s0]) a) : zO)) a))) (by decide) (fun _ => Nat.le_of_ble_eq_true rfl) (zl0 4 rfl) (fun X F => bfSe_deficitOf F a1 s0 (fun _ => rfl)) (by rw [ha]; rfl)

theorem dX7_wind_0 : decode cX7_wind 0 = .ok (.iload_n 0, 1) := by decide +kernel
theorem dX7_wind_1 : decode cX7_wind 1 = .ok (.bipush 100, 2) := by decide +kernel
theorem dX7_wind_3 : decode cX7_wind 3 = .ok (.iload_n 1, 1) := by decide +kernel
theorem dX7_wind_4 : decode cX7_wind 4 = .ok (.isub, 1) := by decide +kernel
theorem dX7_wind_5 : decode cX7_wind 5 = .ok (.imul, 1) := by decide +kernel
theorem dX7_wind_6 : decode cX7_wind 6 = .ok (.bipush 100, 2) := by decide +kernel
theorem dX7_wind_8 : decode cX7_wind 8 = .ok (.idiv, 1) := by decide +kernel
theorem dX7_wind_9 : decode cX7_wind 9 = .ok (.ireturn, 1) := by decide +kernel
def fWa_wind (a0 : Int32) (a1 : Int32)  : Option (Int32) :=
  some ((a0 * ((100 : Int32) - a1)) / (100 : Int32))
set_option maxHeartbeats 4000000 in
set_option maxRecDepth 20000 in
theorem bfWa_wind {X : zX} (F : zFr X cX7_wind 2 RX7 (some .int)) (a0 : Int32) (a1 : Int32)   {κ : Int32 → Option zO} (hκ : ∀ a, κ a = some ((fun a => ((.inl ((fun q => some (zi q)) a), (fun _ => []) a) : zO)) a)) : zZ X [] 0 0 2 0 [some (zi a0), some (zi a1)] [] [] (Option.bind (fWa_wind a0 a1) κ) := by
  unfold fWa_wind
  refine zz_iload_n F (i := 0) dX7_wind_0 rfl rfl ?_
  refine zz_bipush F (v := (100 : Int32)) dX7_wind_1 (by decide) ?_
  refine zz_iload_n F (i := 1) dX7_wind_3 rfl rfl ?_
  refine zz_isub F dX7_wind_4 ?_
  refine zz_imul F dX7_wind_5 ?_
  refine zz_bipush F (v := (100 : Int32)) dX7_wind_6 (by decide) ?_
  refine zz_idiv F dX7_wind_8 (by decide) ?_
  exact zz_ireturn F dX7_wind_9 rfl (hκ _)
theorem zfWa_wind (a0 : Int32) (a1 : Int32)   : ∀ a, fWa_wind a0 a1 = some a → zMet yX7_wind cX7_wind 2 (some .int) 0 0 [] [zi a0, zi a1] [] ((fun a => ((.inl ((fun q => some (zi q)) a), (fun _ => []) a) : zO)) a) := fun a ha => zMet_of (L0 := [some (zi a0), some (zi a1)]) (φ := Option.bind (fWa_wind a0 a1) (fun a => some ((fun a => ((.inl ((fun q => some (zi q)) a), (fun _ => []) a) : zO)) a))) (by decide) (fun _ => Nat.le_of_ble_eq_true rfl) (zl0 0 rfl) (fun X F => bfWa_wind F a0 a1 (fun _ => rfl)) (by rw [ha]; rfl)

theorem dX5_lose_0 : decode cX5_lose 0 = .ok (.aload_n 0, 1) := by decide +kernel
theorem dX5_lose_1 : decode cX5_lose 1 = .ok (.dup, 1) := by decide +kernel
theorem dX5_lose_2 : decode cX5_lose 2 = .ok (.getfield 56, 3) := by decide +kernel
theorem dX5_lose_5 : decode cX5_lose 5 = .ok (.iload_n 1, 1) := by decide +kernel
theorem dX5_lose_6 : decode cX5_lose 6 = .ok (.isub, 1) := by decide +kernel
theorem dX5_lose_7 : decode cX5_lose 7 = .ok (.putfield 56, 3) := by decide +kernel
theorem dX5_lose_10 : decode cX5_lose 10 = .ok (.iload_n 2, 1) := by decide +kernel
theorem dX5_lose_11 : decode cX5_lose 11 = .ok (.ifCond .lt 19, 3) := by decide +kernel
theorem dX5_lose_14 : decode cX5_lose 14 = .ok (.iload_n 2, 1) := by decide +kernel
theorem dX5_lose_15 : decode cX5_lose 15 = .ok (.bipush 8, 2) := by decide +kernel
theorem dX5_lose_17 : decode cX5_lose 17 = .ok (.if_icmp .ge 13, 3) := by decide +kernel
theorem dX5_lose_20 : decode cX5_lose 20 = .ok (.aload_n 0, 1) := by decide +kernel
theorem dX5_lose_21 : decode cX5_lose 21 = .ok (.getfield 28, 3) := by decide +kernel
theorem dX5_lose_24 : decode cX5_lose 24 = .ok (.iload_n 2, 1) := by decide +kernel
theorem dX5_lose_25 : decode cX5_lose 25 = .ok (.dup2, 1) := by decide +kernel
theorem dX5_lose_26 : decode cX5_lose 26 = .ok (.iaload, 1) := by decide +kernel
theorem dX5_lose_27 : decode cX5_lose 27 = .ok (.iload_n 1, 1) := by decide +kernel
theorem dX5_lose_28 : decode cX5_lose 28 = .ok (.iadd, 1) := by decide +kernel
theorem dX5_lose_29 : decode cX5_lose 29 = .ok (.iastore, 1) := by decide +kernel
theorem dX5_lose_30 : decode cX5_lose 30 = .ok (.return_, 1) := by decide +kernel
theorem wfRX5_56 : zFl RX5 56 5 10 := ⟨_, rfl, by decide, zm_f 185 (by decide +kernel) rfl⟩
theorem wpRX5_56 : zFw RX5 56 5 10 .int := ⟨_, rfl, by decide, zm_f 185 (by decide +kernel) rfl, rfl, by decide +kernel⟩
theorem wfRX5_28 : zFl RX5 28 5 12 := ⟨_, rfl, by decide, zm_f 191 (by decide +kernel) rfl⟩
def fTu_lose (i : Nat) (a1 : Int32) (a2 : Int32) (s0 : zM) : Option (zM) :=
  zlet (zu s0 7 i 10 ((s0 7 i 10) - a1)) fun s0_1 =>
  if a2 < 0 then
  some s0_1
else
  if (8 : Int32) ≤ a2 then
    some s0_1
  else
    zix a2 8 fun j2 =>
      zix a2 8 fun j3 =>
      zlet (zu s0_1 9 i j3 ((s0_1 9 i j2) + a1)) fun s0_4 =>
      some s0_4
set_option maxHeartbeats 4000000 in
set_option maxRecDepth 20000 in
theorem bfTu_lose {X : zX} (F : zFr X cX5_lose 3 RX5 none) (i : Nat) (a1 : Int32) (a2 : Int32) (hi : i < 8) (s0 : zM) {κ : zM → Option zO} (hκ : ∀ a, κ a = some ((fun a => ((.inl ((fun _ => (none : Option zV)) a), (fun q => [q]) a) : zO)) a)) : zZ X [(0, [])] 0 0 3 0 [some (zr 0 7 i), some (zi a1), some (zi a2)] [] [s0] (Option.bind (fTu_lose i a1 a2 s0) κ) := by
  unfold fTu_lose
  refine zz_aload_n F (i := 0) dX5_lose_0 rfl rfl ?_
  refine zz_dup F dX5_lose_1 rfl ?_
  refine zz_getf F dX5_lose_2 wfRX5_56 zCl_5 rfl (⟨zlb rfl, zlb rfl, hi⟩) rfl (by decide) rfl rfl ?_
  refine zz_iload_n F (i := 1) dX5_lose_5 rfl rfl ?_
  refine zz_isub F dX5_lose_6 ?_
  refine zz_put F (Ms' := [(zu s0 7 i 10 ((s0 7 i 10) - a1))]) dX5_lose_7 wpRX5_56 zCl_5 rfl (⟨zlb rfl, zlb rfl, hi⟩) rfl (by decide) rfl rfl rfl ?_
  refine zz_letm (Mf := fun s0_1 => [s0_1]) fun s0_1 => ?_
  refine zz_iload_n F (i := 2) dX5_lose_10 rfl rfl ?_
  refine zz_if_lt F (tgt := 30) dX5_lose_11 (by decide) (fun h => zz_t h ?_) (fun h => zz_f h ?_)
  · exact zz_return F dX5_lose_30 rfl (hκ _)
  · refine zz_iload_n F (i := 2) dX5_lose_14 rfl rfl ?_
    refine zz_bipush F (v := (8 : Int32)) dX5_lose_15 (by decide) ?_
    refine zz_icmp_ge F (tgt := 30) dX5_lose_17 (by decide) (fun h => zz_t h ?_) (fun h => zz_f h ?_)
    · exact zz_return F dX5_lose_30 rfl (hκ _)
    · refine zz_aload_n F (i := 0) dX5_lose_20 rfl rfl ?_
      refine zz_getr F dX5_lose_21 wfRX5_28 zCl_5 rfl (⟨zlb rfl, zlb rfl, hi⟩) rfl (by decide) rfl (r' := 0) (by decide) ?_
      refine zz_iload_n F (i := 2) dX5_lose_24 rfl rfl ?_
      refine zz_dup2 F dX5_lose_25 rfl rfl ?_
      refine zz_ix fun j2 hj2 hinj2 hej2 => zz_ial F dX5_lose_26 rfl (⟨zlb rfl, zlb rfl, hi⟩) rfl hinj2 hej2 ?_
      refine zz_iload_n F (i := 1) dX5_lose_27 rfl rfl ?_
      refine zz_iadd F dX5_lose_28 ?_
      refine zz_ix fun j3 hj3 hinj3 hej3 => zz_ias F (Ms' := [(zu s0_1 9 i j3 ((s0_1 9 i j2) + a1))]) dX5_lose_29 rfl (⟨zlb rfl, zlb rfl, hi⟩) rfl hinj3 hej3 rfl ?_
      refine zz_letm (Mf := fun s0_4 => [s0_4]) fun s0_4 => ?_
      exact zz_return F dX5_lose_30 rfl (hκ _)
theorem zfTu_lose (i : Nat) (a1 : Int32) (a2 : Int32) (hi : i < 8) (s0 : zM) : ∀ a, fTu_lose i a1 a2 s0 = some a → zMet yX5_lose cX5_lose 3 none 0 0 [(0, [])] [zr 0 7 i, zi a1, zi a2] [s0] ((fun a => ((.inl ((fun _ => (none : Option zV)) a), (fun q => [q]) a) : zO)) a) := fun a ha => zMet_of (L0 := [some (zr 0 7 i), some (zi a1), some (zi a2)]) (φ := Option.bind (fTu_lose i a1 a2 s0) (fun a => some ((fun a => ((.inl ((fun _ => (none : Option zV)) a), (fun q => [q]) a) : zO)) a))) (by decide) (fun _ => Nat.le_of_ble_eq_true rfl) (zl0 0 rfl) (fun X F => bfTu_lose F i a1 a2 hi s0 (fun _ => rfl)) (by rw [ha]; rfl)

theorem dX5_causeOfStanding_0 : decode cX5_causeOfStanding 0 = .ok (.aload_n 0, 1) := by decide +kernel
theorem dX5_causeOfStanding_1 : decode cX5_causeOfStanding 1 = .ok (.getfield 9, 3) := by decide +kernel
theorem dX5_causeOfStanding_4 : decode cX5_causeOfStanding 4 = .ok (.iconst 3, 1) := by decide +kernel
theorem dX5_causeOfStanding_5 : decode cX5_causeOfStanding 5 = .ok (.if_icmp .ne 5, 3) := by decide +kernel
theorem dX5_causeOfStanding_8 : decode cX5_causeOfStanding 8 = .ok (.iconst 2, 1) := by decide +kernel
theorem dX5_causeOfStanding_9 : decode cX5_causeOfStanding 9 = .ok (.ireturn, 1) := by decide +kernel
theorem dX5_causeOfStanding_10 : decode cX5_causeOfStanding 10 = .ok (.aload_n 0, 1) := by decide +kernel
theorem dX5_causeOfStanding_11 : decode cX5_causeOfStanding 11 = .ok (.getfield 9, 3) := by decide +kernel
theorem dX5_causeOfStanding_14 : decode cX5_causeOfStanding 14 = .ok (.iconst 4, 1) := by decide +kernel
theorem dX5_causeOfStanding_15 : decode cX5_causeOfStanding 15 = .ok (.if_icmp .ne 5, 3) := by decide +kernel
theorem dX5_causeOfStanding_18 : decode cX5_causeOfStanding 18 = .ok (.iconst 3, 1) := by decide +kernel
theorem dX5_causeOfStanding_19 : decode cX5_causeOfStanding 19 = .ok (.ireturn, 1) := by decide +kernel
theorem dX5_causeOfStanding_20 : decode cX5_causeOfStanding 20 = .ok (.aload_n 0, 1) := by decide +kernel
theorem dX5_causeOfStanding_21 : decode cX5_causeOfStanding 21 = .ok (.getfield 15, 3) := by decide +kernel
theorem dX5_causeOfStanding_24 : decode cX5_causeOfStanding 24 = .ok (.ifCond .ne 7, 3) := by decide +kernel
theorem dX5_causeOfStanding_27 : decode cX5_causeOfStanding 27 = .ok (.iconst 1, 1) := by decide +kernel
theorem dX5_causeOfStanding_28 : decode cX5_causeOfStanding 28 = .ok (.goto 4, 3) := by decide +kernel
theorem dX5_causeOfStanding_31 : decode cX5_causeOfStanding 31 = .ok (.iconst 4, 1) := by decide +kernel
theorem dX5_causeOfStanding_32 : decode cX5_causeOfStanding 32 = .ok (.ireturn, 1) := by decide +kernel
def fTu_causeOfStanding (i : Nat) (s0 : zM) : Option (Int32) :=
  if (s0 7 i 3) = (3 : Int32) then
  some (2 : Int32)
else
  if (s0 7 i 3) = (4 : Int32) then
    some (3 : Int32)
  else
    if (s0 7 i 4) = 0 then
      some (1 : Int32)
    else
      some (4 : Int32)
set_option maxHeartbeats 4000000 in
set_option maxRecDepth 20000 in
theorem bfTu_causeOfStanding {X : zX} (F : zFr X cX5_causeOfStanding 1 RX5 (some .int)) (i : Nat) (hi : i < 8) (s0 : zM) {κ : Int32 → Option zO} (hκ : ∀ a, κ a = some ((fun a => ((.inl ((fun q => some (zi q)) a), (fun _ => [s0]) a) : zO)) a)) : zZ X [(0, [])] 0 0 1 0 [some (zr 0 7 i)] [] [s0] (Option.bind (fTu_causeOfStanding i s0) κ) := by
  unfold fTu_causeOfStanding
  refine zz_aload_n F (i := 0) dX5_causeOfStanding_0 rfl rfl ?_
  refine zz_getf F dX5_causeOfStanding_1 wfRX5_9 zCl_5 rfl (⟨zlb rfl, zlb rfl, hi⟩) rfl (by decide) rfl rfl ?_
  refine zz_iconst F (v := (3 : Int32)) dX5_causeOfStanding_4 (by decide) ?_
  refine zz_icmp_ne F (tgt := 10) dX5_causeOfStanding_5 (by decide) (fun h => zz_f h ?_) (fun h => zz_t h ?_)
  · refine zz_aload_n F (i := 0) dX5_causeOfStanding_10 rfl rfl ?_
    refine zz_getf F dX5_causeOfStanding_11 wfRX5_9 zCl_5 rfl (⟨zlb rfl, zlb rfl, hi⟩) rfl (by decide) rfl rfl ?_
    refine zz_iconst F (v := (4 : Int32)) dX5_causeOfStanding_14 (by decide) ?_
    refine zz_icmp_ne F (tgt := 20) dX5_causeOfStanding_15 (by decide) (fun h => zz_f h ?_) (fun h => zz_t h ?_)
    · refine zz_aload_n F (i := 0) dX5_causeOfStanding_20 rfl rfl ?_
      refine zz_getf F dX5_causeOfStanding_21 wfRX5_15 zCl_5 rfl (⟨zlb rfl, zlb rfl, hi⟩) rfl (by decide) rfl rfl ?_
      refine zz_if_ne F (tgt := 31) dX5_causeOfStanding_24 (by decide) (fun h => zz_f h ?_) (fun h => zz_t h ?_)
      · refine zz_iconst F (v := (4 : Int32)) dX5_causeOfStanding_31 (by decide) ?_
        exact zz_ireturn F dX5_causeOfStanding_32 rfl (hκ _)
      · refine zz_iconst F (v := (1 : Int32)) dX5_causeOfStanding_27 (by decide) ?_
        refine zz_goto F (tgt := 32) dX5_causeOfStanding_28 (by decide) ?_
        exact zz_ireturn F dX5_causeOfStanding_32 rfl (hκ _)
    · refine zz_iconst F (v := (3 : Int32)) dX5_causeOfStanding_18 (by decide) ?_
      exact zz_ireturn F dX5_causeOfStanding_19 rfl (hκ _)
  · refine zz_iconst F (v := (2 : Int32)) dX5_causeOfStanding_8 (by decide) ?_
    exact zz_ireturn F dX5_causeOfStanding_9 rfl (hκ _)
theorem zfTu_causeOfStanding (i : Nat) (hi : i < 8) (s0 : zM) : ∀ a, fTu_causeOfStanding i s0 = some a → zMet yX5_causeOfStanding cX5_causeOfStanding 1 (some .int) 0 0 [(0, [])] [zr 0 7 i] [s0] ((fun a => ((.inl ((fun q => some (zi q)) a), (fun _ => [s0]) a) : zO)) a) := fun a ha => zMet_of (L0 := [some (zr 0 7 i)]) (φ := Option.bind (fTu_causeOfStanding i s0) (fun a => some ((fun a => ((.inl ((fun q => some (zi q)) a), (fun _ => [s0]) a) : zO)) a))) (by decide) (fun _ => Nat.le_of_ble_eq_true rfl) (zl0 0 rfl) (fun X F => bfTu_causeOfStanding F i hi s0 (fun _ => rfl)) (by rw [ha]; rfl)

theorem dX5_take_0 : decode cX5_take 0 = .ok (.aload_n 0, 1) := by decide +kernel
theorem dX5_take_1 : decode cX5_take 1 = .ok (.aload_n 0, 1) := by decide +kernel
theorem dX5_take_2 : decode cX5_take 2 = .ok (.getfield 50, 3) := by decide +kernel
theorem dX5_take_5 : decode cX5_take 5 = .ok (.putfield 53, 3) := by decide +kernel
theorem dX5_take_8 : decode cX5_take 8 = .ok (.aload_n 0, 1) := by decide +kernel
theorem dX5_take_9 : decode cX5_take 9 = .ok (.iload_n 1, 1) := by decide +kernel
theorem dX5_take_10 : decode cX5_take 10 = .ok (.putfield 50, 3) := by decide +kernel
theorem dX5_take_13 : decode cX5_take 13 = .ok (.aload_n 0, 1) := by decide +kernel
theorem dX5_take_14 : decode cX5_take 14 = .ok (.iload_n 2, 1) := by decide +kernel
theorem dX5_take_15 : decode cX5_take 15 = .ok (.putfield 56, 3) := by decide +kernel
theorem dX5_take_18 : decode cX5_take 18 = .ok (.aload_n 0, 1) := by decide +kernel
theorem dX5_take_19 : decode cX5_take 19 = .ok (.iconst 0, 1) := by decide +kernel
theorem dX5_take_20 : decode cX5_take 20 = .ok (.iload_n 2, 1) := by decide +kernel
theorem dX5_take_21 : decode cX5_take 21 = .ok (.iload_n 1, 1) := by decide +kernel
theorem dX5_take_22 : decode cX5_take 22 = .ok (.invokestatic 98, 3) := by decide +kernel
theorem dX5_take_25 : decode cX5_take 25 = .ok (.isub, 1) := by decide +kernel
theorem dX5_take_26 : decode cX5_take 26 = .ok (.invokestatic 104, 3) := by decide +kernel
theorem dX5_take_29 : decode cX5_take 29 = .ok (.iconst 0, 1) := by decide +kernel
theorem dX5_take_30 : decode cX5_take 30 = .ok (.invokevirtual 110, 3) := by decide +kernel
theorem dX5_take_33 : decode cX5_take 33 = .ok (.aload_n 0, 1) := by decide +kernel
theorem dX5_take_34 : decode cX5_take 34 = .ok (.getfield 9, 3) := by decide +kernel
theorem dX5_take_37 : decode cX5_take 37 = .ok (.iconst 2, 1) := by decide +kernel
theorem dX5_take_38 : decode cX5_take 38 = .ok (.if_icmp .ne 30, 3) := by decide +kernel
theorem dX5_take_41 : decode cX5_take 41 = .ok (.aload_n 0, 1) := by decide +kernel
theorem dX5_take_42 : decode cX5_take 42 = .ok (.aload_n 0, 1) := by decide +kernel
theorem dX5_take_43 : decode cX5_take 43 = .ok (.getfield 56, 3) := by decide +kernel
theorem dX5_take_46 : decode cX5_take 46 = .ok (.iconst 3, 1) := by decide +kernel
theorem dX5_take_47 : decode cX5_take 47 = .ok (.aload_n 0, 1) := by decide +kernel
theorem dX5_take_48 : decode cX5_take 48 = .ok (.getfield 47, 3) := by decide +kernel
theorem dX5_take_51 : decode cX5_take 51 = .ok (.imul, 1) := by decide +kernel
theorem dX5_take_52 : decode cX5_take 52 = .ok (.aload_n 0, 1) := by decide +kernel
theorem dX5_take_53 : decode cX5_take 53 = .ok (.getfield 47, 3) := by decide +kernel
theorem dX5_take_56 : decode cX5_take 56 = .ok (.imul, 1) := by decide +kernel
theorem dX5_take_57 : decode cX5_take 57 = .ok (.imul, 1) := by decide +kernel
theorem dX5_take_58 : decode cX5_take 58 = .ok (.bipush 100, 2) := by decide +kernel
theorem dX5_take_60 : decode cX5_take 60 = .ok (.idiv, 1) := by decide +kernel
theorem dX5_take_61 : decode cX5_take 61 = .ok (.iconst 5, 1) := by decide +kernel
theorem dX5_take_62 : decode cX5_take 62 = .ok (.invokevirtual 110, 3) := by decide +kernel
theorem dX5_take_65 : decode cX5_take 65 = .ok (.goto 15, 3) := by decide +kernel
theorem dX5_take_68 : decode cX5_take 68 = .ok (.aload_n 0, 1) := by decide +kernel
theorem dX5_take_69 : decode cX5_take 69 = .ok (.aload_n 0, 1) := by decide +kernel
theorem dX5_take_70 : decode cX5_take 70 = .ok (.getfield 56, 3) := by decide +kernel
theorem dX5_take_73 : decode cX5_take 73 = .ok (.aload_n 0, 1) := by decide +kernel
theorem dX5_take_74 : decode cX5_take 74 = .ok (.invokevirtual 114, 3) := by decide +kernel
theorem dX5_take_77 : decode cX5_take 77 = .ok (.invokevirtual 110, 3) := by decide +kernel
theorem dX5_take_80 : decode cX5_take 80 = .ok (.return_, 1) := by decide +kernel
theorem wfRX5_50 : zFl RX5 50 5 8 := ⟨_, rfl, by decide, zm_f 182 (by decide +kernel) rfl⟩
theorem wpRX5_53 : zFw RX5 53 5 9 .int := ⟨_, rfl, by decide, zm_f 184 (by decide +kernel) rfl, rfl, by decide +kernel⟩
theorem wpRX5_50 : zFw RX5 50 5 8 .int := ⟨_, rfl, by decide, zm_f 182 (by decide +kernel) rfl, rfl, by decide +kernel⟩
theorem wcRX5_98 : Cond.methodLink RX5 98 yX7_power ∈ zTg ∧ Cond.static yX7_power ∈ zTg ∧ Cond.initialized yX7_power.cls ∈ zTg ∧ Cond.code yX7_power cX7_power 1 (some .int) ∈ zTg := ⟨zm_f 638 (by decide +kernel) rfl, zm_f 396 (by decide +kernel) rfl, zm_f 55 (by decide +kernel) rfl, zm_f 397 (by decide +kernel) rfl⟩
theorem wy_yX7_power : yX7_power.cls ≠ "java/lang/invoke/MethodHandle" ∧ yX7_power.cls ≠ "java/lang/invoke/VarHandle" ∧ (parseMethodDescriptor yX7_power.desc).map (fun d => d.parameters.length) = some 1 := by decide +kernel
theorem wmRX5_104 : Cond.methodLink RX5 104 Lib.Math.max.name ∈ zTg := zm_f 639 (by decide +kernel) rfl
theorem wcRX5_110 : Cond.methodLink RX5 110 yX5_lose ∈ zTg ∧ Cond.instanceMethod yX5_lose ∈ zTg ∧ Cond.selects RX5 yX5_lose yX5_lose ∈ zTg ∧ Cond.initialized RX5 ∈ zTg ∧ Cond.code yX5_lose cX5_lose 3 none ∈ zTg := ⟨zm_f 640 (by decide +kernel) rfl, zm_f 641 (by decide +kernel) rfl, zm_f 642 (by decide +kernel) rfl, zm_f 41 (by decide +kernel) rfl, zm_f 643 (by decide +kernel) rfl⟩
theorem wy_yX5_lose : yX5_lose.cls = RX5 ∧ yX5_lose.cls ≠ "java/lang/invoke/MethodHandle" ∧ yX5_lose.cls ≠ "java/lang/invoke/VarHandle" ∧ (parseMethodDescriptor yX5_lose.desc).map (fun d => d.parameters.length) = some 2 := by decide +kernel
theorem wcRX5_114 : Cond.methodLink RX5 114 yX5_causeOfStanding ∈ zTg ∧ Cond.instanceMethod yX5_causeOfStanding ∈ zTg ∧ Cond.selects RX5 yX5_causeOfStanding yX5_causeOfStanding ∈ zTg ∧ Cond.initialized RX5 ∈ zTg ∧ Cond.code yX5_causeOfStanding cX5_causeOfStanding 1 (some .int) ∈ zTg := ⟨zm_f 644 (by decide +kernel) rfl, zm_f 646 (by decide +kernel) rfl, zm_f 7 (by decide +kernel) rfl, zm_f 41 (by decide +kernel) rfl, zm_f 647 (by decide +kernel) rfl⟩
theorem wy_yX5_causeOfStanding : yX5_causeOfStanding.cls = RX5 ∧ yX5_causeOfStanding.cls ≠ "java/lang/invoke/MethodHandle" ∧ yX5_causeOfStanding.cls ≠ "java/lang/invoke/VarHandle" ∧ (parseMethodDescriptor yX5_causeOfStanding.desc).map (fun d => d.parameters.length) = some 0 := by decide +kernel
theorem wfRX5_47 : zFl RX5 47 5 7 := ⟨_, rfl, by decide, zm_f 179 (by decide +kernel) rfl⟩
def fTu_take (i : Nat) (a1 : Int32) (a2 : Int32) (s0 : zM) : Option (zM) :=
  zlet (zu s0 7 i 9 (s0 7 i 8)) fun s0_1 =>
  zlet (zu s0_1 7 i 8 a1) fun s0_2 =>
  zlet (zu s0_2 7 i 10 a2) fun s0_3 =>
  Option.bind (fWa_power a1) fun q4 =>
  Option.bind (fTu_lose i (zmax (0 : Int32) (a2 - q4)) (0 : Int32) s0_3) fun q5 =>
  if (q5 7 i 3) = (2 : Int32) then
  Option.bind (fTu_lose i (((q5 7 i 10) * (((3 : Int32) * (q5 7 i 7)) * (q5 7 i 7))) / (100 : Int32)) (5 : Int32) q5) fun q8 =>
    some q8
else
  Option.bind (fTu_causeOfStanding i q5) fun q6 =>
    Option.bind (fTu_lose i (q5 7 i 10) q6 q5) fun q7 =>
    some q7
set_option maxHeartbeats 4000000 in
set_option maxRecDepth 20000 in
theorem bfTu_take {X : zX} (F : zFr X cX5_take 3 RX5 none) (i : Nat) (a1 : Int32) (a2 : Int32) (hi : i < 8) (s0 : zM) {κ : zM → Option zO} (hκ : ∀ a, κ a = some ((fun a => ((.inl ((fun _ => (none : Option zV)) a), (fun q => [q]) a) : zO)) a)) : zZ X [(0, [])] 2 43 3 0 [some (zr 0 7 i), some (zi a1), some (zi a2)] [] [s0] (Option.bind (fTu_take i a1 a2 s0) κ) := by
  unfold fTu_take
  refine zz_aload_n F (i := 0) dX5_take_0 rfl rfl ?_
  refine zz_aload_n F (i := 0) dX5_take_1 rfl rfl ?_
  refine zz_getf F dX5_take_2 wfRX5_50 zCl_5 rfl (⟨zlb rfl, zlb rfl, hi⟩) rfl (by decide) rfl rfl ?_
  refine zz_put F (Ms' := [(zu s0 7 i 9 (s0 7 i 8))]) dX5_take_5 wpRX5_53 zCl_5 rfl (⟨zlb rfl, zlb rfl, hi⟩) rfl (by decide) rfl rfl rfl ?_
  refine zz_letm (Mf := fun s0_1 => [s0_1]) fun s0_1 => ?_
  refine zz_aload_n F (i := 0) dX5_take_8 rfl rfl ?_
  refine zz_iload_n F (i := 1) dX5_take_9 rfl rfl ?_
  refine zz_put F (Ms' := [(zu s0_1 7 i 8 a1)]) dX5_take_10 wpRX5_50 zCl_5 rfl (⟨zlb rfl, zlb rfl, hi⟩) rfl (by decide) rfl rfl rfl ?_
  refine zz_letm (Mf := fun s0_2 => [s0_2]) fun s0_2 => ?_
  refine zz_aload_n F (i := 0) dX5_take_13 rfl rfl ?_
  refine zz_iload_n F (i := 2) dX5_take_14 rfl rfl ?_
  refine zz_put F (Ms' := [(zu s0_2 7 i 10 a2)]) dX5_take_15 wpRX5_56 zCl_5 rfl (⟨zlb rfl, zlb rfl, hi⟩) rfl (by decide) rfl rfl rfl ?_
  refine zz_letm (Mf := fun s0_3 => [s0_3]) fun s0_3 => ?_
  refine zz_aload_n F (i := 0) dX5_take_18 rfl rfl ?_
  refine zz_iconst F (v := (0 : Int32)) dX5_take_19 (by decide) ?_
  refine zz_iload_n F (i := 2) dX5_take_20 rfl rfl ?_
  refine zz_iload_n F (i := 1) dX5_take_21 rfl rfl ?_
  refine zz_bind ?_
  refine zz_callSr F (ρ := []) (so := fun q4 => [zi q4, zi a2, zi (0 : Int32), zr 0 7 i]) (Mo := fun q4 => [s0_3]) (zfWa_power a1) dX5_take_22 wcRX5_98 wy_yX7_power rfl ⟨rel4, rfl, rfl, Nat.le_of_ble_eq_true rfl, Nat.le_of_ble_eq_true rfl, Nat.le_of_ble_eq_true rfl⟩ rfl (fun _ => rfl) (fun _ => rfl) fun q4 => ?_
  refine zz_isub F dX5_take_25 ?_
  refine zz_max F dX5_take_26 wmRX5_104 wMath_max (Nat.le_of_ble_eq_true rfl) (Nat.le_of_ble_eq_true rfl) ?_
  refine zz_iconst F (v := (0 : Int32)) dX5_take_29 (by decide) ?_
  refine zz_bind ?_
  refine zz_callVr F (ρ := [0]) (so := fun q5 => []) (Mo := fun q5 => [q5]) (zfTu_lose i (zmax (0 : Int32) (a2 - q4)) (0 : Int32) hi s0_3) dX5_take_30 wcRX5_110 wy_yX5_lose rfl ⟨rel3, rfl, rfl, Nat.le_of_ble_eq_true rfl, Nat.le_of_ble_eq_true rfl, Nat.le_of_ble_eq_true rfl⟩ (⟨zlb rfl, zlb rfl, hi⟩) rfl rfl rfl (fun _ => rfl) (fun _ => rfl) fun q5 => ?_
  refine zz_aload_n F (i := 0) dX5_take_33 rfl rfl ?_
  refine zz_getf F dX5_take_34 wfRX5_9 zCl_5 rfl (⟨zlb rfl, zlb rfl, hi⟩) rfl (by decide) rfl rfl ?_
  refine zz_iconst F (v := (2 : Int32)) dX5_take_37 (by decide) ?_
  refine zz_icmp_ne F (tgt := 68) dX5_take_38 (by decide) (fun h => zz_f h ?_) (fun h => zz_t h ?_)
  · refine zz_aload_n F (i := 0) dX5_take_68 rfl rfl ?_
    refine zz_aload_n F (i := 0) dX5_take_69 rfl rfl ?_
    refine zz_getf F dX5_take_70 wfRX5_56 zCl_5 rfl (⟨zlb rfl, zlb rfl, hi⟩) rfl (by decide) rfl rfl ?_
    refine zz_aload_n F (i := 0) dX5_take_73 rfl rfl ?_
    refine zz_bind ?_
    refine zz_callVr F (ρ := [0]) (so := fun q6 => [zi q6, zi (q5 7 i 10), zr 0 7 i]) (Mo := fun q6 => [q5]) (zfTu_causeOfStanding i hi q5) dX5_take_74 wcRX5_114 wy_yX5_causeOfStanding rfl ⟨rel3, rfl, rfl, Nat.le_of_ble_eq_true rfl, Nat.le_of_ble_eq_true rfl, Nat.le_of_ble_eq_true rfl⟩ (⟨zlb rfl, zlb rfl, hi⟩) rfl rfl rfl (fun _ => rfl) (fun _ => rfl) fun q6 => ?_
    refine zz_bind ?_
    refine zz_callVr F (ρ := [0]) (so := fun q7 => []) (Mo := fun q7 => [q7]) (zfTu_lose i (q5 7 i 10) q6 hi q5) dX5_take_77 wcRX5_110 wy_yX5_lose rfl ⟨rel3, rfl, rfl, Nat.le_of_ble_eq_true rfl, Nat.le_of_ble_eq_true rfl, Nat.le_of_ble_eq_true rfl⟩ (⟨zlb rfl, zlb rfl, hi⟩) rfl rfl rfl (fun _ => rfl) (fun _ => rfl) fun q7 => ?_
    exact zz_return F dX5_take_80 rfl (hκ _)
  · refine zz_aload_n F (i := 0) dX5_take_41 rfl rfl ?_
    refine zz_aload_n F (i := 0) dX5_take_42 rfl rfl ?_
    refine zz_getf F dX5_take_43 wfRX5_56 zCl_5 rfl (⟨zlb rfl, zlb rfl, hi⟩) rfl (by decide) rfl rfl ?_
    refine zz_iconst F (v := (3 : Int32)) dX5_take_46 (by decide) ?_
    refine zz_aload_n F (i := 0) dX5_take_47 rfl rfl ?_
    refine zz_getf F dX5_take_48 wfRX5_47 zCl_5 rfl (⟨zlb rfl, zlb rfl, hi⟩) rfl (by decide) rfl rfl ?_
    refine zz_imul F dX5_take_51 ?_
    refine zz_aload_n F (i := 0) dX5_take_52 rfl rfl ?_
    refine zz_getf F dX5_take_53 wfRX5_47 zCl_5 rfl (⟨zlb rfl, zlb rfl, hi⟩) rfl (by decide) rfl rfl ?_
    refine zz_imul F dX5_take_56 ?_
    refine zz_imul F dX5_take_57 ?_
    refine zz_bipush F (v := (100 : Int32)) dX5_take_58 (by decide) ?_
    refine zz_idiv F dX5_take_60 (by decide) ?_
    refine zz_iconst F (v := (5 : Int32)) dX5_take_61 (by decide) ?_
    refine zz_bind ?_
    refine zz_callVr F (ρ := [0]) (so := fun q8 => []) (Mo := fun q8 => [q8]) (zfTu_lose i (((q5 7 i 10) * (((3 : Int32) * (q5 7 i 7)) * (q5 7 i 7))) / (100 : Int32)) (5 : Int32) hi q5) dX5_take_62 wcRX5_110 wy_yX5_lose rfl ⟨rel3, rfl, rfl, Nat.le_of_ble_eq_true rfl, Nat.le_of_ble_eq_true rfl, Nat.le_of_ble_eq_true rfl⟩ (⟨zlb rfl, zlb rfl, hi⟩) rfl rfl rfl (fun _ => rfl) (fun _ => rfl) fun q8 => ?_
    refine zz_goto F (tgt := 80) dX5_take_65 (by decide) ?_
    exact zz_return F dX5_take_80 rfl (hκ _)
theorem zfTu_take (i : Nat) (a1 : Int32) (a2 : Int32) (hi : i < 8) (s0 : zM) : ∀ a, fTu_take i a1 a2 s0 = some a → zMet yX5_take cX5_take 3 none 2 43 [(0, [])] [zr 0 7 i, zi a1, zi a2] [s0] ((fun a => ((.inl ((fun _ => (none : Option zV)) a), (fun q => [q]) a) : zO)) a) := fun a ha => zMet_of (L0 := [some (zr 0 7 i), some (zi a1), some (zi a2)]) (φ := Option.bind (fTu_take i a1 a2 s0) (fun a => some ((fun a => ((.inl ((fun _ => (none : Option zV)) a), (fun q => [q]) a) : zO)) a))) (by decide) (fun _ => Nat.le_of_ble_eq_true rfl) (zl0 0 rfl) (fun X F => bfTu_take F i a1 a2 hi s0 (fun _ => rfl)) (by rw [ha]; rfl)

theorem dX0_limit_0 : decode cX0_limit 0 = .ok (.aload_n 0, 1) := by decide +kernel
theorem dX0_limit_1 : decode cX0_limit 1 = .ok (.getfield 7, 3) := by decide +kernel
theorem dX0_limit_4 : decode cX0_limit 4 = .ok (.aload_n 0, 1) := by decide +kernel
theorem dX0_limit_5 : decode cX0_limit 5 = .ok (.getfield 13, 3) := by decide +kernel
theorem dX0_limit_8 : decode cX0_limit 8 = .ok (.bipush 10, 2) := by decide +kernel
theorem dX0_limit_10 : decode cX0_limit 10 = .ok (.idiv, 1) := by decide +kernel
theorem dX0_limit_11 : decode cX0_limit 11 = .ok (.isub, 1) := by decide +kernel
theorem dX0_limit_12 : decode cX0_limit 12 = .ok (.ireturn, 1) := by decide +kernel
theorem wfRX0_7 : zFl RX0 7 0 0 := ⟨_, rfl, by decide, zm_f 230 (by decide +kernel) rfl⟩
theorem wfRX0_13 : zFl RX0 13 0 1 := ⟨_, rfl, by decide, zm_f 233 (by decide +kernel) rfl⟩
def fCa_limit (i : Nat) (s0 : zM) : Option (Int32) :=
  some ((s0 12 i 0) - ((s0 12 i 1) / (10 : Int32)))
set_option maxHeartbeats 4000000 in
set_option maxRecDepth 20000 in
theorem bfCa_limit {X : zX} (F : zFr X cX0_limit 1 RX0 (some .int)) (i : Nat) (hi : i < 3) (s0 : zM) {κ : Int32 → Option zO} (hκ : ∀ a, κ a = some ((fun a => ((.inl ((fun q => some (zi q)) a), (fun _ => [s0]) a) : zO)) a)) : zZ X [(0, [])] 0 0 1 0 [some (zr 0 12 i)] [] [s0] (Option.bind (fCa_limit i s0) κ) := by
  unfold fCa_limit
  refine zz_aload_n F (i := 0) dX0_limit_0 rfl rfl ?_
  refine zz_getf F dX0_limit_1 wfRX0_7 zCl_0 rfl (⟨zlb rfl, zlb rfl, hi⟩) rfl (by decide) rfl rfl ?_
  refine zz_aload_n F (i := 0) dX0_limit_4 rfl rfl ?_
  refine zz_getf F dX0_limit_5 wfRX0_13 zCl_0 rfl (⟨zlb rfl, zlb rfl, hi⟩) rfl (by decide) rfl rfl ?_
  refine zz_bipush F (v := (10 : Int32)) dX0_limit_8 (by decide) ?_
  refine zz_idiv F dX0_limit_10 (by decide) ?_
  refine zz_isub F dX0_limit_11 ?_
  exact zz_ireturn F dX0_limit_12 rfl (hκ _)
theorem zfCa_limit (i : Nat) (hi : i < 3) (s0 : zM) : ∀ a, fCa_limit i s0 = some a → zMet yX0_limit cX0_limit 1 (some .int) 0 0 [(0, [])] [zr 0 12 i] [s0] ((fun a => ((.inl ((fun q => some (zi q)) a), (fun _ => [s0]) a) : zO)) a) := fun a ha => zMet_of (L0 := [some (zr 0 12 i)]) (φ := Option.bind (fCa_limit i s0) (fun a => some ((fun a => ((.inl ((fun q => some (zi q)) a), (fun _ => [s0]) a) : zO)) a))) (by decide) (fun _ => Nat.le_of_ble_eq_true rfl) (zl0 0 rfl) (fun X F => bfCa_limit F i hi s0 (fun _ => rfl)) (by rw [ha]; rfl)

theorem dX3_isOn_0 : decode cX3_isOn 0 = .ok (.iload_n 2, 1) := by decide +kernel
theorem dX3_isOn_1 : decode cX3_isOn 1 = .ok (.iconst (-1), 1) := by decide +kernel
theorem dX3_isOn_2 : decode cX3_isOn 2 = .ok (.if_icmp .eq 16, 3) := by decide +kernel
theorem dX3_isOn_5 : decode cX3_isOn 5 = .ok (.aload_n 0, 1) := by decide +kernel
theorem dX3_isOn_6 : decode cX3_isOn 6 = .ok (.getfield 11, 3) := by decide +kernel
theorem dX3_isOn_9 : decode cX3_isOn 9 = .ok (.iload_n 1, 1) := by decide +kernel
theorem dX3_isOn_10 : decode cX3_isOn 10 = .ok (.aaload, 1) := by decide +kernel
theorem dX3_isOn_11 : decode cX3_isOn 11 = .ok (.getfield 65, 3) := by decide +kernel
theorem dX3_isOn_14 : decode cX3_isOn 14 = .ok (.iload_n 2, 1) := by decide +kernel
theorem dX3_isOn_15 : decode cX3_isOn 15 = .ok (.if_icmp .ne 7, 3) := by decide +kernel
theorem dX3_isOn_18 : decode cX3_isOn 18 = .ok (.iconst 1, 1) := by decide +kernel
theorem dX3_isOn_19 : decode cX3_isOn 19 = .ok (.goto 4, 3) := by decide +kernel
theorem dX3_isOn_22 : decode cX3_isOn 22 = .ok (.iconst 0, 1) := by decide +kernel
theorem dX3_isOn_23 : decode cX3_isOn 23 = .ok (.ireturn, 1) := by decide +kernel
theorem wfRX3_65 : zFl RX3 65 5 2 := ⟨_, rfl, by decide, zm_f 169 (by decide +kernel) rfl⟩
def fSe_isOn (a1 : Int32) (a2 : Int32) (s0 : zM) : Option (Int32) :=
  if a2 = (-1 : Int32) then
  some (1 : Int32)
else
  zix a1 8 fun j1 =>
    if (s0 7 j1 2) = a2 then
    some (1 : Int32)
  else
    some (0 : Int32)
set_option maxHeartbeats 4000000 in
set_option maxRecDepth 20000 in
theorem bfSe_isOn {X : zX} (F : zFr X cX3_isOn 3 RX3 (some .boolean)) (a1 : Int32) (a2 : Int32)  (s0 : zM) {κ : Int32 → Option zO} (hκ : ∀ a, κ a = some ((fun a => ((.inl ((fun q => some (zi q)) a), (fun _ => [s0]) a) : zO)) a)) : zZ X [(0, [])] 0 0 3 0 [some (zr 0 0 0), some (zi a1), some (zi a2)] [] [s0] (Option.bind (fSe_isOn a1 a2 s0) κ) := by
  unfold fSe_isOn
  refine zz_iload_n F (i := 2) dX3_isOn_0 rfl rfl ?_
  refine zz_iconst F (v := (-1 : Int32)) dX3_isOn_1 (by decide) ?_
  refine zz_icmp_eq F (tgt := 18) dX3_isOn_2 (by decide) (fun h => zz_t h ?_) (fun h => zz_f h ?_)
  · refine zz_iconst F (v := (1 : Int32)) dX3_isOn_18 (by decide) ?_
    refine zz_goto F (tgt := 23) dX3_isOn_19 (by decide) ?_
    exact zz_zreturn F dX3_isOn_23 rfl rfl (hκ _)
  · refine zz_aload_n F (i := 0) dX3_isOn_5 rfl rfl ?_
    refine zz_getr F dX3_isOn_6 wfRX3_11 zCl_3 rfl (⟨zlb rfl, zlb rfl, zlb rfl⟩) rfl (by decide) rfl (r' := 0) (by decide) ?_
    refine zz_iload_n F (i := 1) dX3_isOn_9 rfl rfl ?_
    refine zz_ix fun j1 hj1 hinj1 hej1 => zz_aal F dX3_isOn_10 rfl (⟨zlb rfl, zlb rfl, zlb rfl⟩) rfl (by decide) rfl hinj1 hej1 rfl ?_
    refine zz_getf F dX3_isOn_11 wfRX3_65 zCl_5 rfl (⟨zlb rfl, zlb rfl, hj1⟩) rfl (by decide) rfl rfl ?_
    refine zz_iload_n F (i := 2) dX3_isOn_14 rfl rfl ?_
    refine zz_icmp_ne F (tgt := 22) dX3_isOn_15 (by decide) (fun h => zz_f h ?_) (fun h => zz_t h ?_)
    · refine zz_iconst F (v := (0 : Int32)) dX3_isOn_22 (by decide) ?_
      exact zz_zreturn F dX3_isOn_23 rfl rfl (hκ _)
    · refine zz_iconst F (v := (1 : Int32)) dX3_isOn_18 (by decide) ?_
      refine zz_goto F (tgt := 23) dX3_isOn_19 (by decide) ?_
      exact zz_zreturn F dX3_isOn_23 rfl rfl (hκ _)
theorem zfSe_isOn (a1 : Int32) (a2 : Int32)  (s0 : zM) : ∀ a, fSe_isOn a1 a2 s0 = some a → zMet yX3_isOn cX3_isOn 3 (some .boolean) 0 0 [(0, [])] [zr 0 0 0, zi a1, zi a2] [s0] ((fun a => ((.inl ((fun q => some (zi q)) a), (fun _ => [s0]) a) : zO)) a) := fun a ha => zMet_of (L0 := [some (zr 0 0 0), some (zi a1), some (zi a2)]) (φ := Option.bind (fSe_isOn a1 a2 s0) (fun a => some ((fun a => ((.inl ((fun q => some (zi q)) a), (fun _ => [s0]) a) : zO)) a))) (by decide) (fun _ => Nat.le_of_ble_eq_true rfl) (zl0 0 rfl) (fun X F => bfSe_isOn F a1 a2 s0 (fun _ => rfl)) (by rw [ha]; rfl)

theorem dX3_giveUp_0 : decode cX3_giveUp 0 = .ok (.iconst 0, 1) := by decide +kernel
theorem dX3_giveUp_1 : decode cX3_giveUp 1 = .ok (.istore 4, 2) := by decide +kernel
theorem dX3_giveUp_3 : decode cX3_giveUp 3 = .ok (.iconst 0, 1) := by decide +kernel
theorem dX3_giveUp_4 : decode cX3_giveUp 4 = .ok (.istore 5, 2) := by decide +kernel
theorem dX3_giveUp_6 : decode cX3_giveUp 6 = .ok (.iload 5, 2) := by decide +kernel
theorem dX3_giveUp_8 : decode cX3_giveUp 8 = .ok (.aload_n 0, 1) := by decide +kernel
theorem dX3_giveUp_9 : decode cX3_giveUp 9 = .ok (.getfield 56, 3) := by decide +kernel
theorem dX3_giveUp_12 : decode cX3_giveUp 12 = .ok (.if_icmp .ge 38, 3) := by decide +kernel
theorem dX3_giveUp_15 : decode cX3_giveUp 15 = .ok (.iload 4, 2) := by decide +kernel
theorem dX3_giveUp_17 : decode cX3_giveUp 17 = .ok (.aload_n 0, 1) := by decide +kernel
theorem dX3_giveUp_18 : decode cX3_giveUp 18 = .ok (.iload 5, 2) := by decide +kernel
theorem dX3_giveUp_20 : decode cX3_giveUp 20 = .ok (.iload_n 1, 1) := by decide +kernel
theorem dX3_giveUp_21 : decode cX3_giveUp 21 = .ok (.invokevirtual 189, 3) := by decide +kernel
theorem dX3_giveUp_24 : decode cX3_giveUp 24 = .ok (.ifCond .eq 16, 3) := by decide +kernel
theorem dX3_giveUp_27 : decode cX3_giveUp 27 = .ok (.aload_n 0, 1) := by decide +kernel
theorem dX3_giveUp_28 : decode cX3_giveUp 28 = .ok (.getfield 11, 3) := by decide +kernel
theorem dX3_giveUp_31 : decode cX3_giveUp 31 = .ok (.iload 5, 2) := by decide +kernel
theorem dX3_giveUp_33 : decode cX3_giveUp 33 = .ok (.aaload, 1) := by decide +kernel
theorem dX3_giveUp_34 : decode cX3_giveUp 34 = .ok (.getfield 193, 3) := by decide +kernel
theorem dX3_giveUp_37 : decode cX3_giveUp 37 = .ok (.goto 4, 3) := by decide +kernel
theorem dX3_giveUp_40 : decode cX3_giveUp 40 = .ok (.iconst 0, 1) := by decide +kernel
theorem dX3_giveUp_41 : decode cX3_giveUp 41 = .ok (.iadd, 1) := by decide +kernel
theorem dX3_giveUp_42 : decode cX3_giveUp 42 = .ok (.istore 4, 2) := by decide +kernel
theorem dX3_giveUp_44 : decode cX3_giveUp 44 = .ok (.iinc 5 1, 3) := by decide +kernel
theorem dX3_giveUp_47 : decode cX3_giveUp 47 = .ok (.goto (-41), 3) := by decide +kernel
theorem dX3_giveUp_50 : decode cX3_giveUp 50 = .ok (.iload 4, 2) := by decide +kernel
theorem dX3_giveUp_52 : decode cX3_giveUp 52 = .ok (.iload_n 2, 1) := by decide +kernel
theorem dX3_giveUp_53 : decode cX3_giveUp 53 = .ok (.isub, 1) := by decide +kernel
theorem dX3_giveUp_54 : decode cX3_giveUp 54 = .ok (.istore 5, 2) := by decide +kernel
theorem dX3_giveUp_56 : decode cX3_giveUp 56 = .ok (.iload 5, 2) := by decide +kernel
theorem dX3_giveUp_58 : decode cX3_giveUp 58 = .ok (.ifCond .le 8, 3) := by decide +kernel
theorem dX3_giveUp_61 : decode cX3_giveUp 61 = .ok (.iload 4, 2) := by decide +kernel
theorem dX3_giveUp_63 : decode cX3_giveUp 63 = .ok (.ifCond .gt 6, 3) := by decide +kernel
theorem dX3_giveUp_66 : decode cX3_giveUp 66 = .ok (.iload 4, 2) := by decide +kernel
theorem dX3_giveUp_68 : decode cX3_giveUp 68 = .ok (.ireturn, 1) := by decide +kernel
theorem dX3_giveUp_69 : decode cX3_giveUp 69 = .ok (.iload 5, 2) := by decide +kernel
theorem dX3_giveUp_71 : decode cX3_giveUp 71 = .ok (.istore 6, 2) := by decide +kernel
theorem dX3_giveUp_73 : decode cX3_giveUp 73 = .ok (.iconst 0, 1) := by decide +kernel
theorem dX3_giveUp_74 : decode cX3_giveUp 74 = .ok (.istore 7, 2) := by decide +kernel
theorem dX3_giveUp_76 : decode cX3_giveUp 76 = .ok (.iload 7, 2) := by decide +kernel
theorem dX3_giveUp_78 : decode cX3_giveUp 78 = .ok (.aload_n 0, 1) := by decide +kernel
theorem dX3_giveUp_79 : decode cX3_giveUp 79 = .ok (.getfield 56, 3) := by decide +kernel
theorem dX3_giveUp_82 : decode cX3_giveUp 82 = .ok (.if_icmp .ge 57, 3) := by decide +kernel
theorem dX3_giveUp_85 : decode cX3_giveUp 85 = .ok (.aload_n 0, 1) := by decide +kernel
theorem dX3_giveUp_86 : decode cX3_giveUp 86 = .ok (.iload 7, 2) := by decide +kernel
theorem dX3_giveUp_88 : decode cX3_giveUp 88 = .ok (.iload_n 1, 1) := by decide +kernel
theorem dX3_giveUp_89 : decode cX3_giveUp 89 = .ok (.invokevirtual 189, 3) := by decide +kernel
theorem dX3_giveUp_92 : decode cX3_giveUp 92 = .ok (.ifCond .eq 41, 3) := by decide +kernel
theorem dX3_giveUp_95 : decode cX3_giveUp 95 = .ok (.aload_n 0, 1) := by decide +kernel
theorem dX3_giveUp_96 : decode cX3_giveUp 96 = .ok (.getfield 11, 3) := by decide +kernel
theorem dX3_giveUp_99 : decode cX3_giveUp 99 = .ok (.iload 7, 2) := by decide +kernel
theorem dX3_giveUp_101 : decode cX3_giveUp 101 = .ok (.aaload, 1) := by decide +kernel
theorem dX3_giveUp_102 : decode cX3_giveUp 102 = .ok (.getfield 193, 3) := by decide +kernel
theorem dX3_giveUp_105 : decode cX3_giveUp 105 = .ok (.iload 5, 2) := by decide +kernel
theorem dX3_giveUp_107 : decode cX3_giveUp 107 = .ok (.imul, 1) := by decide +kernel
theorem dX3_giveUp_108 : decode cX3_giveUp 108 = .ok (.iload 4, 2) := by decide +kernel
theorem dX3_giveUp_110 : decode cX3_giveUp 110 = .ok (.idiv, 1) := by decide +kernel
theorem dX3_giveUp_111 : decode cX3_giveUp 111 = .ok (.istore 8, 2) := by decide +kernel
theorem dX3_giveUp_113 : decode cX3_giveUp 113 = .ok (.aload_n 0, 1) := by decide +kernel
theorem dX3_giveUp_114 : decode cX3_giveUp 114 = .ok (.getfield 11, 3) := by decide +kernel
theorem dX3_giveUp_117 : decode cX3_giveUp 117 = .ok (.iload 7, 2) := by decide +kernel
theorem dX3_giveUp_119 : decode cX3_giveUp 119 = .ok (.aaload, 1) := by decide +kernel
theorem dX3_giveUp_120 : decode cX3_giveUp 120 = .ok (.iload 8, 2) := by decide +kernel
theorem dX3_giveUp_122 : decode cX3_giveUp 122 = .ok (.iload_n 3, 1) := by decide +kernel
theorem dX3_giveUp_123 : decode cX3_giveUp 123 = .ok (.invokevirtual 196, 3) := by decide +kernel
theorem dX3_giveUp_126 : decode cX3_giveUp 126 = .ok (.iload 6, 2) := by decide +kernel
theorem dX3_giveUp_128 : decode cX3_giveUp 128 = .ok (.iload 8, 2) := by decide +kernel
theorem dX3_giveUp_130 : decode cX3_giveUp 130 = .ok (.isub, 1) := by decide +kernel
theorem dX3_giveUp_131 : decode cX3_giveUp 131 = .ok (.istore 6, 2) := by decide +kernel
theorem dX3_giveUp_133 : decode cX3_giveUp 133 = .ok (.iinc 7 1, 3) := by decide +kernel
theorem dX3_giveUp_136 : decode cX3_giveUp 136 = .ok (.goto (-60), 3) := by decide +kernel
theorem dX3_giveUp_139 : decode cX3_giveUp 139 = .ok (.iconst 0, 1) := by decide +kernel
theorem dX3_giveUp_140 : decode cX3_giveUp 140 = .ok (.istore 7, 2) := by decide +kernel
theorem dX3_giveUp_142 : decode cX3_giveUp 142 = .ok (.iload 7, 2) := by decide +kernel
theorem dX3_giveUp_144 : decode cX3_giveUp 144 = .ok (.aload_n 0, 1) := by decide +kernel
theorem dX3_giveUp_145 : decode cX3_giveUp 145 = .ok (.getfield 56, 3) := by decide +kernel
theorem dX3_giveUp_148 : decode cX3_giveUp 148 = .ok (.if_icmp .ge 52, 3) := by decide +kernel
theorem dX3_giveUp_151 : decode cX3_giveUp 151 = .ok (.iload 6, 2) := by decide +kernel
theorem dX3_giveUp_153 : decode cX3_giveUp 153 = .ok (.ifCond .le 47, 3) := by decide +kernel
theorem dX3_giveUp_156 : decode cX3_giveUp 156 = .ok (.aload_n 0, 1) := by decide +kernel
theorem dX3_giveUp_157 : decode cX3_giveUp 157 = .ok (.iload 7, 2) := by decide +kernel
theorem dX3_giveUp_159 : decode cX3_giveUp 159 = .ok (.iload_n 1, 1) := by decide +kernel
theorem dX3_giveUp_160 : decode cX3_giveUp 160 = .ok (.invokevirtual 189, 3) := by decide +kernel
theorem dX3_giveUp_163 : decode cX3_giveUp 163 = .ok (.ifCond .eq 31, 3) := by decide +kernel
theorem dX3_giveUp_166 : decode cX3_giveUp 166 = .ok (.aload_n 0, 1) := by decide +kernel
theorem dX3_giveUp_167 : decode cX3_giveUp 167 = .ok (.getfield 11, 3) := by decide +kernel
theorem dX3_giveUp_170 : decode cX3_giveUp 170 = .ok (.iload 7, 2) := by decide +kernel
theorem dX3_giveUp_172 : decode cX3_giveUp 172 = .ok (.aaload, 1) := by decide +kernel
theorem dX3_giveUp_173 : decode cX3_giveUp 173 = .ok (.getfield 193, 3) := by decide +kernel
theorem dX3_giveUp_176 : decode cX3_giveUp 176 = .ok (.ifCond .le 18, 3) := by decide +kernel
theorem dX3_giveUp_179 : decode cX3_giveUp 179 = .ok (.aload_n 0, 1) := by decide +kernel
theorem dX3_giveUp_180 : decode cX3_giveUp 180 = .ok (.getfield 11, 3) := by decide +kernel
theorem dX3_giveUp_183 : decode cX3_giveUp 183 = .ok (.iload 7, 2) := by decide +kernel
theorem dX3_giveUp_185 : decode cX3_giveUp 185 = .ok (.aaload, 1) := by decide +kernel
theorem dX3_giveUp_186 : decode cX3_giveUp 186 = .ok (.iconst 1, 1) := by decide +kernel
theorem dX3_giveUp_187 : decode cX3_giveUp 187 = .ok (.iload_n 3, 1) := by decide +kernel
theorem dX3_giveUp_188 : decode cX3_giveUp 188 = .ok (.invokevirtual 196, 3) := by decide +kernel
theorem dX3_giveUp_191 : decode cX3_giveUp 191 = .ok (.iinc 6 (-1), 3) := by decide +kernel
theorem dX3_giveUp_194 : decode cX3_giveUp 194 = .ok (.iinc 7 1, 3) := by decide +kernel
theorem dX3_giveUp_197 : decode cX3_giveUp 197 = .ok (.goto (-55), 3) := by decide +kernel
theorem dX3_giveUp_200 : decode cX3_giveUp 200 = .ok (.iload_n 2, 1) := by decide +kernel
theorem dX3_giveUp_201 : decode cX3_giveUp 201 = .ok (.ireturn, 1) := by decide +kernel
theorem wcRX3_189 : Cond.methodLink RX3 189 yX3_isOn ∈ zTg ∧ Cond.instanceMethod yX3_isOn ∈ zTg ∧ Cond.selects RX3 yX3_isOn yX3_isOn ∈ zTg ∧ Cond.initialized RX3 ∈ zTg ∧ Cond.code yX3_isOn cX3_isOn 3 (some .boolean) ∈ zTg := ⟨zm_f 660 (by decide +kernel) rfl, zm_f 662 (by decide +kernel) rfl, zm_f 10 (by decide +kernel) rfl, zm_f 38 (by decide +kernel) rfl, zm_f 663 (by decide +kernel) rfl⟩
theorem wy_yX3_isOn : yX3_isOn.cls = RX3 ∧ yX3_isOn.cls ≠ "java/lang/invoke/MethodHandle" ∧ yX3_isOn.cls ≠ "java/lang/invoke/VarHandle" ∧ (parseMethodDescriptor yX3_isOn.desc).map (fun d => d.parameters.length) = some 2 := by decide +kernel
theorem wfRX3_193 : zFl RX3 193 5 10 := ⟨_, rfl, by decide, zm_f 187 (by decide +kernel) rfl⟩
theorem wcRX3_196 : Cond.methodLink RX3 196 yX5_lose ∈ zTg ∧ Cond.instanceMethod yX5_lose ∈ zTg ∧ Cond.selects RX5 yX5_lose yX5_lose ∈ zTg ∧ Cond.initialized RX5 ∈ zTg ∧ Cond.code yX5_lose cX5_lose 3 none ∈ zTg := ⟨zm_f 664 (by decide +kernel) rfl, zm_f 641 (by decide +kernel) rfl, zm_f 642 (by decide +kernel) rfl, zm_f 41 (by decide +kernel) rfl, zm_f 643 (by decide +kernel) rfl⟩
def fSe_giveUp_l6 (a1 : Int32) (s0 : zM) (q1 : Int32 × Int32) : Option ((Int32 × Int32) ⊕ ((Int32))) :=
  if (s0 0 0 5) ≤ q1.2 then
  some (.inr q1.1)
else
  Option.bind (fSe_isOn q1.2 a1 s0) fun q3 =>
    Option.bind (if q3 = 0 then
    some (0 : Int32)
  else
    zix q1.2 8 fun j8 =>
      some (s0 7 j8 10)) fun q4 =>
    zlet ((q1.1 + q4)) fun v9 =>
    zlet (q1.2 + 1) fun v10 =>
    some (.inl (v9, v10))
def fSe_giveUp_l76 (a1 : Int32) (a3 : Int32) (q2 : (Int32)) (v11 : Int32) (q12 : Int32 × Int32 × zM) : Option ((Int32 × Int32 × zM) ⊕ ((Int32 × zM))) :=
  if (q12.2.2 0 0 5) ≤ q12.2.1 then
  some (.inr (q12.1, q12.2.2))
else
  Option.bind (fSe_isOn q12.2.1 a1 q12.2.2) fun q14 =>
    Option.bind (if q14 = 0 then
    some (q12.1, q12.2.2)
  else
    zix q12.2.1 8 fun j19 =>
      zg (¬ q2 = 0) (
      zlet ((((q12.2.2 7 j19 10) * v11) / q2)) fun v20 =>
      zix q12.2.1 8 fun j21 =>
      Option.bind (fTu_lose j21 v20 a3 q12.2.2) fun q22 =>
      zlet ((q12.1 - v20)) fun v23 =>
      some (v23, q22))) fun q15 =>
    zlet (q12.2.1 + 1) fun v24 =>
    some (.inl (q15.1, v24, q15.2))
def fSe_giveUp_l142 (a1 : Int32) (a3 : Int32) (q25 : Int32 × Int32 × zM) : Option ((Int32 × Int32 × zM) ⊕ ((zM))) :=
  if (q25.2.2 0 0 5) ≤ q25.2.1 then
  some (.inr q25.2.2)
else
  if q25.1 ≤ 0 then
    some (.inr q25.2.2)
  else
    Option.bind (fSe_isOn q25.2.1 a1 q25.2.2) fun q27 =>
      Option.bind (if q27 = 0 then
      some (q25.1, q25.2.2)
    else
      zix q25.2.1 8 fun j32 =>
        if (q25.2.2 7 j32 10) ≤ 0 then
        some (q25.1, q25.2.2)
      else
        zix q25.2.1 8 fun j33 =>
          Option.bind (fTu_lose j33 (1 : Int32) a3 q25.2.2) fun q34 =>
          zlet (q25.1 + (-1)) fun v35 =>
          some (v35, q34)) fun q28 =>
      zlet (q25.2.1 + 1) fun v36 =>
      some (.inl (q28.1, v36, q28.2))
def fSe_giveUp (a1 : Int32) (a2 : Int32) (a3 : Int32) (s0 : zM) : Option (Int32 × zM) :=
  Option.bind (ziter (fSe_giveUp_l6 a1 s0) 1000 ((0 : Int32), (0 : Int32))) fun q2 =>
  zlet ((q2 - a2)) fun v11 =>
  if v11 ≤ 0 then
  some (q2, s0)
else
  if 0 < q2 then
    Option.bind (ziter (fSe_giveUp_l76 a1 a3 q2 v11) 1000 (v11, (0 : Int32), s0)) fun q13 =>
      Option.bind (ziter (fSe_giveUp_l142 a1 a3) 1000 (q13.1, (0 : Int32), q13.2)) fun q26 =>
      some (a2, q26)
  else
    some (q2, s0)
set_option maxHeartbeats 4000000 in
set_option maxRecDepth 20000 in
theorem bfSe_giveUp_l6 {X : zX} (F : zFr X cX3_giveUp 9 RX3 (some .int)) (a1 : Int32) (s0 : zM) (a2 : Int32) (a3 : Int32)  {ψ : (Int32 × Int32) ⊕ ((Int32)) → Option zO} (h1 : ∀ q1 : Int32 × Int32, zZ X [(0, [])] 1 22 9 6 [some (zr 0 0 0), some (zi a1), some (zi a2), some (zi a3), some (zi q1.1), some (zi q1.2), none, none, none] [] [s0] (ψ (.inl q1))) (h2 : ∀ q2 : Int32, zZ X [(0, [])] 1 22 9 50 [some (zr 0 0 0), some (zi a1), some (zi a2), some (zi a3), some (zi q2), none, none, none, none] [] [s0] (ψ (.inr q2))) (q1 : Int32 × Int32) : zZ X [(0, [])] 1 22 9 6 [some (zr 0 0 0), some (zi a1), some (zi a2), some (zi a3), some (zi q1.1), some (zi q1.2), none, none, none] [] [s0] (Option.bind (fSe_giveUp_l6 a1 s0 q1) ψ) := by
  unfold fSe_giveUp_l6
  refine zz_iload F (i := 5) dX3_giveUp_6 rfl ?_
  refine zz_aload_n F (i := 0) dX3_giveUp_8 rfl rfl ?_
  refine zz_getf F dX3_giveUp_9 wfRX3_56 zCl_3 rfl (⟨zlb rfl, zlb rfl, zlb rfl⟩) rfl (by decide) rfl rfl ?_
  refine zz_icmp_ge F (tgt := 50) dX3_giveUp_12 (by decide) (fun h => zz_t h ?_) (fun h => zz_f h ?_)
  · exact zz_sub (zs_k (zs_k (zs_k (zs_k (zs_k (zs_n (zs_k (zs_k (zs_k zs_z))))))))) (h2 q1.1)
  · refine zz_iload F (i := 4) dX3_giveUp_15 rfl ?_
    refine zz_aload_n F (i := 0) dX3_giveUp_17 rfl rfl ?_
    refine zz_iload F (i := 5) dX3_giveUp_18 rfl ?_
    refine zz_iload_n F (i := 1) dX3_giveUp_20 rfl rfl ?_
    refine zz_bind ?_
    refine zz_callVr F (ρ := [0]) (so := fun q3 => [zi q3, zi q1.1]) (Mo := fun q3 => [s0]) (zfSe_isOn q1.2 a1 s0) dX3_giveUp_21 wcRX3_189 wy_yX3_isOn rfl ⟨rel3, rfl, rfl, Nat.le_of_ble_eq_true rfl, Nat.le_of_ble_eq_true rfl, Nat.le_of_ble_eq_true rfl⟩ (⟨zlb rfl, zlb rfl, zlb rfl⟩) rfl rfl rfl (fun _ => rfl) (fun _ => rfl) fun q3 => ?_
    refine zz_join (pj := 41) (Lj := fun q4 => [some (zr 0 0 0), some (zi a1), some (zi a2), some (zi a3), none, some (zi q1.2), none, none, none]) (Sj := fun q4 => [zi q4, zi q1.1]) (Mj := fun q4 => [s0]) (fun q4 => ?_) (fun κ6 hj5 => ?_)
    · refine zz_iadd F dX3_giveUp_41 ?_
      refine zz_istore F (i := 4) (L' := [some (zr 0 0 0), some (zi a1), some (zi a2), some (zi a3), some (zi (q1.1 + q4)), some (zi q1.2), none, none, none]) dX3_giveUp_42 (by decide) rfl rfl ?_
      refine zz_letl (Lf := fun v9 => [some (zr 0 0 0), some (zi a1), some (zi a2), some (zi a3), some (zi v9), some (zi q1.2), none, none, none]) fun v9 => ?_
      refine zz_iinc F (i := 5) (v := q1.2 + 1) (L' := [some (zr 0 0 0), some (zi a1), some (zi a2), some (zi a3), some (zi v9), some (zi (q1.2 + 1)), none, none, none]) dX3_giveUp_44 rfl (by first | rfl | decide) (by decide) rfl rfl ?_
      refine zz_letl (Lf := fun v10 => [some (zr 0 0 0), some (zi a1), some (zi a2), some (zi a3), some (zi v9), some (zi v10), none, none, none]) fun v10 => ?_
      refine zz_goto F (tgt := 6) dX3_giveUp_47 (by decide) ?_
      exact zz_sub (zs_k (zs_k (zs_k (zs_k (zs_k (zs_k (zs_k (zs_k (zs_k zs_z))))))))) (h1 (v9, v10))
    · refine zz_if_eq F (tgt := 40) dX3_giveUp_24 (by decide) (fun h => zz_t h ?_) (fun h => zz_f h ?_)
      · refine zz_iconst F (v := (0 : Int32)) dX3_giveUp_40 (by decide) ?_
        exact zz_sub (zs_k (zs_k (zs_k (zs_k (zs_n (zs_k (zs_k (zs_k (zs_k zs_z))))))))) (hj5 (0 : Int32))
      · refine zz_aload_n F (i := 0) dX3_giveUp_27 rfl rfl ?_
        refine zz_getr F dX3_giveUp_28 wfRX3_11 zCl_3 rfl (⟨zlb rfl, zlb rfl, zlb rfl⟩) rfl (by decide) rfl (r' := 0) (by decide) ?_
        refine zz_iload F (i := 5) dX3_giveUp_31 rfl ?_
        refine zz_ix fun j8 hj8 hinj8 hej8 => zz_aal F dX3_giveUp_33 rfl (⟨zlb rfl, zlb rfl, zlb rfl⟩) rfl (by decide) rfl hinj8 hej8 rfl ?_
        refine zz_getf F dX3_giveUp_34 wfRX3_193 zCl_5 rfl (⟨zlb rfl, zlb rfl, hj8⟩) rfl (by decide) rfl rfl ?_
        refine zz_goto F (tgt := 41) dX3_giveUp_37 (by decide) ?_
        exact zz_sub (zs_k (zs_k (zs_k (zs_k (zs_n (zs_k (zs_k (zs_k (zs_k zs_z))))))))) (hj5 (s0 7 j8 10))
set_option maxHeartbeats 4000000 in
set_option maxRecDepth 20000 in
theorem bfSe_giveUp_l76 {X : zX} (F : zFr X cX3_giveUp 9 RX3 (some .int)) (a1 : Int32) (a3 : Int32) (q2 : (Int32)) (v11 : Int32) (a2 : Int32)  {ψ : (Int32 × Int32 × zM) ⊕ ((Int32 × zM)) → Option zO} (h1 : ∀ q12 : Int32 × Int32 × zM, zZ X [(0, [])] 1 22 9 76 [some (zr 0 0 0), some (zi a1), some (zi a2), some (zi a3), some (zi q2), some (zi v11), some (zi q12.1), some (zi q12.2.1), none] [] [q12.2.2] (ψ (.inl q12))) (h2 : ∀ q13 : Int32 × zM, zZ X [(0, [])] 1 22 9 139 [some (zr 0 0 0), some (zi a1), some (zi a2), some (zi a3), none, none, some (zi q13.1), none, none] [] [q13.2] (ψ (.inr q13))) (q12 : Int32 × Int32 × zM) : zZ X [(0, [])] 1 22 9 76 [some (zr 0 0 0), some (zi a1), some (zi a2), some (zi a3), some (zi q2), some (zi v11), some (zi q12.1), some (zi q12.2.1), none] [] [q12.2.2] (Option.bind (fSe_giveUp_l76 a1 a3 q2 v11 q12) ψ) := by
  unfold fSe_giveUp_l76
  refine zz_iload F (i := 7) dX3_giveUp_76 rfl ?_
  refine zz_aload_n F (i := 0) dX3_giveUp_78 rfl rfl ?_
  refine zz_getf F dX3_giveUp_79 wfRX3_56 zCl_3 rfl (⟨zlb rfl, zlb rfl, zlb rfl⟩) rfl (by decide) rfl rfl ?_
  refine zz_icmp_ge F (tgt := 139) dX3_giveUp_82 (by decide) (fun h => zz_t h ?_) (fun h => zz_f h ?_)
  · exact zz_sub (zs_k (zs_k (zs_k (zs_k (zs_n (zs_n (zs_k (zs_n (zs_k zs_z))))))))) (h2 (q12.1, q12.2.2))
  · refine zz_aload_n F (i := 0) dX3_giveUp_85 rfl rfl ?_
    refine zz_iload F (i := 7) dX3_giveUp_86 rfl ?_
    refine zz_iload_n F (i := 1) dX3_giveUp_88 rfl rfl ?_
    refine zz_bind ?_
    refine zz_callVr F (ρ := [0]) (so := fun q14 => [zi q14]) (Mo := fun q14 => [q12.2.2]) (zfSe_isOn q12.2.1 a1 q12.2.2) dX3_giveUp_89 wcRX3_189 wy_yX3_isOn rfl ⟨rel3, rfl, rfl, Nat.le_of_ble_eq_true rfl, Nat.le_of_ble_eq_true rfl, Nat.le_of_ble_eq_true rfl⟩ (⟨zlb rfl, zlb rfl, zlb rfl⟩) rfl rfl rfl (fun _ => rfl) (fun _ => rfl) fun q14 => ?_
    refine zz_join (pj := 133) (Lj := fun q15 => [some (zr 0 0 0), some (zi a1), some (zi a2), some (zi a3), some (zi q2), some (zi v11), some (zi q15.1), some (zi q12.2.1), none]) (Sj := fun q15 => []) (Mj := fun q15 => [q15.2]) (fun q15 => ?_) (fun κ17 hj16 => ?_)
    · refine zz_iinc F (i := 7) (v := q12.2.1 + 1) (L' := [some (zr 0 0 0), some (zi a1), some (zi a2), some (zi a3), some (zi q2), some (zi v11), some (zi q15.1), some (zi (q12.2.1 + 1)), none]) dX3_giveUp_133 rfl (by first | rfl | decide) (by decide) rfl rfl ?_
      refine zz_letl (Lf := fun v24 => [some (zr 0 0 0), some (zi a1), some (zi a2), some (zi a3), some (zi q2), some (zi v11), some (zi q15.1), some (zi v24), none]) fun v24 => ?_
      refine zz_goto F (tgt := 76) dX3_giveUp_136 (by decide) ?_
      exact zz_sub (zs_k (zs_k (zs_k (zs_k (zs_k (zs_k (zs_k (zs_k (zs_k zs_z))))))))) (h1 (q15.1, v24, q15.2))
    · refine zz_if_eq F (tgt := 133) dX3_giveUp_92 (by decide) (fun h => zz_t h ?_) (fun h => zz_f h ?_)
      · exact zz_sub (zs_k (zs_k (zs_k (zs_k (zs_k (zs_k (zs_k (zs_k (zs_k zs_z))))))))) (hj16 (q12.1, q12.2.2))
      · refine zz_aload_n F (i := 0) dX3_giveUp_95 rfl rfl ?_
        refine zz_getr F dX3_giveUp_96 wfRX3_11 zCl_3 rfl (⟨zlb rfl, zlb rfl, zlb rfl⟩) rfl (by decide) rfl (r' := 0) (by decide) ?_
        refine zz_iload F (i := 7) dX3_giveUp_99 rfl ?_
        refine zz_ix fun j19 hj19 hinj19 hej19 => zz_aal F dX3_giveUp_101 rfl (⟨zlb rfl, zlb rfl, zlb rfl⟩) rfl (by decide) rfl hinj19 hej19 rfl ?_
        refine zz_getf F dX3_giveUp_102 wfRX3_193 zCl_5 rfl (⟨zlb rfl, zlb rfl, hj19⟩) rfl (by decide) rfl rfl ?_
        refine zz_iload F (i := 5) dX3_giveUp_105 rfl ?_
        refine zz_imul F dX3_giveUp_107 ?_
        refine zz_iload F (i := 4) dX3_giveUp_108 rfl ?_
        refine zz_g fun h => zz_idiv F dX3_giveUp_110 h ?_
        refine zz_istore F (i := 8) (L' := [some (zr 0 0 0), some (zi a1), some (zi a2), some (zi a3), some (zi q2), some (zi v11), some (zi q12.1), some (zi q12.2.1), some (zi (((q12.2.2 7 j19 10) * v11) / q2))]) dX3_giveUp_111 (by decide) rfl rfl ?_
        refine zz_letl (Lf := fun v20 => [some (zr 0 0 0), some (zi a1), some (zi a2), some (zi a3), some (zi q2), some (zi v11), some (zi q12.1), some (zi q12.2.1), some (zi v20)]) fun v20 => ?_
        refine zz_aload_n F (i := 0) dX3_giveUp_113 rfl rfl ?_
        refine zz_getr F dX3_giveUp_114 wfRX3_11 zCl_3 rfl (⟨zlb rfl, zlb rfl, zlb rfl⟩) rfl (by decide) rfl (r' := 0) (by decide) ?_
        refine zz_iload F (i := 7) dX3_giveUp_117 rfl ?_
        refine zz_ix fun j21 hj21 hinj21 hej21 => zz_aal F dX3_giveUp_119 rfl (⟨zlb rfl, zlb rfl, zlb rfl⟩) rfl (by decide) rfl hinj21 hej21 rfl ?_
        refine zz_iload F (i := 8) dX3_giveUp_120 rfl ?_
        refine zz_iload_n F (i := 3) dX3_giveUp_122 rfl rfl ?_
        refine zz_bind ?_
        refine zz_callVr F (ρ := [0]) (so := fun q22 => []) (Mo := fun q22 => [q22]) (zfTu_lose j21 v20 a3 hj21 q12.2.2) dX3_giveUp_123 wcRX3_196 wy_yX5_lose rfl ⟨rel3, rfl, rfl, Nat.le_of_ble_eq_true rfl, Nat.le_of_ble_eq_true rfl, Nat.le_of_ble_eq_true rfl⟩ (⟨zlb rfl, zlb rfl, hj21⟩) rfl rfl rfl (fun _ => rfl) (fun _ => rfl) fun q22 => ?_
        refine zz_iload F (i := 6) dX3_giveUp_126 rfl ?_
        refine zz_iload F (i := 8) dX3_giveUp_128 rfl ?_
        refine zz_isub F dX3_giveUp_130 ?_
        refine zz_istore F (i := 6) (L' := [some (zr 0 0 0), some (zi a1), some (zi a2), some (zi a3), some (zi q2), some (zi v11), some (zi (q12.1 - v20)), some (zi q12.2.1), some (zi v20)]) dX3_giveUp_131 (by decide) rfl rfl ?_
        refine zz_letl (Lf := fun v23 => [some (zr 0 0 0), some (zi a1), some (zi a2), some (zi a3), some (zi q2), some (zi v11), some (zi v23), some (zi q12.2.1), some (zi v20)]) fun v23 => ?_
        exact zz_sub (zs_k (zs_k (zs_k (zs_k (zs_k (zs_k (zs_k (zs_k (zs_n zs_z))))))))) (hj16 (v23, q22))
set_option maxHeartbeats 4000000 in
set_option maxRecDepth 20000 in
theorem bfSe_giveUp_l142 {X : zX} (F : zFr X cX3_giveUp 9 RX3 (some .int)) (a1 : Int32) (a3 : Int32) (a2 : Int32)  {ψ : (Int32 × Int32 × zM) ⊕ ((zM)) → Option zO} (h1 : ∀ q25 : Int32 × Int32 × zM, zZ X [(0, [])] 1 22 9 142 [some (zr 0 0 0), some (zi a1), some (zi a2), some (zi a3), none, none, some (zi q25.1), some (zi q25.2.1), none] [] [q25.2.2] (ψ (.inl q25))) (h2 : ∀ q26 : zM, zZ X [(0, [])] 1 22 9 200 [none, none, some (zi a2), none, none, none, none, none, none] [] [q26] (ψ (.inr q26))) (q25 : Int32 × Int32 × zM) : zZ X [(0, [])] 1 22 9 142 [some (zr 0 0 0), some (zi a1), some (zi a2), some (zi a3), none, none, some (zi q25.1), some (zi q25.2.1), none] [] [q25.2.2] (Option.bind (fSe_giveUp_l142 a1 a3 q25) ψ) := by
  unfold fSe_giveUp_l142
  refine zz_iload F (i := 7) dX3_giveUp_142 rfl ?_
  refine zz_aload_n F (i := 0) dX3_giveUp_144 rfl rfl ?_
  refine zz_getf F dX3_giveUp_145 wfRX3_56 zCl_3 rfl (⟨zlb rfl, zlb rfl, zlb rfl⟩) rfl (by decide) rfl rfl ?_
  refine zz_icmp_ge F (tgt := 200) dX3_giveUp_148 (by decide) (fun h => zz_t h ?_) (fun h => zz_f h ?_)
  · exact zz_sub (zs_n (zs_n (zs_k (zs_n (zs_k (zs_k (zs_n (zs_n (zs_k zs_z))))))))) (h2 q25.2.2)
  · refine zz_iload F (i := 6) dX3_giveUp_151 rfl ?_
    refine zz_if_le F (tgt := 200) dX3_giveUp_153 (by decide) (fun h => zz_t h ?_) (fun h => zz_f h ?_)
    · exact zz_sub (zs_n (zs_n (zs_k (zs_n (zs_k (zs_k (zs_n (zs_n (zs_k zs_z))))))))) (h2 q25.2.2)
    · refine zz_aload_n F (i := 0) dX3_giveUp_156 rfl rfl ?_
      refine zz_iload F (i := 7) dX3_giveUp_157 rfl ?_
      refine zz_iload_n F (i := 1) dX3_giveUp_159 rfl rfl ?_
      refine zz_bind ?_
      refine zz_callVr F (ρ := [0]) (so := fun q27 => [zi q27]) (Mo := fun q27 => [q25.2.2]) (zfSe_isOn q25.2.1 a1 q25.2.2) dX3_giveUp_160 wcRX3_189 wy_yX3_isOn rfl ⟨rel3, rfl, rfl, Nat.le_of_ble_eq_true rfl, Nat.le_of_ble_eq_true rfl, Nat.le_of_ble_eq_true rfl⟩ (⟨zlb rfl, zlb rfl, zlb rfl⟩) rfl rfl rfl (fun _ => rfl) (fun _ => rfl) fun q27 => ?_
      refine zz_join (pj := 194) (Lj := fun q28 => [some (zr 0 0 0), some (zi a1), some (zi a2), some (zi a3), none, none, some (zi q28.1), some (zi q25.2.1), none]) (Sj := fun q28 => []) (Mj := fun q28 => [q28.2]) (fun q28 => ?_) (fun κ30 hj29 => ?_)
      · refine zz_iinc F (i := 7) (v := q25.2.1 + 1) (L' := [some (zr 0 0 0), some (zi a1), some (zi a2), some (zi a3), none, none, some (zi q28.1), some (zi (q25.2.1 + 1)), none]) dX3_giveUp_194 rfl (by first | rfl | decide) (by decide) rfl rfl ?_
        refine zz_letl (Lf := fun v36 => [some (zr 0 0 0), some (zi a1), some (zi a2), some (zi a3), none, none, some (zi q28.1), some (zi v36), none]) fun v36 => ?_
        refine zz_goto F (tgt := 142) dX3_giveUp_197 (by decide) ?_
        exact zz_sub (zs_k (zs_k (zs_k (zs_k (zs_k (zs_k (zs_k (zs_k (zs_k zs_z))))))))) (h1 (q28.1, v36, q28.2))
      · refine zz_if_eq F (tgt := 194) dX3_giveUp_163 (by decide) (fun h => zz_t h ?_) (fun h => zz_f h ?_)
        · exact zz_sub (zs_k (zs_k (zs_k (zs_k (zs_k (zs_k (zs_k (zs_k (zs_k zs_z))))))))) (hj29 (q25.1, q25.2.2))
        · refine zz_aload_n F (i := 0) dX3_giveUp_166 rfl rfl ?_
          refine zz_getr F dX3_giveUp_167 wfRX3_11 zCl_3 rfl (⟨zlb rfl, zlb rfl, zlb rfl⟩) rfl (by decide) rfl (r' := 0) (by decide) ?_
          refine zz_iload F (i := 7) dX3_giveUp_170 rfl ?_
          refine zz_ix fun j32 hj32 hinj32 hej32 => zz_aal F dX3_giveUp_172 rfl (⟨zlb rfl, zlb rfl, zlb rfl⟩) rfl (by decide) rfl hinj32 hej32 rfl ?_
          refine zz_getf F dX3_giveUp_173 wfRX3_193 zCl_5 rfl (⟨zlb rfl, zlb rfl, hj32⟩) rfl (by decide) rfl rfl ?_
          refine zz_if_le F (tgt := 194) dX3_giveUp_176 (by decide) (fun h => zz_t h ?_) (fun h => zz_f h ?_)
          · exact zz_sub (zs_k (zs_k (zs_k (zs_k (zs_k (zs_k (zs_k (zs_k (zs_k zs_z))))))))) (hj29 (q25.1, q25.2.2))
          · refine zz_aload_n F (i := 0) dX3_giveUp_179 rfl rfl ?_
            refine zz_getr F dX3_giveUp_180 wfRX3_11 zCl_3 rfl (⟨zlb rfl, zlb rfl, zlb rfl⟩) rfl (by decide) rfl (r' := 0) (by decide) ?_
            refine zz_iload F (i := 7) dX3_giveUp_183 rfl ?_
            refine zz_ix fun j33 hj33 hinj33 hej33 => zz_aal F dX3_giveUp_185 rfl (⟨zlb rfl, zlb rfl, zlb rfl⟩) rfl (by decide) rfl hinj33 hej33 rfl ?_
            refine zz_iconst F (v := (1 : Int32)) dX3_giveUp_186 (by decide) ?_
            refine zz_iload_n F (i := 3) dX3_giveUp_187 rfl rfl ?_
            refine zz_bind ?_
            refine zz_callVr F (ρ := [0]) (so := fun q34 => []) (Mo := fun q34 => [q34]) (zfTu_lose j33 (1 : Int32) a3 hj33 q25.2.2) dX3_giveUp_188 wcRX3_196 wy_yX5_lose rfl ⟨rel3, rfl, rfl, Nat.le_of_ble_eq_true rfl, Nat.le_of_ble_eq_true rfl, Nat.le_of_ble_eq_true rfl⟩ (⟨zlb rfl, zlb rfl, hj33⟩) rfl rfl rfl (fun _ => rfl) (fun _ => rfl) fun q34 => ?_
            refine zz_iinc F (i := 6) (v := q25.1 + (-1)) (L' := [some (zr 0 0 0), some (zi a1), some (zi a2), some (zi a3), none, none, some (zi (q25.1 + (-1))), some (zi q25.2.1), none]) dX3_giveUp_191 rfl (by first | rfl | decide) (by decide) rfl rfl ?_
            refine zz_letl (Lf := fun v35 => [some (zr 0 0 0), some (zi a1), some (zi a2), some (zi a3), none, none, some (zi v35), some (zi q25.2.1), none]) fun v35 => ?_
            exact zz_sub (zs_k (zs_k (zs_k (zs_k (zs_k (zs_k (zs_k (zs_k (zs_k zs_z))))))))) (hj29 (v35, q34))
set_option maxHeartbeats 4000000 in
set_option maxRecDepth 20000 in
theorem bfSe_giveUp {X : zX} (F : zFr X cX3_giveUp 9 RX3 (some .int)) (a1 : Int32) (a2 : Int32) (a3 : Int32)  (s0 : zM) {κ : Int32 × zM → Option zO} (hκ : ∀ a, κ a = some ((fun a => ((.inl ((fun q => some (zi q.1)) a), (fun q => [q.2]) a) : zO)) a)) : zZ X [(0, [])] 1 22 9 0 [some (zr 0 0 0), some (zi a1), some (zi a2), some (zi a3), none, none, none, none, none] [] [s0] (Option.bind (fSe_giveUp a1 a2 a3 s0) κ) := by
  unfold fSe_giveUp
  refine zz_iconst F (v := (0 : Int32)) dX3_giveUp_0 (by decide) ?_
  refine zz_istore F (i := 4) (L' := [some (zr 0 0 0), some (zi a1), some (zi a2), some (zi a3), some (zi (0 : Int32)), none, none, none, none]) dX3_giveUp_1 (by decide) rfl rfl ?_
  refine zz_iconst F (v := (0 : Int32)) dX3_giveUp_3 (by decide) ?_
  refine zz_istore F (i := 5) (L' := [some (zr 0 0 0), some (zi a1), some (zi a2), some (zi a3), some (zi (0 : Int32)), some (zi (0 : Int32)), none, none, none]) dX3_giveUp_4 (by decide) rfl rfl ?_
  refine zz_sub (zs_k (zs_k (zs_k (zs_k (zs_k (zs_k (zs_k (zs_k (zs_k zs_z))))))))) ?_
  refine zz_bind ?_
  refine zz_iter (Lf := fun q1 => [some (zr 0 0 0), some (zi a1), some (zi a2), some (zi a3), some (zi q1.1), some (zi q1.2), none, none, none]) (Mf := fun q1 => [s0]) (fun q1 _ e41 e42 => bfSe_giveUp_l6 F a1 s0 a2 a3  e41 (fun q2 => ?_)  q1) 1000 ((0 : Int32), (0 : Int32))
  rw [e42]
  refine zz_iload F (i := 4) dX3_giveUp_50 rfl ?_
  refine zz_iload_n F (i := 2) dX3_giveUp_52 rfl rfl ?_
  refine zz_isub F dX3_giveUp_53 ?_
  refine zz_istore F (i := 5) (L' := [some (zr 0 0 0), some (zi a1), some (zi a2), some (zi a3), some (zi q2), some (zi (q2 - a2)), none, none, none]) dX3_giveUp_54 (by decide) rfl rfl ?_
  refine zz_letl (Lf := fun v11 => [some (zr 0 0 0), some (zi a1), some (zi a2), some (zi a3), some (zi q2), some (zi v11), none, none, none]) fun v11 => ?_
  refine zz_iload F (i := 5) dX3_giveUp_56 rfl ?_
  refine zz_if_le F (tgt := 66) dX3_giveUp_58 (by decide) (fun h => zz_t h ?_) (fun h => zz_f h ?_)
  · refine zz_iload F (i := 4) dX3_giveUp_66 rfl ?_
    exact zz_ireturn F dX3_giveUp_68 rfl (hκ _)
  · refine zz_iload F (i := 4) dX3_giveUp_61 rfl ?_
    refine zz_if_gt F (tgt := 69) dX3_giveUp_63 (by decide) (fun h => zz_t h ?_) (fun h => zz_f h ?_)
    · refine zz_iload F (i := 5) dX3_giveUp_69 rfl ?_
      refine zz_istore F (i := 6) (L' := [some (zr 0 0 0), some (zi a1), some (zi a2), some (zi a3), some (zi q2), some (zi v11), some (zi v11), none, none]) dX3_giveUp_71 (by decide) rfl rfl ?_
      refine zz_iconst F (v := (0 : Int32)) dX3_giveUp_73 (by decide) ?_
      refine zz_istore F (i := 7) (L' := [some (zr 0 0 0), some (zi a1), some (zi a2), some (zi a3), some (zi q2), some (zi v11), some (zi v11), some (zi (0 : Int32)), none]) dX3_giveUp_74 (by decide) rfl rfl ?_
      refine zz_sub (zs_k (zs_k (zs_k (zs_k (zs_k (zs_k (zs_k (zs_k (zs_k zs_z))))))))) ?_
      refine zz_bind ?_
      refine zz_iter (Lf := fun q12 => [some (zr 0 0 0), some (zi a1), some (zi a2), some (zi a3), some (zi q2), some (zi v11), some (zi q12.1), some (zi q12.2.1), none]) (Mf := fun q12 => [q12.2.2]) (fun q12 _ e39 e40 => bfSe_giveUp_l76 F a1 a3 q2 v11 a2  e39 (fun q13 => ?_)  q12) 1000 (v11, (0 : Int32), s0)
      rw [e40]
      refine zz_iconst F (v := (0 : Int32)) dX3_giveUp_139 (by decide) ?_
      refine zz_istore F (i := 7) (L' := [some (zr 0 0 0), some (zi a1), some (zi a2), some (zi a3), none, none, some (zi q13.1), some (zi (0 : Int32)), none]) dX3_giveUp_140 (by decide) rfl rfl ?_
      refine zz_sub (zs_k (zs_k (zs_k (zs_k (zs_k (zs_k (zs_k (zs_k (zs_k zs_z))))))))) ?_
      refine zz_bind ?_
      refine zz_iter (Lf := fun q25 => [some (zr 0 0 0), some (zi a1), some (zi a2), some (zi a3), none, none, some (zi q25.1), some (zi q25.2.1), none]) (Mf := fun q25 => [q25.2.2]) (fun q25 _ e37 e38 => bfSe_giveUp_l142 F a1 a3 a2  e37 (fun q26 => ?_)  q25) 1000 (q13.1, (0 : Int32), q13.2)
      rw [e38]
      refine zz_iload_n F (i := 2) dX3_giveUp_200 rfl rfl ?_
      exact zz_ireturn F dX3_giveUp_201 rfl (hκ _)
    · refine zz_iload F (i := 4) dX3_giveUp_66 rfl ?_
      exact zz_ireturn F dX3_giveUp_68 rfl (hκ _)
theorem zfSe_giveUp (a1 : Int32) (a2 : Int32) (a3 : Int32)  (s0 : zM) : ∀ a, fSe_giveUp a1 a2 a3 s0 = some a → zMet yX3_giveUp cX3_giveUp 9 (some .int) 1 22 [(0, [])] [zr 0 0 0, zi a1, zi a2, zi a3] [s0] ((fun a => ((.inl ((fun q => some (zi q.1)) a), (fun q => [q.2]) a) : zO)) a) := fun a ha => zMet_of (L0 := [some (zr 0 0 0), some (zi a1), some (zi a2), some (zi a3), none, none, none, none, none]) (φ := Option.bind (fSe_giveUp a1 a2 a3 s0) (fun a => some ((fun a => ((.inl ((fun q => some (zi q.1)) a), (fun q => [q.2]) a) : zO)) a))) (by decide) (fun _ => Nat.le_of_ble_eq_true rfl) (zl0 5 rfl) (fun X F => bfSe_giveUp F a1 a2 a3 s0 (fun _ => rfl)) (by rw [ha]; rfl)

theorem dX0_carry_0 : decode cX0_carry 0 = .ok (.aload_n 0, 1) := by decide +kernel
theorem dX0_carry_1 : decode cX0_carry 1 = .ok (.iload_n 1, 1) := by decide +kernel
theorem dX0_carry_2 : decode cX0_carry 2 = .ok (.putfield 16, 3) := by decide +kernel
theorem dX0_carry_5 : decode cX0_carry 5 = .ok (.aload_n 0, 1) := by decide +kernel
theorem dX0_carry_6 : decode cX0_carry 6 = .ok (.iconst 3, 1) := by decide +kernel
theorem dX0_carry_7 : decode cX0_carry 7 = .ok (.aload_n 0, 1) := by decide +kernel
theorem dX0_carry_8 : decode cX0_carry 8 = .ok (.getfield 13, 3) := by decide +kernel
theorem dX0_carry_11 : decode cX0_carry 11 = .ok (.imul, 1) := by decide +kernel
theorem dX0_carry_12 : decode cX0_carry 12 = .ok (.iload_n 1, 1) := by decide +kernel
theorem dX0_carry_13 : decode cX0_carry 13 = .ok (.iadd, 1) := by decide +kernel
theorem dX0_carry_14 : decode cX0_carry 14 = .ok (.iconst 4, 1) := by decide +kernel
theorem dX0_carry_15 : decode cX0_carry 15 = .ok (.idiv, 1) := by decide +kernel
theorem dX0_carry_16 : decode cX0_carry 16 = .ok (.putfield 13, 3) := by decide +kernel
theorem dX0_carry_19 : decode cX0_carry 19 = .ok (.return_, 1) := by decide +kernel
theorem wpRX0_16 : zFw RX0 16 0 2 .int := ⟨_, rfl, by decide, zm_f 235 (by decide +kernel) rfl, rfl, by decide +kernel⟩
theorem wpRX0_13 : zFw RX0 13 0 1 .int := ⟨_, rfl, by decide, zm_f 233 (by decide +kernel) rfl, rfl, by decide +kernel⟩
def fCa_carry (i : Nat) (a1 : Int32) (s0 : zM) : Option (zM) :=
  zlet (zu s0 12 i 2 a1) fun s0_1 =>
  zlet (zu s0_1 12 i 1 ((((3 : Int32) * (s0_1 12 i 1)) + a1) / (4 : Int32))) fun s0_2 =>
  some s0_2
set_option maxHeartbeats 4000000 in
set_option maxRecDepth 20000 in
theorem bfCa_carry {X : zX} (F : zFr X cX0_carry 2 RX0 none) (i : Nat) (a1 : Int32) (hi : i < 3) (s0 : zM) {κ : zM → Option zO} (hκ : ∀ a, κ a = some ((fun a => ((.inl ((fun _ => (none : Option zV)) a), (fun q => [q]) a) : zO)) a)) : zZ X [(0, [])] 0 0 2 0 [some (zr 0 12 i), some (zi a1)] [] [s0] (Option.bind (fCa_carry i a1 s0) κ) := by
  unfold fCa_carry
  refine zz_aload_n F (i := 0) dX0_carry_0 rfl rfl ?_
  refine zz_iload_n F (i := 1) dX0_carry_1 rfl rfl ?_
  refine zz_put F (Ms' := [(zu s0 12 i 2 a1)]) dX0_carry_2 wpRX0_16 zCl_0 rfl (⟨zlb rfl, zlb rfl, hi⟩) rfl (by decide) rfl rfl rfl ?_
  refine zz_letm (Mf := fun s0_1 => [s0_1]) fun s0_1 => ?_
  refine zz_aload_n F (i := 0) dX0_carry_5 rfl rfl ?_
  refine zz_iconst F (v := (3 : Int32)) dX0_carry_6 (by decide) ?_
  refine zz_aload_n F (i := 0) dX0_carry_7 rfl rfl ?_
  refine zz_getf F dX0_carry_8 wfRX0_13 zCl_0 rfl (⟨zlb rfl, zlb rfl, hi⟩) rfl (by decide) rfl rfl ?_
  refine zz_imul F dX0_carry_11 ?_
  refine zz_iload_n F (i := 1) dX0_carry_12 rfl rfl ?_
  refine zz_iadd F dX0_carry_13 ?_
  refine zz_iconst F (v := (4 : Int32)) dX0_carry_14 (by decide) ?_
  refine zz_idiv F dX0_carry_15 (by decide) ?_
  refine zz_put F (Ms' := [(zu s0_1 12 i 1 ((((3 : Int32) * (s0_1 12 i 1)) + a1) / (4 : Int32)))]) dX0_carry_16 wpRX0_13 zCl_0 rfl (⟨zlb rfl, zlb rfl, hi⟩) rfl (by decide) rfl rfl rfl ?_
  refine zz_letm (Mf := fun s0_2 => [s0_2]) fun s0_2 => ?_
  exact zz_return F dX0_carry_19 rfl (hκ _)
theorem zfCa_carry (i : Nat) (a1 : Int32) (hi : i < 3) (s0 : zM) : ∀ a, fCa_carry i a1 s0 = some a → zMet yX0_carry cX0_carry 2 none 0 0 [(0, [])] [zr 0 12 i, zi a1] [s0] ((fun a => ((.inl ((fun _ => (none : Option zV)) a), (fun q => [q]) a) : zO)) a) := fun a ha => zMet_of (L0 := [some (zr 0 12 i), some (zi a1)]) (φ := Option.bind (fCa_carry i a1 s0) (fun a => some ((fun a => ((.inl ((fun _ => (none : Option zV)) a), (fun q => [q]) a) : zO)) a))) (by decide) (fun _ => Nat.le_of_ble_eq_true rfl) (zl0 0 rfl) (fun X F => bfCa_carry F i a1 hi s0 (fun _ => rfl)) (by rw [ha]; rfl)
