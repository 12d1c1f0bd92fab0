theorem dX8_copyFrom_0 : decode cX8_copyFrom 0 = .ok (.aload_n 0, 1) := by decide +kernel
theorem dX8_copyFrom_1 : decode cX8_copyFrom 1 = .ok (.aload_n 1, 1) := by decide +kernel
theorem dX8_copyFrom_2 : decode cX8_copyFrom 2 = .ok (.getfield 15, 3) := by decide +kernel
theorem dX8_copyFrom_5 : decode cX8_copyFrom 5 = .ok (.aload_n 1, 1) := by decide +kernel
theorem dX8_copyFrom_6 : decode cX8_copyFrom 6 = .ok (.getfield 18, 3) := by decide +kernel
theorem dX8_copyFrom_9 : decode cX8_copyFrom 9 = .ok (.aload_n 1, 1) := by decide +kernel
theorem dX8_copyFrom_10 : decode cX8_copyFrom 10 = .ok (.getfield 21, 3) := by decide +kernel
theorem dX8_copyFrom_13 : decode cX8_copyFrom 13 = .ok (.aload_n 1, 1) := by decide +kernel
theorem dX8_copyFrom_14 : decode cX8_copyFrom 14 = .ok (.getfield 24, 3) := by decide +kernel
theorem dX8_copyFrom_17 : decode cX8_copyFrom 17 = .ok (.aload_n 1, 1) := by decide +kernel
theorem dX8_copyFrom_18 : decode cX8_copyFrom 18 = .ok (.getfield 9, 3) := by decide +kernel
theorem dX8_copyFrom_21 : decode cX8_copyFrom 21 = .ok (.invokevirtual 27, 3) := by decide +kernel
theorem dX8_copyFrom_24 : decode cX8_copyFrom 24 = .ok (.return_, 1) := by decide +kernel
theorem wfRX8_15 : zFl RX8 15 7 0 := ⟨_, rfl, by decide, zm_f 453 (by decide +kernel) rfl⟩
theorem wfRX8_18 : zFl RX8 18 7 1 := ⟨_, rfl, by decide, zm_f 455 (by decide +kernel) rfl⟩
theorem wfRX8_21 : zFl RX8 21 7 2 := ⟨_, rfl, by decide, zm_f 458 (by decide +kernel) rfl⟩
theorem wfRX8_24 : zFl RX8 24 7 3 := ⟨_, rfl, by decide, zm_f 460 (by decide +kernel) rfl⟩
theorem wfRX8_9 : zFl RX8 9 7 4 := ⟨_, rfl, by decide, zm_f 463 (by decide +kernel) rfl⟩
theorem wcRX8_27 : Cond.methodLink RX8 27 yX8_set ∈ zTg ∧ Cond.instanceMethod yX8_set ∈ zTg ∧ Cond.selects RX8 yX8_set yX8_set ∈ zTg ∧ Cond.initialized RX8 ∈ zTg ∧ Cond.code yX8_set cX8_set 6 none ∈ zTg := ⟨zm_f 313 (by decide +kernel) rfl, zm_f 117 (by decide +kernel) rfl, zm_f 118 (by decide +kernel) rfl, zm_f 23 (by decide +kernel) rfl, zm_f 119 (by decide +kernel) rfl⟩
theorem rel6 : zRel [0] [(0, []), (0, [])] [(0, [])] := by unfold zRel; decide
def fWe_copyFrom  (s0 : zM) (s1 : zM) : Option (zM) :=
  Option.bind (fWe_set (s1 4 0 0) (s1 4 0 1) (s1 4 0 2) (s1 4 0 3) (s1 4 0 4) s0) fun q1 =>
  some q1
set_option maxHeartbeats 4000000 in
set_option maxRecDepth 20000 in
theorem bfWe_copyFrom {X : zX} (F : zFr X cX8_copyFrom 2 RX8 none)   (s0 : zM) (s1 : zM) {κ : zM → Option zO} (hκ : ∀ a, κ a = some ((fun a => ((.inl ((fun _ => (none : Option zV)) a), (fun q => [q, s1]) a) : zO)) a)) : zZ X [(0, []), (0, [])] 1 25 2 0 [some (zr 0 4 0), some (zr 1 4 0)] [] [s0, s1] (Option.bind (fWe_copyFrom s0 s1) κ) := by
  unfold fWe_copyFrom
  refine zz_aload_n F (i := 0) dX8_copyFrom_0 rfl rfl ?_
  refine zz_aload_n F (i := 1) dX8_copyFrom_1 rfl rfl ?_
  refine zz_getf F dX8_copyFrom_2 wfRX8_15 zCl_7 rfl (⟨zlb rfl, zlb rfl, zlb rfl⟩) rfl (by decide) rfl rfl ?_
  refine zz_aload_n F (i := 1) dX8_copyFrom_5 rfl rfl ?_
  refine zz_getf F dX8_copyFrom_6 wfRX8_18 zCl_7 rfl (⟨zlb rfl, zlb rfl, zlb rfl⟩) rfl (by decide) rfl rfl ?_
  refine zz_aload_n F (i := 1) dX8_copyFrom_9 rfl rfl ?_
  refine zz_getf F dX8_copyFrom_10 wfRX8_21 zCl_7 rfl (⟨zlb rfl, zlb rfl, zlb rfl⟩) rfl (by decide) rfl rfl ?_
  refine zz_aload_n F (i := 1) dX8_copyFrom_13 rfl rfl ?_
  refine zz_getf F dX8_copyFrom_14 wfRX8_24 zCl_7 rfl (⟨zlb rfl, zlb rfl, zlb rfl⟩) rfl (by decide) rfl rfl ?_
  refine zz_aload_n F (i := 1) dX8_copyFrom_17 rfl rfl ?_
  refine zz_getf F dX8_copyFrom_18 wfRX8_9 zCl_7 rfl (⟨zlb rfl, zlb rfl, zlb rfl⟩) rfl (by decide) rfl rfl ?_
  refine zz_bind ?_
  refine zz_callVr F (ρ := [0]) (so := fun q1 => []) (Mo := fun q1 => [q1, s1]) (zfWe_set (s1 4 0 0) (s1 4 0 1) (s1 4 0 2) (s1 4 0 3) (s1 4 0 4) s0) dX8_copyFrom_21 wcRX8_27 wy_yX8_set rfl ⟨rel6, rfl, rfl, Nat.le_of_ble_eq_true rfl, Nat.le_of_ble_eq_true rfl, Nat.le_of_ble_eq_true rfl⟩ (⟨zlb rfl, zlb rfl, zlb rfl⟩) rfl rfl rfl (fun _ => rfl) (fun _ => rfl) fun q1 => ?_
  exact zz_return F dX8_copyFrom_24 rfl (hκ _)
theorem zfWe_copyFrom   (s0 : zM) (s1 : zM) : ∀ a, fWe_copyFrom s0 s1 = some a → zMet yX8_copyFrom cX8_copyFrom 2 none 1 25 [(0, []), (0, [])] [zr 0 4 0, zr 1 4 0] [s0, s1] ((fun a => ((.inl ((fun _ => (none : Option zV)) a), (fun q => [q, s1]) a) : zO)) a) := fun a ha => zMet_of (L0 := [some (zr 0 4 0), some (zr 1 4 0)]) (φ := Option.bind (fWe_copyFrom s0 s1) (fun a => some ((fun a => ((.inl ((fun _ => (none : Option zV)) a), (fun q => [q, s1]) a) : zO)) a))) (by decide) (fun _ => Nat.le_of_ble_eq_true rfl) (zl0 0 rfl) (fun X F => bfWe_copyFrom F s0 s1 (fun _ => rfl)) (by rw [ha]; rfl)

theorem dX2_copyFrom_0 : decode cX2_copyFrom 0 = .ok (.aload_n 1, 1) := by decide +kernel
theorem dX2_copyFrom_1 : decode cX2_copyFrom 1 = .ok (.getfield 9, 3) := by decide +kernel
theorem dX2_copyFrom_4 : decode cX2_copyFrom 4 = .ok (.iconst 0, 1) := by decide +kernel
theorem dX2_copyFrom_5 : decode cX2_copyFrom 5 = .ok (.aload_n 0, 1) := by decide +kernel
theorem dX2_copyFrom_6 : decode cX2_copyFrom 6 = .ok (.getfield 9, 3) := by decide +kernel
theorem dX2_copyFrom_9 : decode cX2_copyFrom 9 = .ok (.iconst 0, 1) := by decide +kernel
theorem dX2_copyFrom_10 : decode cX2_copyFrom 10 = .ok (.bipush 24, 2) := by decide +kernel
theorem dX2_copyFrom_12 : decode cX2_copyFrom 12 = .ok (.invokestatic 15, 3) := by decide +kernel
theorem dX2_copyFrom_15 : decode cX2_copyFrom 15 = .ok (.aload_n 0, 1) := by decide +kernel
theorem dX2_copyFrom_16 : decode cX2_copyFrom 16 = .ok (.aload_n 1, 1) := by decide +kernel
theorem dX2_copyFrom_17 : decode cX2_copyFrom 17 = .ok (.getfield 21, 3) := by decide +kernel
theorem dX2_copyFrom_20 : decode cX2_copyFrom 20 = .ok (.putfield 21, 3) := by decide +kernel
theorem dX2_copyFrom_23 : decode cX2_copyFrom 23 = .ok (.aload_n 0, 1) := by decide +kernel
theorem dX2_copyFrom_24 : decode cX2_copyFrom 24 = .ok (.aload_n 1, 1) := by decide +kernel
theorem dX2_copyFrom_25 : decode cX2_copyFrom 25 = .ok (.getfield 25, 3) := by decide +kernel
theorem dX2_copyFrom_28 : decode cX2_copyFrom 28 = .ok (.putfield 25, 3) := by decide +kernel
theorem dX2_copyFrom_31 : decode cX2_copyFrom 31 = .ok (.aload_n 0, 1) := by decide +kernel
theorem dX2_copyFrom_32 : decode cX2_copyFrom 32 = .ok (.aload_n 1, 1) := by decide +kernel
theorem dX2_copyFrom_33 : decode cX2_copyFrom 33 = .ok (.getfield 28, 3) := by decide +kernel
theorem dX2_copyFrom_36 : decode cX2_copyFrom 36 = .ok (.putfield 28, 3) := by decide +kernel
theorem dX2_copyFrom_39 : decode cX2_copyFrom 39 = .ok (.aload_n 0, 1) := by decide +kernel
theorem dX2_copyFrom_40 : decode cX2_copyFrom 40 = .ok (.aload_n 1, 1) := by decide +kernel
theorem dX2_copyFrom_41 : decode cX2_copyFrom 41 = .ok (.getfield 31, 3) := by decide +kernel
theorem dX2_copyFrom_44 : decode cX2_copyFrom 44 = .ok (.putfield 31, 3) := by decide +kernel
theorem dX2_copyFrom_47 : decode cX2_copyFrom 47 = .ok (.return_, 1) := by decide +kernel
theorem wmRX2_15 : Cond.methodLink RX2 15 arraycopyName ∈ zTg := zm_f 318 (by decide +kernel) rfl
theorem wCopy : Cond.native arraycopyName ∈ zTg ∧ Cond.static arraycopyName ∈ zTg ∧ Cond.initialized "java/lang/System" ∈ zTg := ⟨zm_f 320 (by decide +kernel) rfl, zm_f 319 (by decide +kernel) rfl, zm_f 38 (by decide +kernel) rfl⟩
theorem wfRX2_28 : zFl RX2 28 2 3 := ⟨_, rfl, by decide, zm_f 486 (by decide +kernel) rfl⟩
def fLe_copyFrom  (s0 : zM) (s1 : zM) : Option (zM) :=
  zlet (zur s0 6 0 (va_cpy (s1 6 0) (s0 6 0) 0 0 24)) fun s0_1 =>
  zlet (zu s0_1 5 0 1 (s1 5 0 1)) fun s0_2 =>
  zlet (zu s0_2 5 0 2 (s1 5 0 2)) fun s0_3 =>
  zlet (zu s0_3 5 0 3 (s1 5 0 3)) fun s0_4 =>
  zlet (zu s0_4 5 0 4 (s1 5 0 4)) fun s0_5 =>
  some s0_5
set_option maxHeartbeats 4000000 in
set_option maxRecDepth 20000 in
theorem bfLe_copyFrom {X : zX} (F : zFr X cX2_copyFrom 2 RX2 none)   (s0 : zM) (s1 : zM) {κ : zM → Option zO} (hκ : ∀ a, κ a = some ((fun a => ((.inl ((fun _ => (none : Option zV)) a), (fun q => [q, s1]) a) : zO)) a)) : zZ X [(0, []), (0, [])] 1 60 2 0 [some (zr 0 5 0), some (zr 1 5 0)] [] [s0, s1] (Option.bind (fLe_copyFrom s0 s1) κ) := by
  unfold fLe_copyFrom
  refine zz_aload_n F (i := 1) dX2_copyFrom_0 rfl rfl ?_
  refine zz_getr F dX2_copyFrom_1 wfRX2_9 zCl_2 rfl (⟨zlb rfl, zlb rfl, zlb rfl⟩) rfl (by decide) rfl (r' := 1) (by decide) ?_
  refine zz_iconst F (v := (0 : Int32)) dX2_copyFrom_4 (by decide) ?_
  refine zz_aload_n F (i := 0) dX2_copyFrom_5 rfl rfl ?_
  refine zz_getr F dX2_copyFrom_6 wfRX2_9 zCl_2 rfl (⟨zlb rfl, zlb rfl, zlb rfl⟩) rfl (by decide) rfl (r' := 0) (by decide) ?_
  refine zz_iconst F (v := (0 : Int32)) dX2_copyFrom_9 (by decide) ?_
  refine zz_bipush F (v := (24 : Int32)) dX2_copyFrom_10 (by decide) ?_
  refine zz_copy F (Ms' := [(zur s0 6 0 (va_cpy (s1 6 0) (s0 6 0) 0 0 24)), s1]) dX2_copyFrom_12 wmRX2_15 wCopy rfl (⟨zlb rfl, zlb rfl, zlb rfl⟩) rfl rfl (⟨zlb rfl, zlb rfl, zlb rfl⟩) rfl (by decide) (by decide) (by decide) (Nat.le_of_ble_eq_true rfl) (Nat.le_of_ble_eq_true rfl) (Nat.le_of_ble_eq_true rfl) (Nat.le_of_ble_eq_true rfl) rfl ?_
  refine zz_letm (Mf := fun s0_1 => [s0_1, s1]) fun s0_1 => ?_
  refine zz_aload_n F (i := 0) dX2_copyFrom_15 rfl rfl ?_
  refine zz_aload_n F (i := 1) dX2_copyFrom_16 rfl rfl ?_
  refine zz_getf F dX2_copyFrom_17 wfRX2_21 zCl_2 rfl (⟨zlb rfl, zlb rfl, zlb rfl⟩) rfl (by decide) rfl rfl ?_
  refine zz_put F (Ms' := [(zu s0_1 5 0 1 (s1 5 0 1)), s1]) dX2_copyFrom_20 wpRX2_21 zCl_2 rfl (⟨zlb rfl, zlb rfl, zlb rfl⟩) rfl (by decide) rfl rfl rfl ?_
  refine zz_letm (Mf := fun s0_2 => [s0_2, s1]) fun s0_2 => ?_
  refine zz_aload_n F (i := 0) dX2_copyFrom_23 rfl rfl ?_
  refine zz_aload_n F (i := 1) dX2_copyFrom_24 rfl rfl ?_
  refine zz_getf F dX2_copyFrom_25 wfRX2_25 zCl_2 rfl (⟨zlb rfl, zlb rfl, zlb rfl⟩) rfl (by decide) rfl rfl ?_
  refine zz_put F (Ms' := [(zu s0_2 5 0 2 (s1 5 0 2)), s1]) dX2_copyFrom_28 wpRX2_25 zCl_2 rfl (⟨zlb rfl, zlb rfl, zlb rfl⟩) rfl (by decide) rfl rfl rfl ?_
  refine zz_letm (Mf := fun s0_3 => [s0_3, s1]) fun s0_3 => ?_
  refine zz_aload_n F (i := 0) dX2_copyFrom_31 rfl rfl ?_
  refine zz_aload_n F (i := 1) dX2_copyFrom_32 rfl rfl ?_
  refine zz_getf F dX2_copyFrom_33 wfRX2_28 zCl_2 rfl (⟨zlb rfl, zlb rfl, zlb rfl⟩) rfl (by decide) rfl rfl ?_
  refine zz_put F (Ms' := [(zu s0_3 5 0 3 (s1 5 0 3)), s1]) dX2_copyFrom_36 wpRX2_28 zCl_2 rfl (⟨zlb rfl, zlb rfl, zlb rfl⟩) rfl (by decide) rfl rfl rfl ?_
  refine zz_letm (Mf := fun s0_4 => [s0_4, s1]) fun s0_4 => ?_
  refine zz_aload_n F (i := 0) dX2_copyFrom_39 rfl rfl ?_
  refine zz_aload_n F (i := 1) dX2_copyFrom_40 rfl rfl ?_
  refine zz_getf F dX2_copyFrom_41 wfRX2_31 zCl_2 rfl (⟨zlb rfl, zlb rfl, zlb rfl⟩) rfl (by decide) rfl rfl ?_
  refine zz_put F (Ms' := [(zu s0_4 5 0 4 (s1 5 0 4)), s1]) dX2_copyFrom_44 wpRX2_31 zCl_2 rfl (⟨zlb rfl, zlb rfl, zlb rfl⟩) rfl (by decide) rfl rfl rfl ?_
  refine zz_letm (Mf := fun s0_5 => [s0_5, s1]) fun s0_5 => ?_
  exact zz_return F dX2_copyFrom_47 rfl (hκ _)
theorem zfLe_copyFrom   (s0 : zM) (s1 : zM) : ∀ a, fLe_copyFrom s0 s1 = some a → zMet yX2_copyFrom cX2_copyFrom 2 none 1 60 [(0, []), (0, [])] [zr 0 5 0, zr 1 5 0] [s0, s1] ((fun a => ((.inl ((fun _ => (none : Option zV)) a), (fun q => [q, s1]) a) : zO)) a) := fun a ha => zMet_of (L0 := [some (zr 0 5 0), some (zr 1 5 0)]) (φ := Option.bind (fLe_copyFrom s0 s1) (fun a => some ((fun a => ((.inl ((fun _ => (none : Option zV)) a), (fun q => [q, s1]) a) : zO)) a))) (by decide) (fun _ => Nat.le_of_ble_eq_true rfl) (zl0 0 rfl) (fun X F => bfLe_copyFrom F s0 s1 (fun _ => rfl)) (by rw [ha]; rfl)

theorem dX1_copyFrom_0 : decode cX1_copyFrom 0 = .ok (.aload_n 1, 1) := by decide +kernel
theorem dX1_copyFrom_1 : decode cX1_copyFrom 1 = .ok (.getfield 9, 3) := by decide +kernel
theorem dX1_copyFrom_4 : decode cX1_copyFrom 4 = .ok (.iconst 0, 1) := by decide +kernel
theorem dX1_copyFrom_5 : decode cX1_copyFrom 5 = .ok (.aload_n 0, 1) := by decide +kernel
theorem dX1_copyFrom_6 : decode cX1_copyFrom 6 = .ok (.getfield 9, 3) := by decide +kernel
theorem dX1_copyFrom_9 : decode cX1_copyFrom 9 = .ok (.iconst 0, 1) := by decide +kernel
theorem dX1_copyFrom_10 : decode cX1_copyFrom 10 = .ok (.bipush 30, 2) := by decide +kernel
theorem dX1_copyFrom_12 : decode cX1_copyFrom 12 = .ok (.invokestatic 15, 3) := by decide +kernel
theorem dX1_copyFrom_15 : decode cX1_copyFrom 15 = .ok (.aload_n 0, 1) := by decide +kernel
theorem dX1_copyFrom_16 : decode cX1_copyFrom 16 = .ok (.aload_n 1, 1) := by decide +kernel
theorem dX1_copyFrom_17 : decode cX1_copyFrom 17 = .ok (.getfield 21, 3) := by decide +kernel
theorem dX1_copyFrom_20 : decode cX1_copyFrom 20 = .ok (.putfield 21, 3) := by decide +kernel
theorem dX1_copyFrom_23 : decode cX1_copyFrom 23 = .ok (.aload_n 0, 1) := by decide +kernel
theorem dX1_copyFrom_24 : decode cX1_copyFrom 24 = .ok (.aload_n 1, 1) := by decide +kernel
theorem dX1_copyFrom_25 : decode cX1_copyFrom 25 = .ok (.getfield 25, 3) := by decide +kernel
theorem dX1_copyFrom_28 : decode cX1_copyFrom 28 = .ok (.putfield 25, 3) := by decide +kernel
theorem dX1_copyFrom_31 : decode cX1_copyFrom 31 = .ok (.aload_n 0, 1) := by decide +kernel
theorem dX1_copyFrom_32 : decode cX1_copyFrom 32 = .ok (.aload_n 1, 1) := by decide +kernel
theorem dX1_copyFrom_33 : decode cX1_copyFrom 33 = .ok (.getfield 28, 3) := by decide +kernel
theorem dX1_copyFrom_36 : decode cX1_copyFrom 36 = .ok (.putfield 28, 3) := by decide +kernel
theorem dX1_copyFrom_39 : decode cX1_copyFrom 39 = .ok (.return_, 1) := by decide +kernel
theorem wmRX1_15 : Cond.methodLink RX1 15 arraycopyName ∈ zTg := zm_f 330 (by decide +kernel) rfl
def fEx_copyFrom (i : Nat) (j : Nat) (s0 : zM) (s1 : zM) : Option (zM) :=
  zlet (zur s0 11 i (va_cpy (s1 11 j) (s0 11 i) 0 0 30)) fun s0_1 =>
  zlet (zu s0_1 10 i 1 (s1 10 j 1)) fun s0_2 =>
  zlet (zu s0_2 10 i 2 (s1 10 j 2)) fun s0_3 =>
  zlet (zu s0_3 10 i 3 (s1 10 j 3)) fun s0_4 =>
  some s0_4
set_option maxHeartbeats 4000000 in
set_option maxRecDepth 20000 in
theorem bfEx_copyFrom {X : zX} (F : zFr X cX1_copyFrom 2 RX1 none) (i : Nat) (j : Nat) (hi : i < 8) (hj : j < 8) (s0 : zM) (s1 : zM) {κ : zM → Option zO} (hκ : ∀ a, κ a = some ((fun a => ((.inl ((fun _ => (none : Option zV)) a), (fun q => [q, s1]) a) : zO)) a)) : zZ X [(0, []), (0, [])] 1 60 2 0 [some (zr 0 10 i), some (zr 1 10 j)] [] [s0, s1] (Option.bind (fEx_copyFrom i j s0 s1) κ) := by
  unfold fEx_copyFrom
  refine zz_aload_n F (i := 1) dX1_copyFrom_0 rfl rfl ?_
  refine zz_getr F dX1_copyFrom_1 wfRX1_9 zCl_1 rfl (⟨zlb rfl, zlb rfl, hj⟩) rfl (by decide) rfl (r' := 1) (by decide) ?_
  refine zz_iconst F (v := (0 : Int32)) dX1_copyFrom_4 (by decide) ?_
  refine zz_aload_n F (i := 0) dX1_copyFrom_5 rfl rfl ?_
  refine zz_getr F dX1_copyFrom_6 wfRX1_9 zCl_1 rfl (⟨zlb rfl, zlb rfl, hi⟩) rfl (by decide) rfl (r' := 0) (by decide) ?_
  refine zz_iconst F (v := (0 : Int32)) dX1_copyFrom_9 (by decide) ?_
  refine zz_bipush F (v := (30 : Int32)) dX1_copyFrom_10 (by decide) ?_
  refine zz_copy F (Ms' := [(zur s0 11 i (va_cpy (s1 11 j) (s0 11 i) 0 0 30)), s1]) dX1_copyFrom_12 wmRX1_15 wCopy rfl (⟨zlb rfl, zlb rfl, hj⟩) rfl rfl (⟨zlb rfl, zlb rfl, hi⟩) rfl (by decide) (by decide) (by decide) (Nat.le_of_ble_eq_true rfl) (Nat.le_of_ble_eq_true rfl) (Nat.le_of_ble_eq_true rfl) (Nat.le_of_ble_eq_true rfl) rfl ?_
  refine zz_letm (Mf := fun s0_1 => [s0_1, s1]) fun s0_1 => ?_
  refine zz_aload_n F (i := 0) dX1_copyFrom_15 rfl rfl ?_
  refine zz_aload_n F (i := 1) dX1_copyFrom_16 rfl rfl ?_
  refine zz_getf F dX1_copyFrom_17 wfRX1_21 zCl_1 rfl (⟨zlb rfl, zlb rfl, hj⟩) rfl (by decide) rfl rfl ?_
  refine zz_put F (Ms' := [(zu s0_1 10 i 1 (s1 10 j 1)), s1]) dX1_copyFrom_20 wpRX1_21 zCl_1 rfl (⟨zlb rfl, zlb rfl, hi⟩) rfl (by decide) rfl rfl rfl ?_
  refine zz_letm (Mf := fun s0_2 => [s0_2, s1]) fun s0_2 => ?_
  refine zz_aload_n F (i := 0) dX1_copyFrom_23 rfl rfl ?_
  refine zz_aload_n F (i := 1) dX1_copyFrom_24 rfl rfl ?_
  refine zz_getf F dX1_copyFrom_25 wfRX1_25 zCl_1 rfl (⟨zlb rfl, zlb rfl, hj⟩) rfl (by decide) rfl rfl ?_
  refine zz_put F (Ms' := [(zu s0_2 10 i 2 (s1 10 j 2)), s1]) dX1_copyFrom_28 wpRX1_25 zCl_1 rfl (⟨zlb rfl, zlb rfl, hi⟩) rfl (by decide) rfl rfl rfl ?_
  refine zz_letm (Mf := fun s0_3 => [s0_3, s1]) fun s0_3 => ?_
  refine zz_aload_n F (i := 0) dX1_copyFrom_31 rfl rfl ?_
  refine zz_aload_n F (i := 1) dX1_copyFrom_32 rfl rfl ?_
  refine zz_getf F dX1_copyFrom_33 wfRX1_28 zCl_1 rfl (⟨zlb rfl, zlb rfl, hj⟩) rfl (by decide) rfl rfl ?_
  refine zz_put F (Ms' := [(zu s0_3 10 i 3 (s1 10 j 3)), s1]) dX1_copyFrom_36 wpRX1_28 zCl_1 rfl (⟨zlb rfl, zlb rfl, hi⟩) rfl (by decide) rfl rfl rfl ?_
  refine zz_letm (Mf := fun s0_4 => [s0_4, s1]) fun s0_4 => ?_
  exact zz_return F dX1_copyFrom_39 rfl (hκ _)
theorem zfEx_copyFrom (i : Nat) (j : Nat) (hi : i < 8) (hj : j < 8) (s0 : zM) (s1 : zM) : ∀ a, fEx_copyFrom i j s0 s1 = some a → zMet yX1_copyFrom cX1_copyFrom 2 none 1 60 [(0, []), (0, [])] [zr 0 10 i, zr 1 10 j] [s0, s1] ((fun a => ((.inl ((fun _ => (none : Option zV)) a), (fun q => [q, s1]) a) : zO)) a) := fun a ha => zMet_of (L0 := [some (zr 0 10 i), some (zr 1 10 j)]) (φ := Option.bind (fEx_copyFrom i j s0 s1) (fun a => some ((fun a => ((.inl ((fun _ => (none : Option zV)) a), (fun q => [q, s1]) a) : zO)) a))) (by decide) (fun _ => Nat.le_of_ble_eq_true rfl) (zl0 0 rfl) (fun X F => bfEx_copyFrom F i j hi hj s0 s1 (fun _ => rfl)) (by rw [ha]; rfl)

theorem dX5_copyFrom_0 : decode cX5_copyFrom 0 = .ok (.aload_n 0, 1) := by decide +kernel
theorem dX5_copyFrom_1 : decode cX5_copyFrom 1 = .ok (.aload_n 1, 1) := by decide +kernel
theorem dX5_copyFrom_2 : decode cX5_copyFrom 2 = .ok (.getfield 38, 3) := by decide +kernel
theorem dX5_copyFrom_5 : decode cX5_copyFrom 5 = .ok (.putfield 38, 3) := by decide +kernel
theorem dX5_copyFrom_8 : decode cX5_copyFrom 8 = .ok (.aload_n 0, 1) := by decide +kernel
theorem dX5_copyFrom_9 : decode cX5_copyFrom 9 = .ok (.aload_n 1, 1) := by decide +kernel
theorem dX5_copyFrom_10 : decode cX5_copyFrom 10 = .ok (.getfield 41, 3) := by decide +kernel
theorem dX5_copyFrom_13 : decode cX5_copyFrom 13 = .ok (.putfield 41, 3) := by decide +kernel
theorem dX5_copyFrom_16 : decode cX5_copyFrom 16 = .ok (.aload_n 0, 1) := by decide +kernel
theorem dX5_copyFrom_17 : decode cX5_copyFrom 17 = .ok (.aload_n 1, 1) := by decide +kernel
theorem dX5_copyFrom_18 : decode cX5_copyFrom 18 = .ok (.getfield 44, 3) := by decide +kernel
theorem dX5_copyFrom_21 : decode cX5_copyFrom 21 = .ok (.putfield 44, 3) := by decide +kernel
theorem dX5_copyFrom_24 : decode cX5_copyFrom 24 = .ok (.aload_n 0, 1) := by decide +kernel
theorem dX5_copyFrom_25 : decode cX5_copyFrom 25 = .ok (.aload_n 1, 1) := by decide +kernel
theorem dX5_copyFrom_26 : decode cX5_copyFrom 26 = .ok (.getfield 9, 3) := by decide +kernel
theorem dX5_copyFrom_29 : decode cX5_copyFrom 29 = .ok (.putfield 9, 3) := by decide +kernel
theorem dX5_copyFrom_32 : decode cX5_copyFrom 32 = .ok (.aload_n 0, 1) := by decide +kernel
theorem dX5_copyFrom_33 : decode cX5_copyFrom 33 = .ok (.aload_n 1, 1) := by decide +kernel
theorem dX5_copyFrom_34 : decode cX5_copyFrom 34 = .ok (.getfield 15, 3) := by decide +kernel
theorem dX5_copyFrom_37 : decode cX5_copyFrom 37 = .ok (.putfield 15, 3) := by decide +kernel
theorem dX5_copyFrom_40 : decode cX5_copyFrom 40 = .ok (.aload_n 0, 1) := by decide +kernel
theorem dX5_copyFrom_41 : decode cX5_copyFrom 41 = .ok (.aload_n 1, 1) := by decide +kernel
theorem dX5_copyFrom_42 : decode cX5_copyFrom 42 = .ok (.getfield 18, 3) := by decide +kernel
theorem dX5_copyFrom_45 : decode cX5_copyFrom 45 = .ok (.putfield 18, 3) := by decide +kernel
theorem dX5_copyFrom_48 : decode cX5_copyFrom 48 = .ok (.aload_n 0, 1) := by decide +kernel
theorem dX5_copyFrom_49 : decode cX5_copyFrom 49 = .ok (.aload_n 1, 1) := by decide +kernel
theorem dX5_copyFrom_50 : decode cX5_copyFrom 50 = .ok (.getfield 21, 3) := by decide +kernel
theorem dX5_copyFrom_53 : decode cX5_copyFrom 53 = .ok (.putfield 21, 3) := by decide +kernel
theorem dX5_copyFrom_56 : decode cX5_copyFrom 56 = .ok (.aload_n 0, 1) := by decide +kernel
theorem dX5_copyFrom_57 : decode cX5_copyFrom 57 = .ok (.aload_n 1, 1) := by decide +kernel
theorem dX5_copyFrom_58 : decode cX5_copyFrom 58 = .ok (.getfield 47, 3) := by decide +kernel
theorem dX5_copyFrom_61 : decode cX5_copyFrom 61 = .ok (.putfield 47, 3) := by decide +kernel
theorem dX5_copyFrom_64 : decode cX5_copyFrom 64 = .ok (.aload_n 0, 1) := by decide +kernel
theorem dX5_copyFrom_65 : decode cX5_copyFrom 65 = .ok (.aload_n 1, 1) := by decide +kernel
theorem dX5_copyFrom_66 : decode cX5_copyFrom 66 = .ok (.getfield 50, 3) := by decide +kernel
theorem dX5_copyFrom_69 : decode cX5_copyFrom 69 = .ok (.putfield 50, 3) := by decide +kernel
theorem dX5_copyFrom_72 : decode cX5_copyFrom 72 = .ok (.aload_n 0, 1) := by decide +kernel
theorem dX5_copyFrom_73 : decode cX5_copyFrom 73 = .ok (.aload_n 1, 1) := by decide +kernel
theorem dX5_copyFrom_74 : decode cX5_copyFrom 74 = .ok (.getfield 53, 3) := by decide +kernel
theorem dX5_copyFrom_77 : decode cX5_copyFrom 77 = .ok (.putfield 53, 3) := by decide +kernel
theorem dX5_copyFrom_80 : decode cX5_copyFrom 80 = .ok (.aload_n 0, 1) := by decide +kernel
theorem dX5_copyFrom_81 : decode cX5_copyFrom 81 = .ok (.aload_n 1, 1) := by decide +kernel
theorem dX5_copyFrom_82 : decode cX5_copyFrom 82 = .ok (.getfield 56, 3) := by decide +kernel
theorem dX5_copyFrom_85 : decode cX5_copyFrom 85 = .ok (.putfield 56, 3) := by decide +kernel
theorem dX5_copyFrom_88 : decode cX5_copyFrom 88 = .ok (.aload_n 1, 1) := by decide +kernel
theorem dX5_copyFrom_89 : decode cX5_copyFrom 89 = .ok (.getfield 24, 3) := by decide +kernel
theorem dX5_copyFrom_92 : decode cX5_copyFrom 92 = .ok (.iconst 0, 1) := by decide +kernel
theorem dX5_copyFrom_93 : decode cX5_copyFrom 93 = .ok (.aload_n 0, 1) := by decide +kernel
theorem dX5_copyFrom_94 : decode cX5_copyFrom 94 = .ok (.getfield 24, 3) := by decide +kernel
theorem dX5_copyFrom_97 : decode cX5_copyFrom 97 = .ok (.iconst 0, 1) := by decide +kernel
theorem dX5_copyFrom_98 : decode cX5_copyFrom 98 = .ok (.iconst 3, 1) := by decide +kernel
theorem dX5_copyFrom_99 : decode cX5_copyFrom 99 = .ok (.invokestatic 59, 3) := by decide +kernel
theorem dX5_copyFrom_102 : decode cX5_copyFrom 102 = .ok (.aload_n 1, 1) := by decide +kernel
theorem dX5_copyFrom_103 : decode cX5_copyFrom 103 = .ok (.getfield 28, 3) := by decide +kernel
theorem dX5_copyFrom_106 : decode cX5_copyFrom 106 = .ok (.iconst 0, 1) := by decide +kernel
theorem dX5_copyFrom_107 : decode cX5_copyFrom 107 = .ok (.aload_n 0, 1) := by decide +kernel
theorem dX5_copyFrom_108 : decode cX5_copyFrom 108 = .ok (.getfield 28, 3) := by decide +kernel
theorem dX5_copyFrom_111 : decode cX5_copyFrom 111 = .ok (.iconst 0, 1) := by decide +kernel
theorem dX5_copyFrom_112 : decode cX5_copyFrom 112 = .ok (.bipush 8, 2) := by decide +kernel
theorem dX5_copyFrom_114 : decode cX5_copyFrom 114 = .ok (.invokestatic 59, 3) := by decide +kernel
theorem dX5_copyFrom_117 : decode cX5_copyFrom 117 = .ok (.aload_n 0, 1) := by decide +kernel
theorem dX5_copyFrom_118 : decode cX5_copyFrom 118 = .ok (.getfield 34, 3) := by decide +kernel
theorem dX5_copyFrom_121 : decode cX5_copyFrom 121 = .ok (.aload_n 1, 1) := by decide +kernel
theorem dX5_copyFrom_122 : decode cX5_copyFrom 122 = .ok (.getfield 34, 3) := by decide +kernel
theorem dX5_copyFrom_125 : decode cX5_copyFrom 125 = .ok (.invokevirtual 65, 3) := by decide +kernel
theorem dX5_copyFrom_128 : decode cX5_copyFrom 128 = .ok (.return_, 1) := by decide +kernel
theorem wfRX5_38 : zFl RX5 38 5 0 := ⟨_, rfl, by decide, zm_f 528 (by decide +kernel) rfl⟩
theorem wpRX5_38 : zFw RX5 38 5 0 .int := ⟨_, rfl, by decide, zm_f 528 (by decide +kernel) rfl, rfl, by decide +kernel⟩
theorem wfRX5_41 : zFl RX5 41 5 1 := ⟨_, rfl, by decide, zm_f 531 (by decide +kernel) rfl⟩
theorem wpRX5_41 : zFw RX5 41 5 1 .int := ⟨_, rfl, by decide, zm_f 531 (by decide +kernel) rfl, rfl, by decide +kernel⟩
theorem wfRX5_44 : zFl RX5 44 5 2 := ⟨_, rfl, by decide, zm_f 534 (by decide +kernel) rfl⟩
theorem wpRX5_44 : zFw RX5 44 5 2 .int := ⟨_, rfl, by decide, zm_f 534 (by decide +kernel) rfl, rfl, by decide +kernel⟩
theorem wfRX5_18 : zFl RX5 18 5 5 := ⟨_, rfl, by decide, zm_f 541 (by decide +kernel) rfl⟩
theorem wfRX5_21 : zFl RX5 21 5 6 := ⟨_, rfl, by decide, zm_f 543 (by decide +kernel) rfl⟩
theorem wpRX5_47 : zFw RX5 47 5 7 .int := ⟨_, rfl, by decide, zm_f 545 (by decide +kernel) rfl, rfl, by decide +kernel⟩
theorem wmRX5_59 : Cond.methodLink RX5 59 arraycopyName ∈ zTg := zm_f 325 (by decide +kernel) rfl
theorem wcRX5_65 : Cond.methodLink RX5 65 yX1_copyFrom ∈ zTg ∧ Cond.instanceMethod yX1_copyFrom ∈ zTg ∧ Cond.selects RX1 yX1_copyFrom yX1_copyFrom ∈ zTg ∧ Cond.initialized RX1 ∈ zTg ∧ Cond.code yX1_copyFrom cX1_copyFrom 2 none ∈ zTg := ⟨zm_f 326 (by decide +kernel) rfl, zm_f 327 (by decide +kernel) rfl, zm_f 328 (by decide +kernel) rfl, zm_f 26 (by decide +kernel) rfl, zm_f 329 (by decide +kernel) rfl⟩
theorem wy_yX1_copyFrom : yX1_copyFrom.cls = RX1 ∧ yX1_copyFrom.cls ≠ "java/lang/invoke/MethodHandle" ∧ yX1_copyFrom.cls ≠ "java/lang/invoke/VarHandle" ∧ (parseMethodDescriptor yX1_copyFrom.desc).map (fun d => d.parameters.length) = some 1 := by decide +kernel
theorem rel7 : zRel [0, 1] [(0, []), (0, [])] [(0, []), (0, [])] := by unfold zRel; decide
def fTu_copyFrom (i : Nat) (j : Nat) (s0 : zM) (s1 : zM) : Option (zM) :=
  zlet (zu s0 7 i 0 (s1 7 j 0)) fun s0_1 =>
  zlet (zu s0_1 7 i 1 (s1 7 j 1)) fun s0_2 =>
  zlet (zu s0_2 7 i 2 (s1 7 j 2)) fun s0_3 =>
  zlet (zu s0_3 7 i 3 (s1 7 j 3)) fun s0_4 =>
  zlet (zu s0_4 7 i 4 (s1 7 j 4)) fun s0_5 =>
  zlet (zu s0_5 7 i 5 (s1 7 j 5)) fun s0_6 =>
  zlet (zu s0_6 7 i 6 (s1 7 j 6)) fun s0_7 =>
  zlet (zu s0_7 7 i 7 (s1 7 j 7)) fun s0_8 =>
  zlet (zu s0_8 7 i 8 (s1 7 j 8)) fun s0_9 =>
  zlet (zu s0_9 7 i 9 (s1 7 j 9)) fun s0_10 =>
  zlet (zu s0_10 7 i 10 (s1 7 j 10)) fun s0_11 =>
  zlet (zur s0_11 8 i (va_cpy (s1 8 j) (s0_11 8 i) 0 0 3)) fun s0_12 =>
  zlet (zur s0_12 9 i (va_cpy (s1 9 j) (s0_12 9 i) 0 0 8)) fun s0_13 =>
  Option.bind (fEx_copyFrom i j s0_13 s1) fun q14 =>
  some q14
set_option maxHeartbeats 4000000 in
set_option maxRecDepth 20000 in
theorem bfTu_copyFrom {X : zX} (F : zFr X cX5_copyFrom 2 RX5 none) (i : Nat) (j : Nat) (hi : i < 8) (hj : j < 8) (s0 : zM) (s1 : zM) {κ : zM → Option zO} (hκ : ∀ a, κ a = some ((fun a => ((.inl ((fun _ => (none : Option zV)) a), (fun q => [q, s1]) a) : zO)) a)) : zZ X [(0, []), (0, [])] 2 81 2 0 [some (zr 0 7 i), some (zr 1 7 j)] [] [s0, s1] (Option.bind (fTu_copyFrom i j s0 s1) κ) := by
  unfold fTu_copyFrom
  refine zz_aload_n F (i := 0) dX5_copyFrom_0 rfl rfl ?_
  refine zz_aload_n F (i := 1) dX5_copyFrom_1 rfl rfl ?_
  refine zz_getf F dX5_copyFrom_2 wfRX5_38 zCl_5 rfl (⟨zlb rfl, zlb rfl, hj⟩) rfl (by decide) rfl rfl ?_
  refine zz_put F (Ms' := [(zu s0 7 i 0 (s1 7 j 0)), s1]) dX5_copyFrom_5 wpRX5_38 zCl_5 rfl (⟨zlb rfl, zlb rfl, hi⟩) rfl (by decide) rfl rfl rfl ?_
  refine zz_letm (Mf := fun s0_1 => [s0_1, s1]) fun s0_1 => ?_
  refine zz_aload_n F (i := 0) dX5_copyFrom_8 rfl rfl ?_
  refine zz_aload_n F (i := 1) dX5_copyFrom_9 rfl rfl ?_
  refine zz_getf F dX5_copyFrom_10 wfRX5_41 zCl_5 rfl (⟨zlb rfl, zlb rfl, hj⟩) rfl (by decide) rfl rfl ?_
  refine zz_put F (Ms' := [(zu s0_1 7 i 1 (s1 7 j 1)), s1]) dX5_copyFrom_13 wpRX5_41 zCl_5 rfl (⟨zlb rfl, zlb rfl, hi⟩) rfl (by decide) rfl rfl rfl ?_
  refine zz_letm (Mf := fun s0_2 => [s0_2, s1]) fun s0_2 => ?_
  refine zz_aload_n F (i := 0) dX5_copyFrom_16 rfl rfl ?_
  refine zz_aload_n F (i := 1) dX5_copyFrom_17 rfl rfl ?_
  refine zz_getf F dX5_copyFrom_18 wfRX5_44 zCl_5 rfl (⟨zlb rfl, zlb rfl, hj⟩) rfl (by decide) rfl rfl ?_
  refine zz_put F (Ms' := [(zu s0_2 7 i 2 (s1 7 j 2)), s1]) dX5_copyFrom_21 wpRX5_44 zCl_5 rfl (⟨zlb rfl, zlb rfl, hi⟩) rfl (by decide) rfl rfl rfl ?_
  refine zz_letm (Mf := fun s0_3 => [s0_3, s1]) fun s0_3 => ?_
  refine zz_aload_n F (i := 0) dX5_copyFrom_24 rfl rfl ?_
  refine zz_aload_n F (i := 1) dX5_copyFrom_25 rfl rfl ?_
  refine zz_getf F dX5_copyFrom_26 wfRX5_9 zCl_5 rfl (⟨zlb rfl, zlb rfl, hj⟩) rfl (by decide) rfl rfl ?_
  refine zz_put F (Ms' := [(zu s0_3 7 i 3 (s1 7 j 3)), s1]) dX5_copyFrom_29 wpRX5_9 zCl_5 rfl (⟨zlb rfl, zlb rfl, hi⟩) rfl (by decide) rfl rfl rfl ?_
  refine zz_letm (Mf := fun s0_4 => [s0_4, s1]) fun s0_4 => ?_
  refine zz_aload_n F (i := 0) dX5_copyFrom_32 rfl rfl ?_
  refine zz_aload_n F (i := 1) dX5_copyFrom_33 rfl rfl ?_
  refine zz_getf F dX5_copyFrom_34 wfRX5_15 zCl_5 rfl (⟨zlb rfl, zlb rfl, hj⟩) rfl (by decide) rfl rfl ?_
  refine zz_put F (Ms' := [(zu s0_4 7 i 4 (s1 7 j 4)), s1]) dX5_copyFrom_37 wpRX5_15 zCl_5 rfl (⟨zlb rfl, zlb rfl, hi⟩) rfl (by decide) rfl rfl rfl ?_
  refine zz_letm (Mf := fun s0_5 => [s0_5, s1]) fun s0_5 => ?_
  refine zz_aload_n F (i := 0) dX5_copyFrom_40 rfl rfl ?_
  refine zz_aload_n F (i := 1) dX5_copyFrom_41 rfl rfl ?_
  refine zz_getf F dX5_copyFrom_42 wfRX5_18 zCl_5 rfl (⟨zlb rfl, zlb rfl, hj⟩) rfl (by decide) rfl rfl ?_
  refine zz_put F (Ms' := [(zu s0_5 7 i 5 (s1 7 j 5)), s1]) dX5_copyFrom_45 wpRX5_18 zCl_5 rfl (⟨zlb rfl, zlb rfl, hi⟩) rfl (by decide) rfl rfl rfl ?_
  refine zz_letm (Mf := fun s0_6 => [s0_6, s1]) fun s0_6 => ?_
  refine zz_aload_n F (i := 0) dX5_copyFrom_48 rfl rfl ?_
  refine zz_aload_n F (i := 1) dX5_copyFrom_49 rfl rfl ?_
  refine zz_getf F dX5_copyFrom_50 wfRX5_21 zCl_5 rfl (⟨zlb rfl, zlb rfl, hj⟩) rfl (by decide) rfl rfl ?_
  refine zz_put F (Ms' := [(zu s0_6 7 i 6 (s1 7 j 6)), s1]) dX5_copyFrom_53 wpRX5_21 zCl_5 rfl (⟨zlb rfl, zlb rfl, hi⟩) rfl (by decide) rfl rfl rfl ?_
  refine zz_letm (Mf := fun s0_7 => [s0_7, s1]) fun s0_7 => ?_
  refine zz_aload_n F (i := 0) dX5_copyFrom_56 rfl rfl ?_
  refine zz_aload_n F (i := 1) dX5_copyFrom_57 rfl rfl ?_
  refine zz_getf F dX5_copyFrom_58 wfRX5_47 zCl_5 rfl (⟨zlb rfl, zlb rfl, hj⟩) rfl (by decide) rfl rfl ?_
  refine zz_put F (Ms' := [(zu s0_7 7 i 7 (s1 7 j 7)), s1]) dX5_copyFrom_61 wpRX5_47 zCl_5 rfl (⟨zlb rfl, zlb rfl, hi⟩) rfl (by decide) rfl rfl rfl ?_
  refine zz_letm (Mf := fun s0_8 => [s0_8, s1]) fun s0_8 => ?_
  refine zz_aload_n F (i := 0) dX5_copyFrom_64 rfl rfl ?_
  refine zz_aload_n F (i := 1) dX5_copyFrom_65 rfl rfl ?_
  refine zz_getf F dX5_copyFrom_66 wfRX5_50 zCl_5 rfl (⟨zlb rfl, zlb rfl, hj⟩) rfl (by decide) rfl rfl ?_
  refine zz_put F (Ms' := [(zu s0_8 7 i 8 (s1 7 j 8)), s1]) dX5_copyFrom_69 wpRX5_50 zCl_5 rfl (⟨zlb rfl, zlb rfl, hi⟩) rfl (by decide) rfl rfl rfl ?_
  refine zz_letm (Mf := fun s0_9 => [s0_9, s1]) fun s0_9 => ?_
  refine zz_aload_n F (i := 0) dX5_copyFrom_72 rfl rfl ?_
  refine zz_aload_n F (i := 1) dX5_copyFrom_73 rfl rfl ?_
  refine zz_getf F dX5_copyFrom_74 wfRX5_53 zCl_5 rfl (⟨zlb rfl, zlb rfl, hj⟩) rfl (by decide) rfl rfl ?_
  refine zz_put F (Ms' := [(zu s0_9 7 i 9 (s1 7 j 9)), s1]) dX5_copyFrom_77 wpRX5_53 zCl_5 rfl (⟨zlb rfl, zlb rfl, hi⟩) rfl (by decide) rfl rfl rfl ?_
  refine zz_letm (Mf := fun s0_10 => [s0_10, s1]) fun s0_10 => ?_
  refine zz_aload_n F (i := 0) dX5_copyFrom_80 rfl rfl ?_
  refine zz_aload_n F (i := 1) dX5_copyFrom_81 rfl rfl ?_
  refine zz_getf F dX5_copyFrom_82 wfRX5_56 zCl_5 rfl (⟨zlb rfl, zlb rfl, hj⟩) rfl (by decide) rfl rfl ?_
  refine zz_put F (Ms' := [(zu s0_10 7 i 10 (s1 7 j 10)), s1]) dX5_copyFrom_85 wpRX5_56 zCl_5 rfl (⟨zlb rfl, zlb rfl, hi⟩) rfl (by decide) rfl rfl rfl ?_
  refine zz_letm (Mf := fun s0_11 => [s0_11, s1]) fun s0_11 => ?_
  refine zz_aload_n F (i := 1) dX5_copyFrom_88 rfl rfl ?_
  refine zz_getr F dX5_copyFrom_89 wfRX5_24 zCl_5 rfl (⟨zlb rfl, zlb rfl, hj⟩) rfl (by decide) rfl (r' := 1) (by decide) ?_
  refine zz_iconst F (v := (0 : Int32)) dX5_copyFrom_92 (by decide) ?_
  refine zz_aload_n F (i := 0) dX5_copyFrom_93 rfl rfl ?_
  refine zz_getr F dX5_copyFrom_94 wfRX5_24 zCl_5 rfl (⟨zlb rfl, zlb rfl, hi⟩) rfl (by decide) rfl (r' := 0) (by decide) ?_
  refine zz_iconst F (v := (0 : Int32)) dX5_copyFrom_97 (by decide) ?_
  refine zz_iconst F (v := (3 : Int32)) dX5_copyFrom_98 (by decide) ?_
  refine zz_copy F (Ms' := [(zur s0_11 8 i (va_cpy (s1 8 j) (s0_11 8 i) 0 0 3)), s1]) dX5_copyFrom_99 wmRX5_59 wCopy rfl (⟨zlb rfl, zlb rfl, hj⟩) rfl rfl (⟨zlb rfl, zlb rfl, hi⟩) rfl (by decide) (by decide) (by decide) (Nat.le_of_ble_eq_true rfl) (Nat.le_of_ble_eq_true rfl) (Nat.le_of_ble_eq_true rfl) (Nat.le_of_ble_eq_true rfl) rfl ?_
  refine zz_letm (Mf := fun s0_12 => [s0_12, s1]) fun s0_12 => ?_
  refine zz_aload_n F (i := 1) dX5_copyFrom_102 rfl rfl ?_
  refine zz_getr F dX5_copyFrom_103 wfRX5_28 zCl_5 rfl (⟨zlb rfl, zlb rfl, hj⟩) rfl (by decide) rfl (r' := 1) (by decide) ?_
  refine zz_iconst F (v := (0 : Int32)) dX5_copyFrom_106 (by decide) ?_
  refine zz_aload_n F (i := 0) dX5_copyFrom_107 rfl rfl ?_
  refine zz_getr F dX5_copyFrom_108 wfRX5_28 zCl_5 rfl (⟨zlb rfl, zlb rfl, hi⟩) rfl (by decide) rfl (r' := 0) (by decide) ?_
  refine zz_iconst F (v := (0 : Int32)) dX5_copyFrom_111 (by decide) ?_
  refine zz_bipush F (v := (8 : Int32)) dX5_copyFrom_112 (by decide) ?_
  refine zz_copy F (Ms' := [(zur s0_12 9 i (va_cpy (s1 9 j) (s0_12 9 i) 0 0 8)), s1]) dX5_copyFrom_114 wmRX5_59 wCopy rfl (⟨zlb rfl, zlb rfl, hj⟩) rfl rfl (⟨zlb rfl, zlb rfl, hi⟩) rfl (by decide) (by decide) (by decide) (Nat.le_of_ble_eq_true rfl) (Nat.le_of_ble_eq_true rfl) (Nat.le_of_ble_eq_true rfl) (Nat.le_of_ble_eq_true rfl) rfl ?_
  refine zz_letm (Mf := fun s0_13 => [s0_13, s1]) fun s0_13 => ?_
  refine zz_aload_n F (i := 0) dX5_copyFrom_117 rfl rfl ?_
  refine zz_getr F dX5_copyFrom_118 wfRX5_34 zCl_5 rfl (⟨zlb rfl, zlb rfl, hi⟩) rfl (by decide) rfl (r' := 0) (by decide) ?_
  refine zz_aload_n F (i := 1) dX5_copyFrom_121 rfl rfl ?_
  refine zz_getr F dX5_copyFrom_122 wfRX5_34 zCl_5 rfl (⟨zlb rfl, zlb rfl, hj⟩) rfl (by decide) rfl (r' := 1) (by decide) ?_
  refine zz_bind ?_
  refine zz_callVr F (ρ := [0, 1]) (so := fun q14 => []) (Mo := fun q14 => [q14, s1]) (zfEx_copyFrom i j hi hj s0_13 s1) dX5_copyFrom_125 wcRX5_65 wy_yX1_copyFrom rfl ⟨rel7, rfl, rfl, Nat.le_of_ble_eq_true rfl, Nat.le_of_ble_eq_true rfl, Nat.le_of_ble_eq_true rfl⟩ (⟨zlb rfl, zlb rfl, hi⟩) rfl rfl rfl (fun _ => rfl) (fun _ => rfl) fun q14 => ?_
  exact zz_return F dX5_copyFrom_128 rfl (hκ _)
theorem zfTu_copyFrom (i : Nat) (j : Nat) (hi : i < 8) (hj : j < 8) (s0 : zM) (s1 : zM) : ∀ a, fTu_copyFrom i j s0 s1 = some a → zMet yX5_copyFrom cX5_copyFrom 2 none 2 81 [(0, []), (0, [])] [zr 0 7 i, zr 1 7 j] [s0, s1] ((fun a => ((.inl ((fun _ => (none : Option zV)) a), (fun q => [q, s1]) a) : zO)) a) := fun a ha => zMet_of (L0 := [some (zr 0 7 i), some (zr 1 7 j)]) (φ := Option.bind (fTu_copyFrom i j s0 s1) (fun a => some ((fun a => ((.inl ((fun _ => (none : Option zV)) a), (fun q => [q, s1]) a) : zO)) a))) (by decide) (fun _ => Nat.le_of_ble_eq_true rfl) (zl0 0 rfl) (fun X F => bfTu_copyFrom F i j hi hj s0 s1 (fun _ => rfl)) (by rw [ha]; rfl)

theorem dX0_copyFrom_0 : decode cX0_copyFrom 0 = .ok (.aload_n 0, 1) := by decide +kernel
theorem dX0_copyFrom_1 : decode cX0_copyFrom 1 = .ok (.aload_n 1, 1) := by decide +kernel
theorem dX0_copyFrom_2 : decode cX0_copyFrom 2 = .ok (.getfield 7, 3) := by decide +kernel
theorem dX0_copyFrom_5 : decode cX0_copyFrom 5 = .ok (.putfield 7, 3) := by decide +kernel
theorem dX0_copyFrom_8 : decode cX0_copyFrom 8 = .ok (.aload_n 0, 1) := by decide +kernel
theorem dX0_copyFrom_9 : decode cX0_copyFrom 9 = .ok (.aload_n 1, 1) := by decide +kernel
theorem dX0_copyFrom_10 : decode cX0_copyFrom 10 = .ok (.getfield 13, 3) := by decide +kernel
theorem dX0_copyFrom_13 : decode cX0_copyFrom 13 = .ok (.putfield 13, 3) := by decide +kernel
theorem dX0_copyFrom_16 : decode cX0_copyFrom 16 = .ok (.aload_n 0, 1) := by decide +kernel
theorem dX0_copyFrom_17 : decode cX0_copyFrom 17 = .ok (.aload_n 1, 1) := by decide +kernel
theorem dX0_copyFrom_18 : decode cX0_copyFrom 18 = .ok (.getfield 16, 3) := by decide +kernel
theorem dX0_copyFrom_21 : decode cX0_copyFrom 21 = .ok (.putfield 16, 3) := by decide +kernel
theorem dX0_copyFrom_24 : decode cX0_copyFrom 24 = .ok (.return_, 1) := by decide +kernel
theorem wpRX0_7 : zFw RX0 7 0 0 .int := ⟨_, rfl, by decide, zm_f 596 (by decide +kernel) rfl, rfl, by decide +kernel⟩
theorem wfRX0_16 : zFl RX0 16 0 2 := ⟨_, rfl, by decide, zm_f 601 (by decide +kernel) rfl⟩
def fCa_copyFrom (i : Nat) (j : Nat) (s0 : zM) (s1 : zM) : Option (zM) :=
  zlet (zu s0 12 i 0 (s1 12 j 0)) fun s0_1 =>
  zlet (zu s0_1 12 i 1 (s1 12 j 1)) fun s0_2 =>
  zlet (zu s0_2 12 i 2 (s1 12 j 2)) fun s0_3 =>
  some s0_3
set_option maxHeartbeats 4000000 in
set_option maxRecDepth 20000 in
theorem bfCa_copyFrom {X : zX} (F : zFr X cX0_copyFrom 2 RX0 none) (i : Nat) (j : Nat) (hi : i < 3) (hj : j < 3) (s0 : zM) (s1 : zM) {κ : zM → Option zO} (hκ : ∀ a, κ a = some ((fun a => ((.inl ((fun _ => (none : Option zV)) a), (fun q => [q, s1]) a) : zO)) a)) : zZ X [(0, []), (0, [])] 0 0 2 0 [some (zr 0 12 i), some (zr 1 12 j)] [] [s0, s1] (Option.bind (fCa_copyFrom i j s0 s1) κ) := by
  unfold fCa_copyFrom
  refine zz_aload_n F (i := 0) dX0_copyFrom_0 rfl rfl ?_
  refine zz_aload_n F (i := 1) dX0_copyFrom_1 rfl rfl ?_
  refine zz_getf F dX0_copyFrom_2 wfRX0_7 zCl_0 rfl (⟨zlb rfl, zlb rfl, hj⟩) rfl (by decide) rfl rfl ?_
  refine zz_put F (Ms' := [(zu s0 12 i 0 (s1 12 j 0)), s1]) dX0_copyFrom_5 wpRX0_7 zCl_0 rfl (⟨zlb rfl, zlb rfl, hi⟩) rfl (by decide) rfl rfl rfl ?_
  refine zz_letm (Mf := fun s0_1 => [s0_1, s1]) fun s0_1 => ?_
  refine zz_aload_n F (i := 0) dX0_copyFrom_8 rfl rfl ?_
  refine zz_aload_n F (i := 1) dX0_copyFrom_9 rfl rfl ?_
  refine zz_getf F dX0_copyFrom_10 wfRX0_13 zCl_0 rfl (⟨zlb rfl, zlb rfl, hj⟩) rfl (by decide) rfl rfl ?_
  refine zz_put F (Ms' := [(zu s0_1 12 i 1 (s1 12 j 1)), s1]) dX0_copyFrom_13 wpRX0_13 zCl_0 rfl (⟨zlb rfl, zlb rfl, hi⟩) rfl (by decide) rfl rfl rfl ?_
  refine zz_letm (Mf := fun s0_2 => [s0_2, s1]) fun s0_2 => ?_
  refine zz_aload_n F (i := 0) dX0_copyFrom_16 rfl rfl ?_
  refine zz_aload_n F (i := 1) dX0_copyFrom_17 rfl rfl ?_
  refine zz_getf F dX0_copyFrom_18 wfRX0_16 zCl_0 rfl (⟨zlb rfl, zlb rfl, hj⟩) rfl (by decide) rfl rfl ?_
  refine zz_put F (Ms' := [(zu s0_2 12 i 2 (s1 12 j 2)), s1]) dX0_copyFrom_21 wpRX0_16 zCl_0 rfl (⟨zlb rfl, zlb rfl, hi⟩) rfl (by decide) rfl rfl rfl ?_
  refine zz_letm (Mf := fun s0_3 => [s0_3, s1]) fun s0_3 => ?_
  exact zz_return F dX0_copyFrom_24 rfl (hκ _)
theorem zfCa_copyFrom (i : Nat) (j : Nat) (hi : i < 3) (hj : j < 3) (s0 : zM) (s1 : zM) : ∀ a, fCa_copyFrom i j s0 s1 = some a → zMet yX0_copyFrom cX0_copyFrom 2 none 0 0 [(0, []), (0, [])] [zr 0 12 i, zr 1 12 j] [s0, s1] ((fun a => ((.inl ((fun _ => (none : Option zV)) a), (fun q => [q, s1]) a) : zO)) a) := fun a ha => zMet_of (L0 := [some (zr 0 12 i), some (zr 1 12 j)]) (φ := Option.bind (fCa_copyFrom i j s0 s1) (fun a => some ((fun a => ((.inl ((fun _ => (none : Option zV)) a), (fun q => [q, s1]) a) : zO)) a))) (by decide) (fun _ => Nat.le_of_ble_eq_true rfl) (zl0 0 rfl) (fun X F => bfCa_copyFrom F i j hi hj s0 s1 (fun _ => rfl)) (by rw [ha]; rfl)

theorem dX6_copyFrom_0 : decode cX6_copyFrom 0 = .ok (.aload_n 0, 1) := by decide +kernel
theorem dX6_copyFrom_1 : decode cX6_copyFrom 1 = .ok (.aload_n 1, 1) := by decide +kernel
theorem dX6_copyFrom_2 : decode cX6_copyFrom 2 = .ok (.getfield 18, 3) := by decide +kernel
theorem dX6_copyFrom_5 : decode cX6_copyFrom 5 = .ok (.putfield 18, 3) := by decide +kernel
theorem dX6_copyFrom_8 : decode cX6_copyFrom 8 = .ok (.aload_n 0, 1) := by decide +kernel
theorem dX6_copyFrom_9 : decode cX6_copyFrom 9 = .ok (.aload_n 1, 1) := by decide +kernel
theorem dX6_copyFrom_10 : decode cX6_copyFrom 10 = .ok (.getfield 9, 3) := by decide +kernel
theorem dX6_copyFrom_13 : decode cX6_copyFrom 13 = .ok (.putfield 9, 3) := by decide +kernel
theorem dX6_copyFrom_16 : decode cX6_copyFrom 16 = .ok (.aload_n 0, 1) := by decide +kernel
theorem dX6_copyFrom_17 : decode cX6_copyFrom 17 = .ok (.aload_n 1, 1) := by decide +kernel
theorem dX6_copyFrom_18 : decode cX6_copyFrom 18 = .ok (.getfield 21, 3) := by decide +kernel
theorem dX6_copyFrom_21 : decode cX6_copyFrom 21 = .ok (.putfield 21, 3) := by decide +kernel
theorem dX6_copyFrom_24 : decode cX6_copyFrom 24 = .ok (.aload_n 0, 1) := by decide +kernel
theorem dX6_copyFrom_25 : decode cX6_copyFrom 25 = .ok (.aload_n 1, 1) := by decide +kernel
theorem dX6_copyFrom_26 : decode cX6_copyFrom 26 = .ok (.getfield 15, 3) := by decide +kernel
theorem dX6_copyFrom_29 : decode cX6_copyFrom 29 = .ok (.putfield 15, 3) := by decide +kernel
theorem dX6_copyFrom_32 : decode cX6_copyFrom 32 = .ok (.aload_n 0, 1) := by decide +kernel
theorem dX6_copyFrom_33 : decode cX6_copyFrom 33 = .ok (.aload_n 1, 1) := by decide +kernel
theorem dX6_copyFrom_34 : decode cX6_copyFrom 34 = .ok (.getfield 25, 3) := by decide +kernel
theorem dX6_copyFrom_37 : decode cX6_copyFrom 37 = .ok (.putfield 25, 3) := by decide +kernel
theorem dX6_copyFrom_40 : decode cX6_copyFrom 40 = .ok (.aload_n 0, 1) := by decide +kernel
theorem dX6_copyFrom_41 : decode cX6_copyFrom 41 = .ok (.aload_n 1, 1) := by decide +kernel
theorem dX6_copyFrom_42 : decode cX6_copyFrom 42 = .ok (.getfield 28, 3) := by decide +kernel
theorem dX6_copyFrom_45 : decode cX6_copyFrom 45 = .ok (.putfield 28, 3) := by decide +kernel
theorem dX6_copyFrom_48 : decode cX6_copyFrom 48 = .ok (.return_, 1) := by decide +kernel
theorem wfRX6_18 : zFl RX6 18 6 0 := ⟨_, rfl, by decide, zm_f 615 (by decide +kernel) rfl⟩
theorem wpRX6_18 : zFw RX6 18 6 0 .int := ⟨_, rfl, by decide, zm_f 615 (by decide +kernel) rfl, rfl, by decide +kernel⟩
theorem wfRX6_9 : zFl RX6 9 6 1 := ⟨_, rfl, by decide, zm_f 617 (by decide +kernel) rfl⟩
theorem wpRX6_9 : zFw RX6 9 6 1 .int := ⟨_, rfl, by decide, zm_f 617 (by decide +kernel) rfl, rfl, by decide +kernel⟩
theorem wfRX6_21 : zFl RX6 21 6 2 := ⟨_, rfl, by decide, zm_f 620 (by decide +kernel) rfl⟩
theorem wpRX6_21 : zFw RX6 21 6 2 .boolean := ⟨_, rfl, by decide, zm_f 620 (by decide +kernel) rfl, rfl, by decide +kernel⟩
theorem wfRX6_28 : zFl RX6 28 6 5 := ⟨_, rfl, by decide, zm_f 628 (by decide +kernel) rfl⟩
theorem wpRX6_28 : zFw RX6 28 6 5 .int := ⟨_, rfl, by decide, zm_f 628 (by decide +kernel) rfl, rfl, by decide +kernel⟩
def fVe_copyFrom (i : Nat) (j : Nat) (s0 : zM) (s1 : zM) : Option (zM) :=
  zlet (zu s0 13 i 0 (s1 13 j 0)) fun s0_1 =>
  zlet (zu s0_1 13 i 1 (s1 13 j 1)) fun s0_2 =>
  zlet (zu s0_2 13 i 2 (s1 13 j 2 &&& 1)) fun s0_3 =>
  zlet (zu s0_3 13 i 3 (s1 13 j 3)) fun s0_4 =>
  zlet (zu s0_4 13 i 4 (s1 13 j 4)) fun s0_5 =>
  zlet (zu s0_5 13 i 5 (s1 13 j 5)) fun s0_6 =>
  some s0_6
set_option maxHeartbeats 4000000 in
set_option maxRecDepth 20000 in
theorem bfVe_copyFrom {X : zX} (F : zFr X cX6_copyFrom 2 RX6 none) (i : Nat) (j : Nat) (hi : i < 3) (hj : j < 3) (s0 : zM) (s1 : zM) {κ : zM → Option zO} (hκ : ∀ a, κ a = some ((fun a => ((.inl ((fun _ => (none : Option zV)) a), (fun q => [q, s1]) a) : zO)) a)) : zZ X [(0, []), (0, [])] 0 0 2 0 [some (zr 0 13 i), some (zr 1 13 j)] [] [s0, s1] (Option.bind (fVe_copyFrom i j s0 s1) κ) := by
  unfold fVe_copyFrom
  refine zz_aload_n F (i := 0) dX6_copyFrom_0 rfl rfl ?_
  refine zz_aload_n F (i := 1) dX6_copyFrom_1 rfl rfl ?_
  refine zz_getf F dX6_copyFrom_2 wfRX6_18 zCl_6 rfl (⟨zlb rfl, zlb rfl, hj⟩) rfl (by decide) rfl rfl ?_
  refine zz_put F (Ms' := [(zu s0 13 i 0 (s1 13 j 0)), s1]) dX6_copyFrom_5 wpRX6_18 zCl_6 rfl (⟨zlb rfl, zlb rfl, hi⟩) rfl (by decide) rfl rfl rfl ?_
  refine zz_letm (Mf := fun s0_1 => [s0_1, s1]) fun s0_1 => ?_
  refine zz_aload_n F (i := 0) dX6_copyFrom_8 rfl rfl ?_
  refine zz_aload_n F (i := 1) dX6_copyFrom_9 rfl rfl ?_
  refine zz_getf F dX6_copyFrom_10 wfRX6_9 zCl_6 rfl (⟨zlb rfl, zlb rfl, hj⟩) rfl (by decide) rfl rfl ?_
  refine zz_put F (Ms' := [(zu s0_1 13 i 1 (s1 13 j 1)), s1]) dX6_copyFrom_13 wpRX6_9 zCl_6 rfl (⟨zlb rfl, zlb rfl, hi⟩) rfl (by decide) rfl rfl rfl ?_
  refine zz_letm (Mf := fun s0_2 => [s0_2, s1]) fun s0_2 => ?_
  refine zz_aload_n F (i := 0) dX6_copyFrom_16 rfl rfl ?_
  refine zz_aload_n F (i := 1) dX6_copyFrom_17 rfl rfl ?_
  refine zz_getb F dX6_copyFrom_18 wfRX6_21 zCl_6 rfl (⟨zlb rfl, zlb rfl, hj⟩) rfl (by decide) rfl rfl ?_
  refine zz_putb F (Ms' := [(zu s0_2 13 i 2 (s1 13 j 2 &&& 1)), s1]) dX6_copyFrom_21 wpRX6_21 zCl_6 rfl (⟨zlb rfl, zlb rfl, hi⟩) rfl (by decide) rfl rfl (zb01 _) rfl ?_
  refine zz_letm (Mf := fun s0_3 => [s0_3, s1]) fun s0_3 => ?_
  refine zz_aload_n F (i := 0) dX6_copyFrom_24 rfl rfl ?_
  refine zz_aload_n F (i := 1) dX6_copyFrom_25 rfl rfl ?_
  refine zz_getf F dX6_copyFrom_26 wfRX6_15 zCl_6 rfl (⟨zlb rfl, zlb rfl, hj⟩) rfl (by decide) rfl rfl ?_
  refine zz_put F (Ms' := [(zu s0_3 13 i 3 (s1 13 j 3)), s1]) dX6_copyFrom_29 wpRX6_15 zCl_6 rfl (⟨zlb rfl, zlb rfl, hi⟩) rfl (by decide) rfl rfl rfl ?_
  refine zz_letm (Mf := fun s0_4 => [s0_4, s1]) fun s0_4 => ?_
  refine zz_aload_n F (i := 0) dX6_copyFrom_32 rfl rfl ?_
  refine zz_aload_n F (i := 1) dX6_copyFrom_33 rfl rfl ?_
  refine zz_getf F dX6_copyFrom_34 wfRX6_25 zCl_6 rfl (⟨zlb rfl, zlb rfl, hj⟩) rfl (by decide) rfl rfl ?_
  refine zz_put F (Ms' := [(zu s0_4 13 i 4 (s1 13 j 4)), s1]) dX6_copyFrom_37 wpRX6_25 zCl_6 rfl (⟨zlb rfl, zlb rfl, hi⟩) rfl (by decide) rfl rfl rfl ?_
  refine zz_letm (Mf := fun s0_5 => [s0_5, s1]) fun s0_5 => ?_
  refine zz_aload_n F (i := 0) dX6_copyFrom_40 rfl rfl ?_
  refine zz_aload_n F (i := 1) dX6_copyFrom_41 rfl rfl ?_
  refine zz_getf F dX6_copyFrom_42 wfRX6_28 zCl_6 rfl (⟨zlb rfl, zlb rfl, hj⟩) rfl (by decide) rfl rfl ?_
  refine zz_put F (Ms' := [(zu s0_5 13 i 5 (s1 13 j 5)), s1]) dX6_copyFrom_45 wpRX6_28 zCl_6 rfl (⟨zlb rfl, zlb rfl, hi⟩) rfl (by decide) rfl rfl rfl ?_
  refine zz_letm (Mf := fun s0_6 => [s0_6, s1]) fun s0_6 => ?_
  exact zz_return F dX6_copyFrom_48 rfl (hκ _)
theorem zfVe_copyFrom (i : Nat) (j : Nat) (hi : i < 3) (hj : j < 3) (s0 : zM) (s1 : zM) : ∀ a, fVe_copyFrom i j s0 s1 = some a → zMet yX6_copyFrom cX6_copyFrom 2 none 0 0 [(0, []), (0, [])] [zr 0 13 i, zr 1 13 j] [s0, s1] ((fun a => ((.inl ((fun _ => (none : Option zV)) a), (fun q => [q, s1]) a) : zO)) a) := fun a ha => zMet_of (L0 := [some (zr 0 13 i), some (zr 1 13 j)]) (φ := Option.bind (fVe_copyFrom i j s0 s1) (fun a => some ((fun a => ((.inl ((fun _ => (none : Option zV)) a), (fun q => [q, s1]) a) : zO)) a))) (by decide) (fun _ => Nat.le_of_ble_eq_true rfl) (zl0 0 rfl) (fun X F => bfVe_copyFrom F i j hi hj s0 s1 (fun _ => rfl)) (by rw [ha]; rfl)

theorem dX3_copyFrom_0 : decode cX3_copyFrom 0 = .ok (.aload_n 0, 1) := by decide +kernel
theorem dX3_copyFrom_1 : decode cX3_copyFrom 1 = .ok (.aload_n 1, 1) := by decide +kernel
theorem dX3_copyFrom_2 : decode cX3_copyFrom 2 = .ok (.getfield 56, 3) := by decide +kernel
theorem dX3_copyFrom_5 : decode cX3_copyFrom 5 = .ok (.putfield 56, 3) := by decide +kernel
theorem dX3_copyFrom_8 : decode cX3_copyFrom 8 = .ok (.aload_n 0, 1) := by decide +kernel
theorem dX3_copyFrom_9 : decode cX3_copyFrom 9 = .ok (.aload_n 1, 1) := by decide +kernel
theorem dX3_copyFrom_10 : decode cX3_copyFrom 10 = .ok (.getfield 50, 3) := by decide +kernel
theorem dX3_copyFrom_13 : decode cX3_copyFrom 13 = .ok (.putfield 50, 3) := by decide +kernel
theorem dX3_copyFrom_16 : decode cX3_copyFrom 16 = .ok (.aload_n 0, 1) := by decide +kernel
theorem dX3_copyFrom_17 : decode cX3_copyFrom 17 = .ok (.aload_n 1, 1) := by decide +kernel
theorem dX3_copyFrom_18 : decode cX3_copyFrom 18 = .ok (.getfield 68, 3) := by decide +kernel
theorem dX3_copyFrom_21 : decode cX3_copyFrom 21 = .ok (.putfield 68, 3) := by decide +kernel
theorem dX3_copyFrom_24 : decode cX3_copyFrom 24 = .ok (.aload_n 0, 1) := by decide +kernel
theorem dX3_copyFrom_25 : decode cX3_copyFrom 25 = .ok (.aload_n 1, 1) := by decide +kernel
theorem dX3_copyFrom_26 : decode cX3_copyFrom 26 = .ok (.getfield 74, 3) := by decide +kernel
theorem dX3_copyFrom_29 : decode cX3_copyFrom 29 = .ok (.putfield 74, 3) := by decide +kernel
theorem dX3_copyFrom_32 : decode cX3_copyFrom 32 = .ok (.aload_n 0, 1) := by decide +kernel
theorem dX3_copyFrom_33 : decode cX3_copyFrom 33 = .ok (.aload_n 1, 1) := by decide +kernel
theorem dX3_copyFrom_34 : decode cX3_copyFrom 34 = .ok (.getfield 43, 3) := by decide +kernel
theorem dX3_copyFrom_37 : decode cX3_copyFrom 37 = .ok (.putfield 43, 3) := by decide +kernel
theorem dX3_copyFrom_40 : decode cX3_copyFrom 40 = .ok (.aload_n 0, 1) := by decide +kernel
theorem dX3_copyFrom_41 : decode cX3_copyFrom 41 = .ok (.aload_n 1, 1) := by decide +kernel
theorem dX3_copyFrom_42 : decode cX3_copyFrom 42 = .ok (.getfield 77, 3) := by decide +kernel
theorem dX3_copyFrom_45 : decode cX3_copyFrom 45 = .ok (.putfield 77, 3) := by decide +kernel
theorem dX3_copyFrom_48 : decode cX3_copyFrom 48 = .ok (.aload_n 0, 1) := by decide +kernel
theorem dX3_copyFrom_49 : decode cX3_copyFrom 49 = .ok (.getfield 32, 3) := by decide +kernel
theorem dX3_copyFrom_52 : decode cX3_copyFrom 52 = .ok (.aload_n 1, 1) := by decide +kernel
theorem dX3_copyFrom_53 : decode cX3_copyFrom 53 = .ok (.getfield 32, 3) := by decide +kernel
theorem dX3_copyFrom_56 : decode cX3_copyFrom 56 = .ok (.invokevirtual 80, 3) := by decide +kernel
theorem dX3_copyFrom_59 : decode cX3_copyFrom 59 = .ok (.aload_n 0, 1) := by decide +kernel
theorem dX3_copyFrom_60 : decode cX3_copyFrom 60 = .ok (.getfield 39, 3) := by decide +kernel
theorem dX3_copyFrom_63 : decode cX3_copyFrom 63 = .ok (.aload_n 1, 1) := by decide +kernel
theorem dX3_copyFrom_64 : decode cX3_copyFrom 64 = .ok (.getfield 39, 3) := by decide +kernel
theorem dX3_copyFrom_67 : decode cX3_copyFrom 67 = .ok (.invokevirtual 84, 3) := by decide +kernel
theorem dX3_copyFrom_70 : decode cX3_copyFrom 70 = .ok (.iconst 0, 1) := by decide +kernel
theorem dX3_copyFrom_71 : decode cX3_copyFrom 71 = .ok (.istore_n 2, 1) := by decide +kernel
theorem dX3_copyFrom_72 : decode cX3_copyFrom 72 = .ok (.iload_n 2, 1) := by decide +kernel
theorem dX3_copyFrom_73 : decode cX3_copyFrom 73 = .ok (.aload_n 0, 1) := by decide +kernel
theorem dX3_copyFrom_74 : decode cX3_copyFrom 74 = .ok (.getfield 56, 3) := by decide +kernel
theorem dX3_copyFrom_77 : decode cX3_copyFrom 77 = .ok (.if_icmp .ge 24, 3) := by decide +kernel
theorem dX3_copyFrom_80 : decode cX3_copyFrom 80 = .ok (.aload_n 0, 1) := by decide +kernel
theorem dX3_copyFrom_81 : decode cX3_copyFrom 81 = .ok (.getfield 11, 3) := by decide +kernel
theorem dX3_copyFrom_84 : decode cX3_copyFrom 84 = .ok (.iload_n 2, 1) := by decide +kernel
theorem dX3_copyFrom_85 : decode cX3_copyFrom 85 = .ok (.aaload, 1) := by decide +kernel
theorem dX3_copyFrom_86 : decode cX3_copyFrom 86 = .ok (.aload_n 1, 1) := by decide +kernel
theorem dX3_copyFrom_87 : decode cX3_copyFrom 87 = .ok (.getfield 11, 3) := by decide +kernel
theorem dX3_copyFrom_90 : decode cX3_copyFrom 90 = .ok (.iload_n 2, 1) := by decide +kernel
theorem dX3_copyFrom_91 : decode cX3_copyFrom 91 = .ok (.aaload, 1) := by decide +kernel
theorem dX3_copyFrom_92 : decode cX3_copyFrom 92 = .ok (.invokevirtual 87, 3) := by decide +kernel
theorem dX3_copyFrom_95 : decode cX3_copyFrom 95 = .ok (.iinc 2 1, 3) := by decide +kernel
theorem dX3_copyFrom_98 : decode cX3_copyFrom 98 = .ok (.goto (-26), 3) := by decide +kernel
theorem dX3_copyFrom_101 : decode cX3_copyFrom 101 = .ok (.iconst 0, 1) := by decide +kernel
theorem dX3_copyFrom_102 : decode cX3_copyFrom 102 = .ok (.istore_n 2, 1) := by decide +kernel
theorem dX3_copyFrom_103 : decode cX3_copyFrom 103 = .ok (.iload_n 2, 1) := by decide +kernel
theorem dX3_copyFrom_104 : decode cX3_copyFrom 104 = .ok (.aload_n 0, 1) := by decide +kernel
theorem dX3_copyFrom_105 : decode cX3_copyFrom 105 = .ok (.getfield 50, 3) := by decide +kernel
theorem dX3_copyFrom_108 : decode cX3_copyFrom 108 = .ok (.if_icmp .ge 24, 3) := by decide +kernel
theorem dX3_copyFrom_111 : decode cX3_copyFrom 111 = .ok (.aload_n 0, 1) := by decide +kernel
theorem dX3_copyFrom_112 : decode cX3_copyFrom 112 = .ok (.getfield 19, 3) := by decide +kernel
theorem dX3_copyFrom_115 : decode cX3_copyFrom 115 = .ok (.iload_n 2, 1) := by decide +kernel
theorem dX3_copyFrom_116 : decode cX3_copyFrom 116 = .ok (.aaload, 1) := by decide +kernel
theorem dX3_copyFrom_117 : decode cX3_copyFrom 117 = .ok (.aload_n 1, 1) := by decide +kernel
theorem dX3_copyFrom_118 : decode cX3_copyFrom 118 = .ok (.getfield 19, 3) := by decide +kernel
theorem dX3_copyFrom_121 : decode cX3_copyFrom 121 = .ok (.iload_n 2, 1) := by decide +kernel
theorem dX3_copyFrom_122 : decode cX3_copyFrom 122 = .ok (.aaload, 1) := by decide +kernel
theorem dX3_copyFrom_123 : decode cX3_copyFrom 123 = .ok (.invokevirtual 90, 3) := by decide +kernel
theorem dX3_copyFrom_126 : decode cX3_copyFrom 126 = .ok (.iinc 2 1, 3) := by decide +kernel
theorem dX3_copyFrom_129 : decode cX3_copyFrom 129 = .ok (.goto (-26), 3) := by decide +kernel
theorem dX3_copyFrom_132 : decode cX3_copyFrom 132 = .ok (.iconst 0, 1) := by decide +kernel
theorem dX3_copyFrom_133 : decode cX3_copyFrom 133 = .ok (.istore_n 2, 1) := by decide +kernel
theorem dX3_copyFrom_134 : decode cX3_copyFrom 134 = .ok (.iload_n 2, 1) := by decide +kernel
theorem dX3_copyFrom_135 : decode cX3_copyFrom 135 = .ok (.aload_n 0, 1) := by decide +kernel
theorem dX3_copyFrom_136 : decode cX3_copyFrom 136 = .ok (.getfield 68, 3) := by decide +kernel
theorem dX3_copyFrom_139 : decode cX3_copyFrom 139 = .ok (.if_icmp .ge 24, 3) := by decide +kernel
theorem dX3_copyFrom_142 : decode cX3_copyFrom 142 = .ok (.aload_n 0, 1) := by decide +kernel
theorem dX3_copyFrom_143 : decode cX3_copyFrom 143 = .ok (.getfield 25, 3) := by decide +kernel
theorem dX3_copyFrom_146 : decode cX3_copyFrom 146 = .ok (.iload_n 2, 1) := by decide +kernel
theorem dX3_copyFrom_147 : decode cX3_copyFrom 147 = .ok (.aaload, 1) := by decide +kernel
theorem dX3_copyFrom_148 : decode cX3_copyFrom 148 = .ok (.aload_n 1, 1) := by decide +kernel
theorem dX3_copyFrom_149 : decode cX3_copyFrom 149 = .ok (.getfield 25, 3) := by decide +kernel
theorem dX3_copyFrom_152 : decode cX3_copyFrom 152 = .ok (.iload_n 2, 1) := by decide +kernel
theorem dX3_copyFrom_153 : decode cX3_copyFrom 153 = .ok (.aaload, 1) := by decide +kernel
theorem dX3_copyFrom_154 : decode cX3_copyFrom 154 = .ok (.invokevirtual 93, 3) := by decide +kernel
theorem dX3_copyFrom_157 : decode cX3_copyFrom 157 = .ok (.iinc 2 1, 3) := by decide +kernel
theorem dX3_copyFrom_160 : decode cX3_copyFrom 160 = .ok (.goto (-26), 3) := by decide +kernel
theorem dX3_copyFrom_163 : decode cX3_copyFrom 163 = .ok (.return_, 1) := by decide +kernel
theorem wpRX3_68 : zFw RX3 68 3 7 .int := ⟨_, rfl, by decide, zm_f 660 (by decide +kernel) rfl, rfl, by decide +kernel⟩
theorem wpRX3_43 : zFw RX3 43 3 9 .int := ⟨_, rfl, by decide, zm_f 664 (by decide +kernel) rfl, rfl, by decide +kernel⟩
theorem wcRX3_80 : Cond.methodLink RX3 80 yX8_copyFrom ∈ zTg ∧ Cond.instanceMethod yX8_copyFrom ∈ zTg ∧ Cond.selects RX8 yX8_copyFrom yX8_copyFrom ∈ zTg ∧ Cond.initialized RX8 ∈ zTg ∧ Cond.code yX8_copyFrom cX8_copyFrom 2 none ∈ zTg := ⟨zm_f 309 (by decide +kernel) rfl, zm_f 310 (by decide +kernel) rfl, zm_f 311 (by decide +kernel) rfl, zm_f 23 (by decide +kernel) rfl, zm_f 312 (by decide +kernel) rfl⟩
theorem wy_yX8_copyFrom : yX8_copyFrom.cls = RX8 ∧ yX8_copyFrom.cls ≠ "java/lang/invoke/MethodHandle" ∧ yX8_copyFrom.cls ≠ "java/lang/invoke/VarHandle" ∧ (parseMethodDescriptor yX8_copyFrom.desc).map (fun d => d.parameters.length) = some 1 := by decide +kernel
theorem wcRX3_84 : Cond.methodLink RX3 84 yX2_copyFrom ∈ zTg ∧ Cond.instanceMethod yX2_copyFrom ∈ zTg ∧ Cond.selects RX2 yX2_copyFrom yX2_copyFrom ∈ zTg ∧ Cond.initialized RX2 ∈ zTg ∧ Cond.code yX2_copyFrom cX2_copyFrom 2 none ∈ zTg := ⟨zm_f 314 (by decide +kernel) rfl, zm_f 315 (by decide +kernel) rfl, zm_f 316 (by decide +kernel) rfl, zm_f 24 (by decide +kernel) rfl, zm_f 317 (by decide +kernel) rfl⟩
theorem wy_yX2_copyFrom : yX2_copyFrom.cls = RX2 ∧ yX2_copyFrom.cls ≠ "java/lang/invoke/MethodHandle" ∧ yX2_copyFrom.cls ≠ "java/lang/invoke/VarHandle" ∧ (parseMethodDescriptor yX2_copyFrom.desc).map (fun d => d.parameters.length) = some 1 := by decide +kernel
theorem wcRX3_87 : Cond.methodLink RX3 87 yX5_copyFrom ∈ zTg ∧ Cond.instanceMethod yX5_copyFrom ∈ zTg ∧ Cond.selects RX5 yX5_copyFrom yX5_copyFrom ∈ zTg ∧ Cond.initialized RX5 ∈ zTg ∧ Cond.code yX5_copyFrom cX5_copyFrom 2 none ∈ zTg := ⟨zm_f 321 (by decide +kernel) rfl, zm_f 322 (by decide +kernel) rfl, zm_f 323 (by decide +kernel) rfl, zm_f 25 (by decide +kernel) rfl, zm_f 324 (by decide +kernel) rfl⟩
theorem wy_yX5_copyFrom : yX5_copyFrom.cls = RX5 ∧ yX5_copyFrom.cls ≠ "java/lang/invoke/MethodHandle" ∧ yX5_copyFrom.cls ≠ "java/lang/invoke/VarHandle" ∧ (parseMethodDescriptor yX5_copyFrom.desc).map (fun d => d.parameters.length) = some 1 := by decide +kernel
theorem wcRX3_90 : Cond.methodLink RX3 90 yX0_copyFrom ∈ zTg ∧ Cond.instanceMethod yX0_copyFrom ∈ zTg ∧ Cond.selects RX0 yX0_copyFrom yX0_copyFrom ∈ zTg ∧ Cond.initialized RX0 ∈ zTg ∧ Cond.code yX0_copyFrom cX0_copyFrom 2 none ∈ zTg := ⟨zm_f 331 (by decide +kernel) rfl, zm_f 332 (by decide +kernel) rfl, zm_f 333 (by decide +kernel) rfl, zm_f 27 (by decide +kernel) rfl, zm_f 334 (by decide +kernel) rfl⟩
theorem wy_yX0_copyFrom : yX0_copyFrom.cls = RX0 ∧ yX0_copyFrom.cls ≠ "java/lang/invoke/MethodHandle" ∧ yX0_copyFrom.cls ≠ "java/lang/invoke/VarHandle" ∧ (parseMethodDescriptor yX0_copyFrom.desc).map (fun d => d.parameters.length) = some 1 := by decide +kernel
theorem wcRX3_93 : Cond.methodLink RX3 93 yX6_copyFrom ∈ zTg ∧ Cond.instanceMethod yX6_copyFrom ∈ zTg ∧ Cond.selects RX6 yX6_copyFrom yX6_copyFrom ∈ zTg ∧ Cond.initialized RX6 ∈ zTg ∧ Cond.code yX6_copyFrom cX6_copyFrom 2 none ∈ zTg := ⟨zm_f 335 (by decide +kernel) rfl, zm_f 336 (by decide +kernel) rfl, zm_f 337 (by decide +kernel) rfl, zm_f 28 (by decide +kernel) rfl, zm_f 338 (by decide +kernel) rfl⟩
theorem wy_yX6_copyFrom : yX6_copyFrom.cls = RX6 ∧ yX6_copyFrom.cls ≠ "java/lang/invoke/MethodHandle" ∧ yX6_copyFrom.cls ≠ "java/lang/invoke/VarHandle" ∧ (parseMethodDescriptor yX6_copyFrom.desc).map (fun d => d.parameters.length) = some 1 := by decide +kernel
def fSe_copyFrom_l72 (s1 : zM) (q9 : Int32 × zM) : Option ((Int32 × zM) ⊕ ((zM))) :=
  if (q9.2 0 0 5) ≤ q9.1 then
  some (.inr q9.2)
else
  zix q9.1 8 fun j11 =>
    zix q9.1 8 fun j12 =>
    Option.bind (fTu_copyFrom j11 j12 q9.2 s1) fun q13 =>
    zlet (q9.1 + 1) fun v14 =>
    some (.inl (v14, q13))
def fSe_copyFrom_l103 (s1 : zM) (q15 : Int32 × zM) : Option ((Int32 × zM) ⊕ ((zM))) :=
  if (q15.2 0 0 6) ≤ q15.1 then
  some (.inr q15.2)
else
  zix q15.1 3 fun j17 =>
    zix q15.1 3 fun j18 =>
    Option.bind (fCa_copyFrom j17 j18 q15.2 s1) fun q19 =>
    zlet (q15.1 + 1) fun v20 =>
    some (.inl (v20, q19))
def fSe_copyFrom_l134 (s1 : zM) (q21 : Int32 × zM) : Option ((Int32 × zM) ⊕ ((zM))) :=
  if (q21.2 0 0 7) ≤ q21.1 then
  some (.inr q21.2)
else
  zix q21.1 3 fun j23 =>
    zix q21.1 3 fun j24 =>
    Option.bind (fVe_copyFrom j23 j24 q21.2 s1) fun q25 =>
    zlet (q21.1 + 1) fun v26 =>
    some (.inl (v26, q25))
def fSe_copyFrom  (s0 : zM) (s1 : zM) : Option (zM) :=
  zlet (zu s0 0 0 5 (s1 0 0 5)) fun s0_1 =>
  zlet (zu s0_1 0 0 6 (s1 0 0 6)) fun s0_2 =>
  zlet (zu s0_2 0 0 7 (s1 0 0 7)) fun s0_3 =>
  zlet (zu s0_3 0 0 8 (s1 0 0 8)) fun s0_4 =>
  zlet (zu s0_4 0 0 9 (s1 0 0 9)) fun s0_5 =>
  zlet (zu s0_5 0 0 10 (s1 0 0 10)) fun s0_6 =>
  Option.bind (fWe_copyFrom s0_6 s1) fun q7 =>
  Option.bind (fLe_copyFrom q7 s1) fun q8 =>
  Option.bind (ziter (fSe_copyFrom_l72 s1) 1000 ((0 : Int32), q8)) fun q10 =>
  Option.bind (ziter (fSe_copyFrom_l103 s1) 1000 ((0 : Int32), q10)) fun q16 =>
  Option.bind (ziter (fSe_copyFrom_l134 s1) 1000 ((0 : Int32), q16)) fun q22 =>
  some q22
set_option maxHeartbeats 4000000 in
set_option maxRecDepth 20000 in
theorem bfSe_copyFrom_l72 {X : zX} (F : zFr X cX3_copyFrom 3 RX3 none) (s1 : zM)  {ψ : (Int32 × zM) ⊕ ((zM)) → Option zO} (h1 : ∀ q9 : Int32 × zM, zZ X [(0, []), (0, [])] 3 102 3 72 [some (zr 0 0 0), some (zr 1 0 0), some (zi q9.1)] [] [q9.2, s1] (ψ (.inl q9))) (h2 : ∀ q10 : zM, zZ X [(0, []), (0, [])] 3 102 3 101 [some (zr 0 0 0), some (zr 1 0 0), none] [] [q10, s1] (ψ (.inr q10))) (q9 : Int32 × zM) : zZ X [(0, []), (0, [])] 3 102 3 72 [some (zr 0 0 0), some (zr 1 0 0), some (zi q9.1)] [] [q9.2, s1] (Option.bind (fSe_copyFrom_l72 s1 q9) ψ) := by
  unfold fSe_copyFrom_l72
  refine zz_iload_n F (i := 2) dX3_copyFrom_72 rfl rfl ?_
  refine zz_aload_n F (i := 0) dX3_copyFrom_73 rfl rfl ?_
  refine zz_getf F dX3_copyFrom_74 wfRX3_56 zCl_3 rfl (⟨zlb rfl, zlb rfl, zlb rfl⟩) rfl (by decide) rfl rfl ?_
  refine zz_icmp_ge F (tgt := 101) dX3_copyFrom_77 (by decide) (fun h => zz_t h ?_) (fun h => zz_f h ?_)
  · exact zz_sub (zs_k (zs_k (zs_n zs_z))) (h2 q9.2)
  · refine zz_aload_n F (i := 0) dX3_copyFrom_80 rfl rfl ?_
    refine zz_getr F dX3_copyFrom_81 wfRX3_11 zCl_3 rfl (⟨zlb rfl, zlb rfl, zlb rfl⟩) rfl (by decide) rfl (r' := 0) (by decide) ?_
    refine zz_iload_n F (i := 2) dX3_copyFrom_84 rfl rfl ?_
    refine zz_ix fun j11 hj11 hinj11 hej11 => zz_aal F dX3_copyFrom_85 rfl (⟨zlb rfl, zlb rfl, zlb rfl⟩) rfl (by decide) rfl hinj11 hej11 rfl ?_
    refine zz_aload_n F (i := 1) dX3_copyFrom_86 rfl rfl ?_
    refine zz_getr F dX3_copyFrom_87 wfRX3_11 zCl_3 rfl (⟨zlb rfl, zlb rfl, zlb rfl⟩) rfl (by decide) rfl (r' := 1) (by decide) ?_
    refine zz_iload_n F (i := 2) dX3_copyFrom_90 rfl rfl ?_
    refine zz_ix fun j12 hj12 hinj12 hej12 => zz_aal F dX3_copyFrom_91 rfl (⟨zlb rfl, zlb rfl, zlb rfl⟩) rfl (by decide) rfl hinj12 hej12 rfl ?_
    refine zz_bind ?_
    refine zz_callVr F (ρ := [0, 1]) (so := fun q13 => []) (Mo := fun q13 => [q13, s1]) (zfTu_copyFrom j11 j12 hj11 hj12 q9.2 s1) dX3_copyFrom_92 wcRX3_87 wy_yX5_copyFrom rfl ⟨rel7, rfl, rfl, Nat.le_of_ble_eq_true rfl, Nat.le_of_ble_eq_true rfl, Nat.le_of_ble_eq_true rfl⟩ (⟨zlb rfl, zlb rfl, hj11⟩) rfl rfl rfl (fun _ => rfl) (fun _ => rfl) fun q13 => ?_
    refine zz_iinc F (i := 2) (v := q9.1 + 1) (L' := [some (zr 0 0 0), some (zr 1 0 0), some (zi (q9.1 + 1))]) dX3_copyFrom_95 rfl (by first | rfl | decide) (by decide) rfl rfl ?_
    refine zz_letl (Lf := fun v14 => [some (zr 0 0 0), some (zr 1 0 0), some (zi v14)]) fun v14 => ?_
    refine zz_goto F (tgt := 72) dX3_copyFrom_98 (by decide) ?_
    exact zz_sub (zs_k (zs_k (zs_k zs_z))) (h1 (v14, q13))
set_option maxHeartbeats 4000000 in
set_option maxRecDepth 20000 in
theorem bfSe_copyFrom_l103 {X : zX} (F : zFr X cX3_copyFrom 3 RX3 none) (s1 : zM)  {ψ : (Int32 × zM) ⊕ ((zM)) → Option zO} (h1 : ∀ q15 : Int32 × zM, zZ X [(0, []), (0, [])] 3 102 3 103 [some (zr 0 0 0), some (zr 1 0 0), some (zi q15.1)] [] [q15.2, s1] (ψ (.inl q15))) (h2 : ∀ q16 : zM, zZ X [(0, []), (0, [])] 3 102 3 132 [some (zr 0 0 0), some (zr 1 0 0), none] [] [q16, s1] (ψ (.inr q16))) (q15 : Int32 × zM) : zZ X [(0, []), (0, [])] 3 102 3 103 [some (zr 0 0 0), some (zr 1 0 0), some (zi q15.1)] [] [q15.2, s1] (Option.bind (fSe_copyFrom_l103 s1 q15) ψ) := by
  unfold fSe_copyFrom_l103
  refine zz_iload_n F (i := 2) dX3_copyFrom_103 rfl rfl ?_
  refine zz_aload_n F (i := 0) dX3_copyFrom_104 rfl rfl ?_
  refine zz_getf F dX3_copyFrom_105 wfRX3_50 zCl_3 rfl (⟨zlb rfl, zlb rfl, zlb rfl⟩) rfl (by decide) rfl rfl ?_
  refine zz_icmp_ge F (tgt := 132) dX3_copyFrom_108 (by decide) (fun h => zz_t h ?_) (fun h => zz_f h ?_)
  · exact zz_sub (zs_k (zs_k (zs_n zs_z))) (h2 q15.2)
  · refine zz_aload_n F (i := 0) dX3_copyFrom_111 rfl rfl ?_
    refine zz_getr F dX3_copyFrom_112 wfRX3_19 zCl_3 rfl (⟨zlb rfl, zlb rfl, zlb rfl⟩) rfl (by decide) rfl (r' := 0) (by decide) ?_
    refine zz_iload_n F (i := 2) dX3_copyFrom_115 rfl rfl ?_
    refine zz_ix fun j17 hj17 hinj17 hej17 => zz_aal F dX3_copyFrom_116 rfl (⟨zlb rfl, zlb rfl, zlb rfl⟩) rfl (by decide) rfl hinj17 hej17 rfl ?_
    refine zz_aload_n F (i := 1) dX3_copyFrom_117 rfl rfl ?_
    refine zz_getr F dX3_copyFrom_118 wfRX3_19 zCl_3 rfl (⟨zlb rfl, zlb rfl, zlb rfl⟩) rfl (by decide) rfl (r' := 1) (by decide) ?_
    refine zz_iload_n F (i := 2) dX3_copyFrom_121 rfl rfl ?_
    refine zz_ix fun j18 hj18 hinj18 hej18 => zz_aal F dX3_copyFrom_122 rfl (⟨zlb rfl, zlb rfl, zlb rfl⟩) rfl (by decide) rfl hinj18 hej18 rfl ?_
    refine zz_bind ?_
    refine zz_callVr F (ρ := [0, 1]) (so := fun q19 => []) (Mo := fun q19 => [q19, s1]) (zfCa_copyFrom j17 j18 hj17 hj18 q15.2 s1) dX3_copyFrom_123 wcRX3_90 wy_yX0_copyFrom rfl ⟨rel7, rfl, rfl, Nat.le_of_ble_eq_true rfl, Nat.le_of_ble_eq_true rfl, Nat.le_of_ble_eq_true rfl⟩ (⟨zlb rfl, zlb rfl, hj17⟩) rfl rfl rfl (fun _ => rfl) (fun _ => rfl) fun q19 => ?_
    refine zz_iinc F (i := 2) (v := q15.1 + 1) (L' := [some (zr 0 0 0), some (zr 1 0 0), some (zi (q15.1 + 1))]) dX3_copyFrom_126 rfl (by first | rfl | decide) (by decide) rfl rfl ?_
    refine zz_letl (Lf := fun v20 => [some (zr 0 0 0), some (zr 1 0 0), some (zi v20)]) fun v20 => ?_
    refine zz_goto F (tgt := 103) dX3_copyFrom_129 (by decide) ?_
    exact zz_sub (zs_k (zs_k (zs_k zs_z))) (h1 (v20, q19))
set_option maxHeartbeats 4000000 in
set_option maxRecDepth 20000 in
theorem bfSe_copyFrom_l134 {X : zX} (F : zFr X cX3_copyFrom 3 RX3 none) (s1 : zM)  {ψ : (Int32 × zM) ⊕ ((zM)) → Option zO} (h1 : ∀ q21 : Int32 × zM, zZ X [(0, []), (0, [])] 3 102 3 134 [some (zr 0 0 0), some (zr 1 0 0), some (zi q21.1)] [] [q21.2, s1] (ψ (.inl q21))) (h2 : ∀ q22 : zM, zZ X [(0, []), (0, [])] 3 102 3 163 [none, none, none] [] [q22, s1] (ψ (.inr q22))) (q21 : Int32 × zM) : zZ X [(0, []), (0, [])] 3 102 3 134 [some (zr 0 0 0), some (zr 1 0 0), some (zi q21.1)] [] [q21.2, s1] (Option.bind (fSe_copyFrom_l134 s1 q21) ψ) := by
  unfold fSe_copyFrom_l134
  refine zz_iload_n F (i := 2) dX3_copyFrom_134 rfl rfl ?_
  refine zz_aload_n F (i := 0) dX3_copyFrom_135 rfl rfl ?_
  refine zz_getf F dX3_copyFrom_136 wfRX3_68 zCl_3 rfl (⟨zlb rfl, zlb rfl, zlb rfl⟩) rfl (by decide) rfl rfl ?_
  refine zz_icmp_ge F (tgt := 163) dX3_copyFrom_139 (by decide) (fun h => zz_t h ?_) (fun h => zz_f h ?_)
  · exact zz_sub (zs_n (zs_n (zs_n zs_z))) (h2 q21.2)
  · refine zz_aload_n F (i := 0) dX3_copyFrom_142 rfl rfl ?_
    refine zz_getr F dX3_copyFrom_143 wfRX3_25 zCl_3 rfl (⟨zlb rfl, zlb rfl, zlb rfl⟩) rfl (by decide) rfl (r' := 0) (by decide) ?_
    refine zz_iload_n F (i := 2) dX3_copyFrom_146 rfl rfl ?_
    refine zz_ix fun j23 hj23 hinj23 hej23 => zz_aal F dX3_copyFrom_147 rfl (⟨zlb rfl, zlb rfl, zlb rfl⟩) rfl (by decide) rfl hinj23 hej23 rfl ?_
    refine zz_aload_n F (i := 1) dX3_copyFrom_148 rfl rfl ?_
    refine zz_getr F dX3_copyFrom_149 wfRX3_25 zCl_3 rfl (⟨zlb rfl, zlb rfl, zlb rfl⟩) rfl (by decide) rfl (r' := 1) (by decide) ?_
    refine zz_iload_n F (i := 2) dX3_copyFrom_152 rfl rfl ?_
    refine zz_ix fun j24 hj24 hinj24 hej24 => zz_aal F dX3_copyFrom_153 rfl (⟨zlb rfl, zlb rfl, zlb rfl⟩) rfl (by decide) rfl hinj24 hej24 rfl ?_
    refine zz_bind ?_
    refine zz_callVr F (ρ := [0, 1]) (so := fun q25 => []) (Mo := fun q25 => [q25, s1]) (zfVe_copyFrom j23 j24 hj23 hj24 q21.2 s1) dX3_copyFrom_154 wcRX3_93 wy_yX6_copyFrom rfl ⟨rel7, rfl, rfl, Nat.le_of_ble_eq_true rfl, Nat.le_of_ble_eq_true rfl, Nat.le_of_ble_eq_true rfl⟩ (⟨zlb rfl, zlb rfl, hj23⟩) rfl rfl rfl (fun _ => rfl) (fun _ => rfl) fun q25 => ?_
    refine zz_iinc F (i := 2) (v := q21.1 + 1) (L' := [some (zr 0 0 0), some (zr 1 0 0), some (zi (q21.1 + 1))]) dX3_copyFrom_157 rfl (by first | rfl | decide) (by decide) rfl rfl ?_
    refine zz_letl (Lf := fun v26 => [some (zr 0 0 0), some (zr 1 0 0), some (zi v26)]) fun v26 => ?_
    refine zz_goto F (tgt := 134) dX3_copyFrom_160 (by decide) ?_
    exact zz_sub (zs_k (zs_k (zs_k zs_z))) (h1 (v26, q25))
set_option maxHeartbeats 4000000 in
set_option maxRecDepth 20000 in
theorem bfSe_copyFrom {X : zX} (F : zFr X cX3_copyFrom 3 RX3 none)   (s0 : zM) (s1 : zM) {κ : zM → Option zO} (hκ : ∀ a, κ a = some ((fun a => ((.inl ((fun _ => (none : Option zV)) a), (fun q => [q, s1]) a) : zO)) a)) : zZ X [(0, []), (0, [])] 3 102 3 0 [some (zr 0 0 0), some (zr 1 0 0), none] [] [s0, s1] (Option.bind (fSe_copyFrom s0 s1) κ) := by
  unfold fSe_copyFrom
  refine zz_aload_n F (i := 0) dX3_copyFrom_0 rfl rfl ?_
  refine zz_aload_n F (i := 1) dX3_copyFrom_1 rfl rfl ?_
  refine zz_getf F dX3_copyFrom_2 wfRX3_56 zCl_3 rfl (⟨zlb rfl, zlb rfl, zlb rfl⟩) rfl (by decide) rfl rfl ?_
  refine zz_put F (Ms' := [(zu s0 0 0 5 (s1 0 0 5)), s1]) dX3_copyFrom_5 wpRX3_56 zCl_3 rfl (⟨zlb rfl, zlb rfl, zlb rfl⟩) rfl (by decide) rfl rfl rfl ?_
  refine zz_letm (Mf := fun s0_1 => [s0_1, s1]) fun s0_1 => ?_
  refine zz_aload_n F (i := 0) dX3_copyFrom_8 rfl rfl ?_
  refine zz_aload_n F (i := 1) dX3_copyFrom_9 rfl rfl ?_
  refine zz_getf F dX3_copyFrom_10 wfRX3_50 zCl_3 rfl (⟨zlb rfl, zlb rfl, zlb rfl⟩) rfl (by decide) rfl rfl ?_
  refine zz_put F (Ms' := [(zu s0_1 0 0 6 (s1 0 0 6)), s1]) dX3_copyFrom_13 wpRX3_50 zCl_3 rfl (⟨zlb rfl, zlb rfl, zlb rfl⟩) rfl (by decide) rfl rfl rfl ?_
  refine zz_letm (Mf := fun s0_2 => [s0_2, s1]) fun s0_2 => ?_
  refine zz_aload_n F (i := 0) dX3_copyFrom_16 rfl rfl ?_
  refine zz_aload_n F (i := 1) dX3_copyFrom_17 rfl rfl ?_
  refine zz_getf F dX3_copyFrom_18 wfRX3_68 zCl_3 rfl (⟨zlb rfl, zlb rfl, zlb rfl⟩) rfl (by decide) rfl rfl ?_
  refine zz_put F (Ms' := [(zu s0_2 0 0 7 (s1 0 0 7)), s1]) dX3_copyFrom_21 wpRX3_68 zCl_3 rfl (⟨zlb rfl, zlb rfl, zlb rfl⟩) rfl (by decide) rfl rfl rfl ?_
  refine zz_letm (Mf := fun s0_3 => [s0_3, s1]) fun s0_3 => ?_
  refine zz_aload_n F (i := 0) dX3_copyFrom_24 rfl rfl ?_
  refine zz_aload_n F (i := 1) dX3_copyFrom_25 rfl rfl ?_
  refine zz_getf F dX3_copyFrom_26 wfRX3_74 zCl_3 rfl (⟨zlb rfl, zlb rfl, zlb rfl⟩) rfl (by decide) rfl rfl ?_
  refine zz_put F (Ms' := [(zu s0_3 0 0 8 (s1 0 0 8)), s1]) dX3_copyFrom_29 wpRX3_74 zCl_3 rfl (⟨zlb rfl, zlb rfl, zlb rfl⟩) rfl (by decide) rfl rfl rfl ?_
  refine zz_letm (Mf := fun s0_4 => [s0_4, s1]) fun s0_4 => ?_
  refine zz_aload_n F (i := 0) dX3_copyFrom_32 rfl rfl ?_
  refine zz_aload_n F (i := 1) dX3_copyFrom_33 rfl rfl ?_
  refine zz_getf F dX3_copyFrom_34 wfRX3_43 zCl_3 rfl (⟨zlb rfl, zlb rfl, zlb rfl⟩) rfl (by decide) rfl rfl ?_
  refine zz_put F (Ms' := [(zu s0_4 0 0 9 (s1 0 0 9)), s1]) dX3_copyFrom_37 wpRX3_43 zCl_3 rfl (⟨zlb rfl, zlb rfl, zlb rfl⟩) rfl (by decide) rfl rfl rfl ?_
  refine zz_letm (Mf := fun s0_5 => [s0_5, s1]) fun s0_5 => ?_
  refine zz_aload_n F (i := 0) dX3_copyFrom_40 rfl rfl ?_
  refine zz_aload_n F (i := 1) dX3_copyFrom_41 rfl rfl ?_
  refine zz_getf F dX3_copyFrom_42 wfRX3_77 zCl_3 rfl (⟨zlb rfl, zlb rfl, zlb rfl⟩) rfl (by decide) rfl rfl ?_
  refine zz_put F (Ms' := [(zu s0_5 0 0 10 (s1 0 0 10)), s1]) dX3_copyFrom_45 wpRX3_77 zCl_3 rfl (⟨zlb rfl, zlb rfl, zlb rfl⟩) rfl (by decide) rfl rfl rfl ?_
  refine zz_letm (Mf := fun s0_6 => [s0_6, s1]) fun s0_6 => ?_
  refine zz_aload_n F (i := 0) dX3_copyFrom_48 rfl rfl ?_
  refine zz_getr F dX3_copyFrom_49 wfRX3_32 zCl_3 rfl (⟨zlb rfl, zlb rfl, zlb rfl⟩) rfl (by decide) rfl (r' := 0) (by decide) ?_
  refine zz_aload_n F (i := 1) dX3_copyFrom_52 rfl rfl ?_
  refine zz_getr F dX3_copyFrom_53 wfRX3_32 zCl_3 rfl (⟨zlb rfl, zlb rfl, zlb rfl⟩) rfl (by decide) rfl (r' := 1) (by decide) ?_
  refine zz_bind ?_
  refine zz_callVr F (ρ := [0, 1]) (so := fun q7 => []) (Mo := fun q7 => [q7, s1]) (zfWe_copyFrom s0_6 s1) dX3_copyFrom_56 wcRX3_80 wy_yX8_copyFrom rfl ⟨rel7, rfl, rfl, Nat.le_of_ble_eq_true rfl, Nat.le_of_ble_eq_true rfl, Nat.le_of_ble_eq_true rfl⟩ (⟨zlb rfl, zlb rfl, zlb rfl⟩) rfl rfl rfl (fun _ => rfl) (fun _ => rfl) fun q7 => ?_
  refine zz_aload_n F (i := 0) dX3_copyFrom_59 rfl rfl ?_
  refine zz_getr F dX3_copyFrom_60 wfRX3_39 zCl_3 rfl (⟨zlb rfl, zlb rfl, zlb rfl⟩) rfl (by decide) rfl (r' := 0) (by decide) ?_
  refine zz_aload_n F (i := 1) dX3_copyFrom_63 rfl rfl ?_
  refine zz_getr F dX3_copyFrom_64 wfRX3_39 zCl_3 rfl (⟨zlb rfl, zlb rfl, zlb rfl⟩) rfl (by decide) rfl (r' := 1) (by decide) ?_
  refine zz_bind ?_
  refine zz_callVr F (ρ := [0, 1]) (so := fun q8 => []) (Mo := fun q8 => [q8, s1]) (zfLe_copyFrom q7 s1) dX3_copyFrom_67 wcRX3_84 wy_yX2_copyFrom rfl ⟨rel7, rfl, rfl, Nat.le_of_ble_eq_true rfl, Nat.le_of_ble_eq_true rfl, Nat.le_of_ble_eq_true rfl⟩ (⟨zlb rfl, zlb rfl, zlb rfl⟩) rfl rfl rfl (fun _ => rfl) (fun _ => rfl) fun q8 => ?_
  refine zz_iconst F (v := (0 : Int32)) dX3_copyFrom_70 (by decide) ?_
  refine zz_istore_n F (i := 2) (L' := [some (zr 0 0 0), some (zr 1 0 0), some (zi (0 : Int32))]) dX3_copyFrom_71 rfl (by decide) rfl rfl ?_
  refine zz_sub (zs_k (zs_k (zs_k zs_z))) ?_
  refine zz_bind ?_
  refine zz_iter (Lf := fun q9 => [some (zr 0 0 0), some (zr 1 0 0), some (zi q9.1)]) (Mf := fun q9 => [q9.2, s1]) (fun q9 _ e31 e32 => bfSe_copyFrom_l72 F s1  e31 (fun q10 => ?_)  q9) 1000 ((0 : Int32), q8)
  rw [e32]
  refine zz_iconst F (v := (0 : Int32)) dX3_copyFrom_101 (by decide) ?_
  refine zz_istore_n F (i := 2) (L' := [some (zr 0 0 0), some (zr 1 0 0), some (zi (0 : Int32))]) dX3_copyFrom_102 rfl (by decide) rfl rfl ?_
  refine zz_sub (zs_k (zs_k (zs_k zs_z))) ?_
  refine zz_bind ?_
  refine zz_iter (Lf := fun q15 => [some (zr 0 0 0), some (zr 1 0 0), some (zi q15.1)]) (Mf := fun q15 => [q15.2, s1]) (fun q15 _ e29 e30 => bfSe_copyFrom_l103 F s1  e29 (fun q16 => ?_)  q15) 1000 ((0 : Int32), q10)
  rw [e30]
  refine zz_iconst F (v := (0 : Int32)) dX3_copyFrom_132 (by decide) ?_
  refine zz_istore_n F (i := 2) (L' := [some (zr 0 0 0), some (zr 1 0 0), some (zi (0 : Int32))]) dX3_copyFrom_133 rfl (by decide) rfl rfl ?_
  refine zz_sub (zs_k (zs_k (zs_k zs_z))) ?_
  refine zz_bind ?_
  refine zz_iter (Lf := fun q21 => [some (zr 0 0 0), some (zr 1 0 0), some (zi q21.1)]) (Mf := fun q21 => [q21.2, s1]) (fun q21 _ e27 e28 => bfSe_copyFrom_l134 F s1  e27 (fun q22 => ?_)  q21) 1000 ((0 : Int32), q16)
  rw [e28]
  exact zz_return F dX3_copyFrom_163 rfl (hκ _)
theorem zfSe_copyFrom   (s0 : zM) (s1 : zM) : ∀ a, fSe_copyFrom s0 s1 = some a → zMet yX3_copyFrom cX3_copyFrom 3 none 3 102 [(0, []), (0, [])] [zr 0 0 0, zr 1 0 0] [s0, s1] ((fun a => ((.inl ((fun _ => (none : Option zV)) a), (fun q => [q, s1]) a) : zO)) a) := fun a ha => zMet_of (L0 := [some (zr 0 0 0), some (zr 1 0 0), none]) (φ := Option.bind (fSe_copyFrom s0 s1) (fun a => some ((fun a => ((.inl ((fun _ => (none : Option zV)) a), (fun q => [q, s1]) a) : zO)) a))) (by decide) (fun _ => Nat.le_of_ble_eq_true rfl) (zl0 1 rfl) (fun X F => bfSe_copyFrom F s0 s1 (fun _ => rfl)) (by rw [ha]; rfl)

theorem dX9_wouldDeliver_0 : decode cX9_wouldDeliver 0 = .ok (.iload_n 1, 1) := by decide +kernel
theorem dX9_wouldDeliver_1 : decode cX9_wouldDeliver 1 = .ok (.iconst 1, 1) := by decide +kernel
theorem dX9_wouldDeliver_2 : decode cX9_wouldDeliver 2 = .ok (.bipush 24, 2) := by decide +kernel
theorem dX9_wouldDeliver_4 : decode cX9_wouldDeliver 4 = .ok (.invokestatic 26, 3) := by decide +kernel
theorem dX9_wouldDeliver_7 : decode cX9_wouldDeliver 7 = .ok (.ifCond .eq 14, 3) := by decide +kernel
theorem dX9_wouldDeliver_10 : decode cX9_wouldDeliver 10 = .ok (.new 30, 3) := by decide +kernel
theorem dX9_wouldDeliver_13 : decode cX9_wouldDeliver 13 = .ok (.dup, 1) := by decide +kernel
theorem dX9_wouldDeliver_14 : decode cX9_wouldDeliver 14 = .ok (.ldc_w 308, 3) := by decide +kernel
theorem dX9_wouldDeliver_17 : decode cX9_wouldDeliver 17 = .ok (.invokespecial 34, 3) := by decide +kernel
theorem dX9_wouldDeliver_20 : decode cX9_wouldDeliver 20 = .ok (.athrow, 1) := by decide +kernel
theorem dX9_wouldDeliver_21 : decode cX9_wouldDeliver 21 = .ok (.aload_n 0, 1) := by decide +kernel
theorem dX9_wouldDeliver_22 : decode cX9_wouldDeliver 22 = .ok (.getfield 16, 3) := by decide +kernel
theorem dX9_wouldDeliver_25 : decode cX9_wouldDeliver 25 = .ok (.aload_n 0, 1) := by decide +kernel
theorem dX9_wouldDeliver_26 : decode cX9_wouldDeliver 26 = .ok (.getfield 10, 3) := by decide +kernel
theorem dX9_wouldDeliver_29 : decode cX9_wouldDeliver 29 = .ok (.invokevirtual 310, 3) := by decide +kernel
theorem dX9_wouldDeliver_32 : decode cX9_wouldDeliver 32 = .ok (.aload_n 0, 1) := by decide +kernel
theorem dX9_wouldDeliver_33 : decode cX9_wouldDeliver 33 = .ok (.getfield 16, 3) := by decide +kernel
theorem dX9_wouldDeliver_36 : decode cX9_wouldDeliver 36 = .ok (.iload_n 1, 1) := by decide +kernel
theorem dX9_wouldDeliver_37 : decode cX9_wouldDeliver 37 = .ok (.invokevirtual 110, 3) := by decide +kernel
theorem dX9_wouldDeliver_40 : decode cX9_wouldDeliver 40 = .ok (.ireturn, 1) := by decide +kernel
theorem wfRX9_16 : zFl RX9 16 8 1 := ⟨_, rfl, by decide, zm_f 704 (by decide +kernel) rfl⟩
theorem wcRX9_310 : Cond.methodLink RX9 310 yX3_copyFrom ∈ zTg ∧ Cond.instanceMethod yX3_copyFrom ∈ zTg ∧ Cond.selects RX3 yX3_copyFrom yX3_copyFrom ∈ zTg ∧ Cond.initialized RX3 ∈ zTg ∧ Cond.code yX3_copyFrom cX3_copyFrom 3 none ∈ zTg := ⟨zm_f 305 (by decide +kernel) rfl, zm_f 306 (by decide +kernel) rfl, zm_f 307 (by decide +kernel) rfl, zm_f 22 (by decide +kernel) rfl, zm_f 308 (by decide +kernel) rfl⟩
theorem wy_yX3_copyFrom : yX3_copyFrom.cls = RX3 ∧ yX3_copyFrom.cls ≠ "java/lang/invoke/MethodHandle" ∧ yX3_copyFrom.cls ≠ "java/lang/invoke/VarHandle" ∧ (parseMethodDescriptor yX3_copyFrom.desc).map (fun d => d.parameters.length) = some 1 := by decide +kernel
theorem rel8 : zRel [2, 1] [(2, [1, 2, 3]), (0, []), (0, []), (1, [])] [(0, []), (0, [])] := by unfold zRel; decide
theorem rel9 : zRel [2] [(2, [1, 2, 3]), (0, []), (0, []), (1, [])] [(0, [])] := by unfold zRel; decide
theorem wsRX9_308 : (RX9, 308, "HOURS are 1 to 24") ∈ zstr := by decide +kernel
def fWB_wouldDeliver (a1 : Int32) (s0 : zM) (s1 : zM) (s2 : zM) (s3 : zM) : Option ((Int32 × zM) ⊕ (String × zM)) :=
  Option.bind (fWB_outside a1 (1 : Int32) (24 : Int32)) fun q1 =>
  if q1 = 0 then
  Option.bind (fSe_copyFrom s2 s1) fun q2 =>
    Option.bind (fSe_passHours a1 q2) fun q3 =>
    some (.inl (q3.1, q3.2))
else
  some (.inr ("java/lang/IllegalArgumentException", s2))
set_option maxHeartbeats 4000000 in
set_option maxRecDepth 20000 in
theorem bfWB_wouldDeliver {X : zX} (F : zFr X cX9_wouldDeliver 2 RX9 (some .int)) (a1 : Int32)  (s0 : zM) (s1 : zM) (s2 : zM) (s3 : zM) {κ : (Int32 × zM) ⊕ (String × zM) → Option zO} (hκ : ∀ a, κ a = some ((zts (fun q => some (zi q.1)) (fun q => [s0, s1, q.2, s3]) (fun b => b.1) (fun b => [s0, s1, b.2, s3])) a)) : zZ X [(2, [1, 2, 3]), (0, []), (0, []), (1, [])] 6 133 2 0 [some (zr 0 0 0), some (zi a1)] [] [s0, s1, s2, s3] (Option.bind (fWB_wouldDeliver a1 s0 s1 s2 s3) κ) := by
  unfold fWB_wouldDeliver
  refine zz_iload_n F (i := 1) dX9_wouldDeliver_0 rfl rfl ?_
  refine zz_iconst F (v := (1 : Int32)) dX9_wouldDeliver_1 (by decide) ?_
  refine zz_bipush F (v := (24 : Int32)) dX9_wouldDeliver_2 (by decide) ?_
  refine zz_bind ?_
  refine zz_callSr F (ρ := []) (so := fun q1 => [zi q1]) (Mo := fun q1 => [s0, s1, s2, s3]) (zfWB_outside a1 (1 : Int32) (24 : Int32)) dX9_wouldDeliver_4 wcRX9_26 wy_yX9_outside rfl ⟨rel0, rfl, rfl, Nat.le_of_ble_eq_true rfl, Nat.le_of_ble_eq_true rfl, Nat.le_of_ble_eq_true rfl⟩ rfl (fun _ => rfl) (fun _ => rfl) fun q1 => ?_
  refine zz_if_eq F (tgt := 21) dX9_wouldDeliver_7 (by decide) (fun h => zz_t h ?_) (fun h => zz_f h ?_)
  · refine zz_aload_n F (i := 0) dX9_wouldDeliver_21 rfl rfl ?_
    refine zz_getr F dX9_wouldDeliver_22 wfRX9_16 zCl_8 rfl (⟨zlb rfl, zlb rfl, zlb rfl⟩) rfl (by decide) rfl (r' := 2) (by decide) ?_
    refine zz_aload_n F (i := 0) dX9_wouldDeliver_25 rfl rfl ?_
    refine zz_getr F dX9_wouldDeliver_26 wfRX9_10 zCl_8 rfl (⟨zlb rfl, zlb rfl, zlb rfl⟩) rfl (by decide) rfl (r' := 1) (by decide) ?_
    refine zz_bind ?_
    refine zz_callVr F (ρ := [2, 1]) (so := fun q2 => []) (Mo := fun q2 => [s0, s1, q2, s3]) (zfSe_copyFrom s2 s1) dX9_wouldDeliver_29 wcRX9_310 wy_yX3_copyFrom rfl ⟨rel8, rfl, rfl, Nat.le_of_ble_eq_true rfl, Nat.le_of_ble_eq_true rfl, Nat.le_of_ble_eq_true rfl⟩ (⟨zlb rfl, zlb rfl, zlb rfl⟩) rfl rfl rfl (fun _ => rfl) (fun _ => rfl) fun q2 => ?_
    refine zz_aload_n F (i := 0) dX9_wouldDeliver_32 rfl rfl ?_
    refine zz_getr F dX9_wouldDeliver_33 wfRX9_16 zCl_8 rfl (⟨zlb rfl, zlb rfl, zlb rfl⟩) rfl (by decide) rfl (r' := 2) (by decide) ?_
    refine zz_iload_n F (i := 1) dX9_wouldDeliver_36 rfl rfl ?_
    refine zz_bind ?_
    refine zz_callVr F (ρ := [2]) (so := fun q3 => [zi q3.1]) (Mo := fun q3 => [s0, s1, q3.2, s3]) (zfSe_passHours a1 q2) dX9_wouldDeliver_37 wcRX9_110 wy_yX3_passHours rfl ⟨rel9, rfl, rfl, Nat.le_of_ble_eq_true rfl, Nat.le_of_ble_eq_true rfl, Nat.le_of_ble_eq_true rfl⟩ (⟨zlb rfl, zlb rfl, zlb rfl⟩) rfl rfl rfl (fun _ => rfl) (fun _ => rfl) fun q3 => ?_
    exact zz_ireturn F dX9_wouldDeliver_40 rfl (hκ _)
  · exact zz_throwW F (cls := "java/lang/IllegalArgumentException") dX9_wouldDeliver_10 dX9_wouldDeliver_13 dX9_wouldDeliver_14 dX9_wouldDeliver_17 dX9_wouldDeliver_20 (by decide) wtRX9_30_34k wsRX9_308 wtRX9_30_34g wtRX9_30_34n wtRX9_30_34o (Nat.le_of_ble_eq_true rfl) (Nat.le_of_ble_eq_true rfl) (hκ _)
theorem zfWB_wouldDeliver (a1 : Int32)  (s0 : zM) (s1 : zM) (s2 : zM) (s3 : zM) : ∀ a, fWB_wouldDeliver a1 s0 s1 s2 s3 = some a → zMet yX9_wouldDeliver cX9_wouldDeliver 2 (some .int) 6 133 [(2, [1, 2, 3]), (0, []), (0, []), (1, [])] [zr 0 0 0, zi a1] [s0, s1, s2, s3] ((zts (fun q => some (zi q.1)) (fun q => [s0, s1, q.2, s3]) (fun b => b.1) (fun b => [s0, s1, b.2, s3])) a) := fun a ha => zMet_of (L0 := [some (zr 0 0 0), some (zi a1)]) (φ := Option.bind (fWB_wouldDeliver a1 s0 s1 s2 s3) (fun a => some ((zts (fun q => some (zi q.1)) (fun q => [s0, s1, q.2, s3]) (fun b => b.1) (fun b => [s0, s1, b.2, s3])) a))) (by decide) (fun _ => Nat.le_of_ble_eq_true rfl) (zl0 0 rfl) (fun X F => bfWB_wouldDeliver F a1 s0 s1 s2 s3 (fun _ => rfl)) (by rw [ha]; rfl)
