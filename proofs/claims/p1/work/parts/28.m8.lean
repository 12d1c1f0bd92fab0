theorem dX0_copyFrom_0 : decode cX0_copyFrom 0 = .ok (.aload_n 0, 1) := by decide +kernel
theorem dX0_copyFrom_1 : decode cX0_copyFrom 1 = .ok (.aload_n 1, 1) := by decide +kernel
theorem dX0_copyFrom_2 : decode cX0_copyFrom 2 = .ok (.getfield 7, 3) := by decide +kernel
theorem dX0_copyFrom_5 : decode cX0_copyFrom 5 = .ok (.putfield 7, 3) := by decide +kernel
theorem dX0_copyFrom_8 : decode cX0_copyFrom 8 = .ok (.aload_n 0, 1) := by decide +kernel
theorem dX0_copyFrom_9 : decode cX0_copyFrom 9 = .ok (.aload_n 1, 1) := by decide +kernel
theorem dX0_copyFrom_10 : decode cX0_copyFrom 10 = .ok (.getfield 13, 3) := by decide +kernel
theorem dX0_copyFrom_13 : decode cX0_copyFrom 13 = .ok (.putfield 13, 3) := by decide +kernel
theorem dX0_copyFrom_16 : decode cX0_copyFrom 16 = .ok (.aload_n 0, 1) := by decide +kernel
theorem dX0_copyFrom_17 : decode cX0_copyFrom 17 = .ok (.aload_n 1, 1) := by decide +kernel
theorem dX0_copyFrom_18 : decode cX0_copyFrom 18 = .ok (.getfield 16, 3) := by decide +kernel
theorem dX0_copyFrom_21 : decode cX0_copyFrom 21 = .ok (.putfield 16, 3) := by decide +kernel
theorem dX0_copyFrom_24 : decode cX0_copyFrom 24 = .ok (.return_, 1) := by decide +kernel
theorem wpRX0_7 : zFw RX0 7 0 0 .int := ⟨_, rfl, by decide, zm_f 230 (by decide +kernel) rfl, rfl, by decide +kernel⟩
theorem wfRX0_16 : zFl RX0 16 0 2 := ⟨_, rfl, by decide, zm_f 235 (by decide +kernel) rfl⟩
def fCa_copyFrom (i : Nat) (j : Nat) (s0 : zM) (s1 : zM) : Option (zM) :=
  zlet (zu s0 12 i 0 (s1 12 j 0)) fun s0_1 =>
  zlet (zu s0_1 12 i 1 (s1 12 j 1)) fun s0_2 =>
  zlet (zu s0_2 12 i 2 (s1 12 j 2)) fun s0_3 =>
  some s0_3
set_option maxHeartbeats 4000000 in
set_option maxRecDepth 20000 in
theorem bfCa_copyFrom {X : zX} (F : zFr X cX0_copyFrom 2 RX0 none) (i : Nat) (j : Nat) (hi : i < 3) (hj : j < 3) (s0 : zM) (s1 : zM) {κ : zM → Option zO} (hκ : ∀ a, κ a = some ((fun a => ((.inl ((fun _ => (none : Option zV)) a), (fun q => [q, s1]) a) : zO)) a)) : zZ X [(0, []), (0, [])] 0 0 2 0 [some (zr 0 12 i), some (zr 1 12 j)] [] [s0, s1] (Option.bind (fCa_copyFrom i j s0 s1) κ) := by
  unfold fCa_copyFrom
  refine zz_aload_n F (i := 0) dX0_copyFrom_0 rfl rfl ?_
  refine zz_aload_n F (i := 1) dX0_copyFrom_1 rfl rfl ?_
  refine zz_getf F dX0_copyFrom_2 wfRX0_7 zCl_0 rfl (⟨zlb rfl, zlb rfl, hj⟩) rfl (by decide) rfl rfl ?_
  refine zz_put F (Ms' := [(zu s0 12 i 0 (s1 12 j 0)), s1]) dX0_copyFrom_5 wpRX0_7 zCl_0 rfl (⟨zlb rfl, zlb rfl, hi⟩) rfl (by decide) rfl rfl rfl ?_
  refine zz_letm (Mf := fun s0_1 => [s0_1, s1]) fun s0_1 => ?_
  refine zz_aload_n F (i := 0) dX0_copyFrom_8 rfl rfl ?_
  refine zz_aload_n F (i := 1) dX0_copyFrom_9 rfl rfl ?_
  refine zz_getf F dX0_copyFrom_10 wfRX0_13 zCl_0 rfl (⟨zlb rfl, zlb rfl, hj⟩) rfl (by decide) rfl rfl ?_
  refine zz_put F (Ms' := [(zu s0_1 12 i 1 (s1 12 j 1)), s1]) dX0_copyFrom_13 wpRX0_13 zCl_0 rfl (⟨zlb rfl, zlb rfl, hi⟩) rfl (by decide) rfl rfl rfl ?_
  refine zz_letm (Mf := fun s0_2 => [s0_2, s1]) fun s0_2 => ?_
  refine zz_aload_n F (i := 0) dX0_copyFrom_16 rfl rfl ?_
  refine zz_aload_n F (i := 1) dX0_copyFrom_17 rfl rfl ?_
  refine zz_getf F dX0_copyFrom_18 wfRX0_16 zCl_0 rfl (⟨zlb rfl, zlb rfl, hj⟩) rfl (by decide) rfl rfl ?_
  refine zz_put F (Ms' := [(zu s0_2 12 i 2 (s1 12 j 2)), s1]) dX0_copyFrom_21 wpRX0_16 zCl_0 rfl (⟨zlb rfl, zlb rfl, hi⟩) rfl (by decide) rfl rfl rfl ?_
  refine zz_letm (Mf := fun s0_3 => [s0_3, s1]) fun s0_3 => ?_
  exact zz_return F dX0_copyFrom_24 rfl (hκ _)
theorem zfCa_copyFrom (i : Nat) (j : Nat) (hi : i < 3) (hj : j < 3) (s0 : zM) (s1 : zM) : ∀ a, fCa_copyFrom i j s0 s1 = some a → zMet yX0_copyFrom cX0_copyFrom 2 none 0 0 [(0, []), (0, [])] [zr 0 12 i, zr 1 12 j] [s0, s1] ((fun a => ((.inl ((fun _ => (none : Option zV)) a), (fun q => [q, s1]) a) : zO)) a) := fun a ha => zMet_of (L0 := [some (zr 0 12 i), some (zr 1 12 j)]) (φ := Option.bind (fCa_copyFrom i j s0 s1) (fun a => some ((fun a => ((.inl ((fun _ => (none : Option zV)) a), (fun q => [q, s1]) a) : zO)) a))) (by decide) (fun _ => Nat.le_of_ble_eq_true rfl) (zl0 0 rfl) (fun X F => bfCa_copyFrom F i j hi hj s0 s1 (fun _ => rfl)) (by rw [ha]; rfl)

theorem dX6_copyFrom_0 : decode cX6_copyFrom 0 = .ok (.aload_n 0, 1) := by decide +kernel
theorem dX6_copyFrom_1 : decode cX6_copyFrom 1 = .ok (.aload_n 1, 1) := by decide +kernel
theorem dX6_copyFrom_2 : decode cX6_copyFrom 2 = .ok (.getfield 18, 3) := by decide +kernel
theorem dX6_copyFrom_5 : decode cX6_copyFrom 5 = .ok (.putfield 18, 3) := by decide +kernel
theorem dX6_copyFrom_8 : decode cX6_copyFrom 8 = .ok (.aload_n 0, 1) := by decide +kernel
theorem dX6_copyFrom_9 : decode cX6_copyFrom 9 = .ok (.aload_n 1, 1) := by decide +kernel
theorem dX6_copyFrom_10 : decode cX6_copyFrom 10 = .ok (.getfield 9, 3) := by decide +kernel
theorem dX6_copyFrom_13 : decode cX6_copyFrom 13 = .ok (.putfield 9, 3) := by decide +kernel
theorem dX6_copyFrom_16 : decode cX6_copyFrom 16 = .ok (.aload_n 0, 1) := by decide +kernel
theorem dX6_copyFrom_17 : decode cX6_copyFrom 17 = .ok (.aload_n 1, 1) := by decide +kernel
theorem dX6_copyFrom_18 : decode cX6_copyFrom 18 = .ok (.getfield 21, 3) := by decide +kernel
theorem dX6_copyFrom_21 : decode cX6_copyFrom 21 = .ok (.putfield 21, 3) := by decide +kernel
theorem dX6_copyFrom_24 : decode cX6_copyFrom 24 = .ok (.aload_n 0, 1) := by decide +kernel
theorem dX6_copyFrom_25 : decode cX6_copyFrom 25 = .ok (.aload_n 1, 1) := by decide +kernel
theorem dX6_copyFrom_26 : decode cX6_copyFrom 26 = .ok (.getfield 15, 3) := by decide +kernel
theorem dX6_copyFrom_29 : decode cX6_copyFrom 29 = .ok (.putfield 15, 3) := by decide +kernel
theorem dX6_copyFrom_32 : decode cX6_copyFrom 32 = .ok (.aload_n 0, 1) := by decide +kernel
theorem dX6_copyFrom_33 : decode cX6_copyFrom 33 = .ok (.aload_n 1, 1) := by decide +kernel
theorem dX6_copyFrom_34 : decode cX6_copyFrom 34 = .ok (.getfield 25, 3) := by decide +kernel
theorem dX6_copyFrom_37 : decode cX6_copyFrom 37 = .ok (.putfield 25, 3) := by decide +kernel
theorem dX6_copyFrom_40 : decode cX6_copyFrom 40 = .ok (.aload_n 0, 1) := by decide +kernel
theorem dX6_copyFrom_41 : decode cX6_copyFrom 41 = .ok (.aload_n 1, 1) := by decide +kernel
theorem dX6_copyFrom_42 : decode cX6_copyFrom 42 = .ok (.getfield 28, 3) := by decide +kernel
theorem dX6_copyFrom_45 : decode cX6_copyFrom 45 = .ok (.putfield 28, 3) := by decide +kernel
theorem dX6_copyFrom_48 : decode cX6_copyFrom 48 = .ok (.return_, 1) := by decide +kernel
theorem wfRX6_18 : zFl RX6 18 6 0 := ⟨_, rfl, by decide, zm_f 249 (by decide +kernel) rfl⟩
theorem wpRX6_18 : zFw RX6 18 6 0 .int := ⟨_, rfl, by decide, zm_f 249 (by decide +kernel) rfl, rfl, by decide +kernel⟩
theorem wfRX6_9 : zFl RX6 9 6 1 := ⟨_, rfl, by decide, zm_f 252 (by decide +kernel) rfl⟩
theorem wpRX6_9 : zFw RX6 9 6 1 .int := ⟨_, rfl, by decide, zm_f 252 (by decide +kernel) rfl, rfl, by decide +kernel⟩
theorem wfRX6_21 : zFl RX6 21 6 2 := ⟨_, rfl, by decide, zm_f 255 (by decide +kernel) rfl⟩
theorem wfRX6_28 : zFl RX6 28 6 5 := ⟨_, rfl, by decide, zm_f 263 (by decide +kernel) rfl⟩
theorem wpRX6_28 : zFw RX6 28 6 5 .int := ⟨_, rfl, by decide, zm_f 263 (by decide +kernel) rfl, rfl, by decide +kernel⟩
def fVe_copyFrom (i : Nat) (j : Nat) (s0 : zM) (s1 : zM) : Option (zM) :=
  zlet (zu s0 13 i 0 (s1 13 j 0)) fun s0_1 =>
  zlet (zu s0_1 13 i 1 (s1 13 j 1)) fun s0_2 =>
  zlet (zu s0_2 13 i 2 (s1 13 j 2 &&& 1)) fun s0_3 =>
  zlet (zu s0_3 13 i 3 (s1 13 j 3)) fun s0_4 =>
  zlet (zu s0_4 13 i 4 (s1 13 j 4)) fun s0_5 =>
  zlet (zu s0_5 13 i 5 (s1 13 j 5)) fun s0_6 =>
  some s0_6
set_option maxHeartbeats 4000000 in
set_option maxRecDepth 20000 in
theorem bfVe_copyFrom {X : zX} (F : zFr X cX6_copyFrom 2 RX6 none) (i : Nat) (j : Nat) (hi : i < 3) (hj : j < 3) (s0 : zM) (s1 : zM) {κ : zM → Option zO} (hκ : ∀ a, κ a = some ((fun a => ((.inl ((fun _ => (none : Option zV)) a), (fun q => [q, s1]) a) : zO)) a)) : zZ X [(0, []), (0, [])] 0 0 2 0 [some (zr 0 13 i), some (zr 1 13 j)] [] [s0, s1] (Option.bind (fVe_copyFrom i j s0 s1) κ) := by
  unfold fVe_copyFrom
  refine zz_aload_n F (i := 0) dX6_copyFrom_0 rfl rfl ?_
  refine zz_aload_n F (i := 1) dX6_copyFrom_1 rfl rfl ?_
  refine zz_getf F dX6_copyFrom_2 wfRX6_18 zCl_6 rfl (⟨zlb rfl, zlb rfl, hj⟩) rfl (by decide) rfl rfl ?_
  refine zz_put F (Ms' := [(zu s0 13 i 0 (s1 13 j 0)), s1]) dX6_copyFrom_5 wpRX6_18 zCl_6 rfl (⟨zlb rfl, zlb rfl, hi⟩) rfl (by decide) rfl rfl rfl ?_
  refine zz_letm (Mf := fun s0_1 => [s0_1, s1]) fun s0_1 => ?_
  refine zz_aload_n F (i := 0) dX6_copyFrom_8 rfl rfl ?_
  refine zz_aload_n F (i := 1) dX6_copyFrom_9 rfl rfl ?_
  refine zz_getf F dX6_copyFrom_10 wfRX6_9 zCl_6 rfl (⟨zlb rfl, zlb rfl, hj⟩) rfl (by decide) rfl rfl ?_
  refine zz_put F (Ms' := [(zu s0_1 13 i 1 (s1 13 j 1)), s1]) dX6_copyFrom_13 wpRX6_9 zCl_6 rfl (⟨zlb rfl, zlb rfl, hi⟩) rfl (by decide) rfl rfl rfl ?_
  refine zz_letm (Mf := fun s0_2 => [s0_2, s1]) fun s0_2 => ?_
  refine zz_aload_n F (i := 0) dX6_copyFrom_16 rfl rfl ?_
  refine zz_aload_n F (i := 1) dX6_copyFrom_17 rfl rfl ?_
  refine zz_getb F dX6_copyFrom_18 wfRX6_21 zCl_6 rfl (⟨zlb rfl, zlb rfl, hj⟩) rfl (by decide) rfl rfl ?_
  refine zz_putb F (Ms' := [(zu s0_2 13 i 2 (s1 13 j 2 &&& 1)), s1]) dX6_copyFrom_21 wpRX6_21 zCl_6 rfl (⟨zlb rfl, zlb rfl, hi⟩) rfl (by decide) rfl rfl (zb01 _) rfl ?_
  refine zz_letm (Mf := fun s0_3 => [s0_3, s1]) fun s0_3 => ?_
  refine zz_aload_n F (i := 0) dX6_copyFrom_24 rfl rfl ?_
  refine zz_aload_n F (i := 1) dX6_copyFrom_25 rfl rfl ?_
  refine zz_getf F dX6_copyFrom_26 wfRX6_15 zCl_6 rfl (⟨zlb rfl, zlb rfl, hj⟩) rfl (by decide) rfl rfl ?_
  refine zz_put F (Ms' := [(zu s0_3 13 i 3 (s1 13 j 3)), s1]) dX6_copyFrom_29 wpRX6_15 zCl_6 rfl (⟨zlb rfl, zlb rfl, hi⟩) rfl (by decide) rfl rfl rfl ?_
  refine zz_letm (Mf := fun s0_4 => [s0_4, s1]) fun s0_4 => ?_
  refine zz_aload_n F (i := 0) dX6_copyFrom_32 rfl rfl ?_
  refine zz_aload_n F (i := 1) dX6_copyFrom_33 rfl rfl ?_
  refine zz_getf F dX6_copyFrom_34 wfRX6_25 zCl_6 rfl (⟨zlb rfl, zlb rfl, hj⟩) rfl (by decide) rfl rfl ?_
  refine zz_put F (Ms' := [(zu s0_4 13 i 4 (s1 13 j 4)), s1]) dX6_copyFrom_37 wpRX6_25 zCl_6 rfl (⟨zlb rfl, zlb rfl, hi⟩) rfl (by decide) rfl rfl rfl ?_
  refine zz_letm (Mf := fun s0_5 => [s0_5, s1]) fun s0_5 => ?_
  refine zz_aload_n F (i := 0) dX6_copyFrom_40 rfl rfl ?_
  refine zz_aload_n F (i := 1) dX6_copyFrom_41 rfl rfl ?_
  refine zz_getf F dX6_copyFrom_42 wfRX6_28 zCl_6 rfl (⟨zlb rfl, zlb rfl, hj⟩) rfl (by decide) rfl rfl ?_
  refine zz_put F (Ms' := [(zu s0_5 13 i 5 (s1 13 j 5)), s1]) dX6_copyFrom_45 wpRX6_28 zCl_6 rfl (⟨zlb rfl, zlb rfl, hi⟩) rfl (by decide) rfl rfl rfl ?_
  refine zz_letm (Mf := fun s0_6 => [s0_6, s1]) fun s0_6 => ?_
  exact zz_return F dX6_copyFrom_48 rfl (hκ _)
theorem zfVe_copyFrom (i : Nat) (j : Nat) (hi : i < 3) (hj : j < 3) (s0 : zM) (s1 : zM) : ∀ a, fVe_copyFrom i j s0 s1 = some a → zMet yX6_copyFrom cX6_copyFrom 2 none 0 0 [(0, []), (0, [])] [zr 0 13 i, zr 1 13 j] [s0, s1] ((fun a => ((.inl ((fun _ => (none : Option zV)) a), (fun q => [q, s1]) a) : zO)) a) := fun a ha => zMet_of (L0 := [some (zr 0 13 i), some (zr 1 13 j)]) (φ := Option.bind (fVe_copyFrom i j s0 s1) (fun a => some ((fun a => ((.inl ((fun _ => (none : Option zV)) a), (fun q => [q, s1]) a) : zO)) a))) (by decide) (fun _ => Nat.le_of_ble_eq_true rfl) (zl0 0 rfl) (fun X F => bfVe_copyFrom F i j hi hj s0 s1 (fun _ => rfl)) (by rw [ha]; rfl)

theorem dX3_copyFrom_0 : decode cX3_copyFrom 0 = .ok (.aload_n 0, 1) := by decide +kernel
theorem dX3_copyFrom_1 : decode cX3_copyFrom 1 = .ok (.aload_n 1, 1) := by decide +kernel
theorem dX3_copyFrom_2 : decode cX3_copyFrom 2 = .ok (.getfield 56, 3) := by decide +kernel
theorem dX3_copyFrom_5 : decode cX3_copyFrom 5 = .ok (.putfield 56, 3) := by decide +kernel
theorem dX3_copyFrom_8 : decode cX3_copyFrom 8 = .ok (.aload_n 0, 1) := by decide +kernel
theorem dX3_copyFrom_9 : decode cX3_copyFrom 9 = .ok (.aload_n 1, 1) := by decide +kernel
theorem dX3_copyFrom_10 : decode cX3_copyFrom 10 = .ok (.getfield 50, 3) := by decide +kernel
theorem dX3_copyFrom_13 : decode cX3_copyFrom 13 = .ok (.putfield 50, 3) := by decide +kernel
theorem dX3_copyFrom_16 : decode cX3_copyFrom 16 = .ok (.aload_n 0, 1) := by decide +kernel
theorem dX3_copyFrom_17 : decode cX3_copyFrom 17 = .ok (.aload_n 1, 1) := by decide +kernel
theorem dX3_copyFrom_18 : decode cX3_copyFrom 18 = .ok (.getfield 68, 3) := by decide +kernel
theorem dX3_copyFrom_21 : decode cX3_copyFrom 21 = .ok (.putfield 68, 3) := by decide +kernel
theorem dX3_copyFrom_24 : decode cX3_copyFrom 24 = .ok (.aload_n 0, 1) := by decide +kernel
theorem dX3_copyFrom_25 : decode cX3_copyFrom 25 = .ok (.aload_n 1, 1) := by decide +kernel
theorem dX3_copyFrom_26 : decode cX3_copyFrom 26 = .ok (.getfield 74, 3) := by decide +kernel
theorem dX3_copyFrom_29 : decode cX3_copyFrom 29 = .ok (.putfield 74, 3) := by decide +kernel
theorem dX3_copyFrom_32 : decode cX3_copyFrom 32 = .ok (.aload_n 0, 1) := by decide +kernel
theorem dX3_copyFrom_33 : decode cX3_copyFrom 33 = .ok (.aload_n 1, 1) := by decide +kernel
theorem dX3_copyFrom_34 : decode cX3_copyFrom 34 = .ok (.getfield 43, 3) := by decide +kernel
theorem dX3_copyFrom_37 : decode cX3_copyFrom 37 = .ok (.putfield 43, 3) := by decide +kernel
theorem dX3_copyFrom_40 : decode cX3_copyFrom 40 = .ok (.aload_n 0, 1) := by decide +kernel
theorem dX3_copyFrom_41 : decode cX3_copyFrom 41 = .ok (.aload_n 1, 1) := by decide +kernel
theorem dX3_copyFrom_42 : decode cX3_copyFrom 42 = .ok (.getfield 77, 3) := by decide +kernel
theorem dX3_copyFrom_45 : decode cX3_copyFrom 45 = .ok (.putfield 77, 3) := by decide +kernel
theorem dX3_copyFrom_48 : decode cX3_copyFrom 48 = .ok (.aload_n 0, 1) := by decide +kernel
theorem dX3_copyFrom_49 : decode cX3_copyFrom 49 = .ok (.getfield 32, 3) := by decide +kernel
theorem dX3_copyFrom_52 : decode cX3_copyFrom 52 = .ok (.aload_n 1, 1) := by decide +kernel
theorem dX3_copyFrom_53 : decode cX3_copyFrom 53 = .ok (.getfield 32, 3) := by decide +kernel
theorem dX3_copyFrom_56 : decode cX3_copyFrom 56 = .ok (.invokevirtual 80, 3) := by decide +kernel
theorem dX3_copyFrom_59 : decode cX3_copyFrom 59 = .ok (.aload_n 0, 1) := by decide +kernel
theorem dX3_copyFrom_60 : decode cX3_copyFrom 60 = .ok (.getfield 39, 3) := by decide +kernel
theorem dX3_copyFrom_63 : decode cX3_copyFrom 63 = .ok (.aload_n 1, 1) := by decide +kernel
theorem dX3_copyFrom_64 : decode cX3_copyFrom 64 = .ok (.getfield 39, 3) := by decide +kernel
theorem dX3_copyFrom_67 : decode cX3_copyFrom 67 = .ok (.invokevirtual 84, 3) := by decide +kernel
theorem dX3_copyFrom_70 : decode cX3_copyFrom 70 = .ok (.iconst 0, 1) := by decide +kernel
theorem dX3_copyFrom_71 : decode cX3_copyFrom 71 = .ok (.istore_n 2, 1) := by decide +kernel
theorem dX3_copyFrom_72 : decode cX3_copyFrom 72 = .ok (.iload_n 2, 1) := by decide +kernel
theorem dX3_copyFrom_73 : decode cX3_copyFrom 73 = .ok (.aload_n 0, 1) := by decide +kernel
theorem dX3_copyFrom_74 : decode cX3_copyFrom 74 = .ok (.getfield 56, 3) := by decide +kernel
theorem dX3_copyFrom_77 : decode cX3_copyFrom 77 = .ok (.if_icmp .ge 24, 3) := by decide +kernel
theorem dX3_copyFrom_80 : decode cX3_copyFrom 80 = .ok (.aload_n 0, 1) := by decide +kernel
theorem dX3_copyFrom_81 : decode cX3_copyFrom 81 = .ok (.getfield 11, 3) := by decide +kernel
theorem dX3_copyFrom_84 : decode cX3_copyFrom 84 = .ok (.iload_n 2, 1) := by decide +kernel
theorem dX3_copyFrom_85 : decode cX3_copyFrom 85 = .ok (.aaload, 1) := by decide +kernel
theorem dX3_copyFrom_86 : decode cX3_copyFrom 86 = .ok (.aload_n 1, 1) := by decide +kernel
theorem dX3_copyFrom_87 : decode cX3_copyFrom 87 = .ok (.getfield 11, 3) := by decide +kernel
theorem dX3_copyFrom_90 : decode cX3_copyFrom 90 = .ok (.iload_n 2, 1) := by decide +kernel
theorem dX3_copyFrom_91 : decode cX3_copyFrom 91 = .ok (.aaload, 1) := by decide +kernel
theorem dX3_copyFrom_92 : decode cX3_copyFrom 92 = .ok (.invokevirtual 87, 3) := by decide +kernel
theorem dX3_copyFrom_95 : decode cX3_copyFrom 95 = .ok (.iinc 2 1, 3) := by decide +kernel
theorem dX3_copyFrom_98 : decode cX3_copyFrom 98 = .ok (.goto (-26), 3) := by decide +kernel
theorem dX3_copyFrom_101 : decode cX3_copyFrom 101 = .ok (.iconst 0, 1) := by decide +kernel
theorem dX3_copyFrom_102 : decode cX3_copyFrom 102 = .ok (.istore_n 2, 1) := by decide +kernel
theorem dX3_copyFrom_103 : decode cX3_copyFrom 103 = .ok (.iload_n 2, 1) := by decide +kernel
theorem dX3_copyFrom_104 : decode cX3_copyFrom 104 = .ok (.aload_n 0, 1) := by decide +kernel
theorem dX3_copyFrom_105 : decode cX3_copyFrom 105 = .ok (.getfield 50, 3) := by decide +kernel
theorem dX3_copyFrom_108 : decode cX3_copyFrom 108 = .ok (.if_icmp .ge 24, 3) := by decide +kernel
theorem dX3_copyFrom_111 : decode cX3_copyFrom 111 = .ok (.aload_n 0, 1) := by decide +kernel
theorem dX3_copyFrom_112 : decode cX3_copyFrom 112 = .ok (.getfield 19, 3) := by decide +kernel
theorem dX3_copyFrom_115 : decode cX3_copyFrom 115 = .ok (.iload_n 2, 1) := by decide +kernel
theorem dX3_copyFrom_116 : decode cX3_copyFrom 116 = .ok (.aaload, 1) := by decide +kernel
theorem dX3_copyFrom_117 : decode cX3_copyFrom 117 = .ok (.aload_n 1, 1) := by decide +kernel
theorem dX3_copyFrom_118 : decode cX3_copyFrom 118 = .ok (.getfield 19, 3) := by decide +kernel
theorem dX3_copyFrom_121 : decode cX3_copyFrom 121 = .ok (.iload_n 2, 1) := by decide +kernel
theorem dX3_copyFrom_122 : decode cX3_copyFrom 122 = .ok (.aaload, 1) := by decide +kernel
theorem dX3_copyFrom_123 : decode cX3_copyFrom 123 = .ok (.invokevirtual 90, 3) := by decide +kernel
theorem dX3_copyFrom_126 : decode cX3_copyFrom 126 = .ok (.iinc 2 1, 3) := by decide +kernel
theorem dX3_copyFrom_129 : decode cX3_copyFrom 129 = .ok (.goto (-26), 3) := by decide +kernel
theorem dX3_copyFrom_132 : decode cX3_copyFrom 132 = .ok (.iconst 0, 1) := by decide +kernel
theorem dX3_copyFrom_133 : decode cX3_copyFrom 133 = .ok (.istore_n 2, 1) := by decide +kernel
theorem dX3_copyFrom_134 : decode cX3_copyFrom 134 = .ok (.iload_n 2, 1) := by decide +kernel
theorem dX3_copyFrom_135 : decode cX3_copyFrom 135 = .ok (.aload_n 0, 1) := by decide +kernel
theorem dX3_copyFrom_136 : decode cX3_copyFrom 136 = .ok (.getfield 68, 3) := by decide +kernel
theorem dX3_copyFrom_139 : decode cX3_copyFrom 139 = .ok (.if_icmp .ge 24, 3) := by decide +kernel
theorem dX3_copyFrom_142 : decode cX3_copyFrom 142 = .ok (.aload_n 0, 1) := by decide +kernel
theorem dX3_copyFrom_143 : decode cX3_copyFrom 143 = .ok (.getfield 25, 3) := by decide +kernel
theorem dX3_copyFrom_146 : decode cX3_copyFrom 146 = .ok (.iload_n 2, 1) := by decide +kernel
theorem dX3_copyFrom_147 : decode cX3_copyFrom 147 = .ok (.aaload, 1) := by decide +kernel
theorem dX3_copyFrom_148 : decode cX3_copyFrom 148 = .ok (.aload_n 1, 1) := by decide +kernel
theorem dX3_copyFrom_149 : decode cX3_copyFrom 149 = .ok (.getfield 25, 3) := by decide +kernel
theorem dX3_copyFrom_152 : decode cX3_copyFrom 152 = .ok (.iload_n 2, 1) := by decide +kernel
theorem dX3_copyFrom_153 : decode cX3_copyFrom 153 = .ok (.aaload, 1) := by decide +kernel
theorem dX3_copyFrom_154 : decode cX3_copyFrom 154 = .ok (.invokevirtual 93, 3) := by decide +kernel
theorem dX3_copyFrom_157 : decode cX3_copyFrom 157 = .ok (.iinc 2 1, 3) := by decide +kernel
theorem dX3_copyFrom_160 : decode cX3_copyFrom 160 = .ok (.goto (-26), 3) := by decide +kernel
theorem dX3_copyFrom_163 : decode cX3_copyFrom 163 = .ok (.return_, 1) := by decide +kernel
theorem wpRX3_43 : zFw RX3 43 3 9 .int := ⟨_, rfl, by decide, zm_f 299 (by decide +kernel) rfl, rfl, by decide +kernel⟩
theorem wcRX3_80 : Cond.methodLink RX3 80 yX8_copyFrom ∈ zTg ∧ Cond.instanceMethod yX8_copyFrom ∈ zTg ∧ Cond.selects RX8 yX8_copyFrom yX8_copyFrom ∈ zTg ∧ Cond.initialized RX8 ∈ zTg ∧ Cond.code yX8_copyFrom cX8_copyFrom 2 none ∈ zTg := ⟨zm_f 568 (by decide +kernel) rfl, zm_f 569 (by decide +kernel) rfl, zm_f 570 (by decide +kernel) rfl, zm_f 39 (by decide +kernel) rfl, zm_f 571 (by decide +kernel) rfl⟩
theorem wy_yX8_copyFrom : yX8_copyFrom.cls = RX8 ∧ yX8_copyFrom.cls ≠ "java/lang/invoke/MethodHandle" ∧ yX8_copyFrom.cls ≠ "java/lang/invoke/VarHandle" ∧ (parseMethodDescriptor yX8_copyFrom.desc).map (fun d => d.parameters.length) = some 1 := by decide +kernel
theorem wcRX3_84 : Cond.methodLink RX3 84 yX2_copyFrom ∈ zTg ∧ Cond.instanceMethod yX2_copyFrom ∈ zTg ∧ Cond.selects RX2 yX2_copyFrom yX2_copyFrom ∈ zTg ∧ Cond.initialized RX2 ∈ zTg ∧ Cond.code yX2_copyFrom cX2_copyFrom 2 none ∈ zTg := ⟨zm_f 576 (by decide +kernel) rfl, zm_f 577 (by decide +kernel) rfl, zm_f 578 (by decide +kernel) rfl, zm_f 40 (by decide +kernel) rfl, zm_f 579 (by decide +kernel) rfl⟩
theorem wy_yX2_copyFrom : yX2_copyFrom.cls = RX2 ∧ yX2_copyFrom.cls ≠ "java/lang/invoke/MethodHandle" ∧ yX2_copyFrom.cls ≠ "java/lang/invoke/VarHandle" ∧ (parseMethodDescriptor yX2_copyFrom.desc).map (fun d => d.parameters.length) = some 1 := by decide +kernel
theorem wcRX3_87 : Cond.methodLink RX3 87 yX5_copyFrom ∈ zTg ∧ Cond.instanceMethod yX5_copyFrom ∈ zTg ∧ Cond.selects RX5 yX5_copyFrom yX5_copyFrom ∈ zTg ∧ Cond.initialized RX5 ∈ zTg ∧ Cond.code yX5_copyFrom cX5_copyFrom 2 none ∈ zTg := ⟨zm_f 583 (by decide +kernel) rfl, zm_f 584 (by decide +kernel) rfl, zm_f 585 (by decide +kernel) rfl, zm_f 41 (by decide +kernel) rfl, zm_f 586 (by decide +kernel) rfl⟩
theorem wy_yX5_copyFrom : yX5_copyFrom.cls = RX5 ∧ yX5_copyFrom.cls ≠ "java/lang/invoke/MethodHandle" ∧ yX5_copyFrom.cls ≠ "java/lang/invoke/VarHandle" ∧ (parseMethodDescriptor yX5_copyFrom.desc).map (fun d => d.parameters.length) = some 1 := by decide +kernel
theorem wcRX3_90 : Cond.methodLink RX3 90 yX0_copyFrom ∈ zTg ∧ Cond.instanceMethod yX0_copyFrom ∈ zTg ∧ Cond.selects RX0 yX0_copyFrom yX0_copyFrom ∈ zTg ∧ Cond.initialized RX0 ∈ zTg ∧ Cond.code yX0_copyFrom cX0_copyFrom 2 none ∈ zTg := ⟨zm_f 593 (by decide +kernel) rfl, zm_f 594 (by decide +kernel) rfl, zm_f 595 (by decide +kernel) rfl, zm_f 43 (by decide +kernel) rfl, zm_f 596 (by decide +kernel) rfl⟩
theorem wy_yX0_copyFrom : yX0_copyFrom.cls = RX0 ∧ yX0_copyFrom.cls ≠ "java/lang/invoke/MethodHandle" ∧ yX0_copyFrom.cls ≠ "java/lang/invoke/VarHandle" ∧ (parseMethodDescriptor yX0_copyFrom.desc).map (fun d => d.parameters.length) = some 1 := by decide +kernel
theorem wcRX3_93 : Cond.methodLink RX3 93 yX6_copyFrom ∈ zTg ∧ Cond.instanceMethod yX6_copyFrom ∈ zTg ∧ Cond.selects RX6 yX6_copyFrom yX6_copyFrom ∈ zTg ∧ Cond.initialized RX6 ∈ zTg ∧ Cond.code yX6_copyFrom cX6_copyFrom 2 none ∈ zTg := ⟨zm_f 597 (by decide +kernel) rfl, zm_f 598 (by decide +kernel) rfl, zm_f 599 (by decide +kernel) rfl, zm_f 44 (by decide +kernel) rfl, zm_f 600 (by decide +kernel) rfl⟩
theorem wy_yX6_copyFrom : yX6_copyFrom.cls = RX6 ∧ yX6_copyFrom.cls ≠ "java/lang/invoke/MethodHandle" ∧ yX6_copyFrom.cls ≠ "java/lang/invoke/VarHandle" ∧ (parseMethodDescriptor yX6_copyFrom.desc).map (fun d => d.parameters.length) = some 1 := by decide +kernel
def fSe_copyFrom_l72 (s1 : zM) (q9 : Int32 × zM) : Option ((Int32 × zM) ⊕ ((zM))) :=
  if (q9.2 0 0 5) ≤ q9.1 then
  some (.inr q9.2)
else
  zix q9.1 8 fun j11 =>
    zix q9.1 8 fun j12 =>
    Option.bind (fTu_copyFrom j11 j12 q9.2 s1) fun q13 =>
    zlet (q9.1 + 1) fun v14 =>
    some (.inl (v14, q13))
def fSe_copyFrom_l103 (s1 : zM) (q15 : Int32 × zM) : Option ((Int32 × zM) ⊕ ((zM))) :=
  if (q15.2 0 0 6) ≤ q15.1 then
  some (.inr q15.2)
else
  zix q15.1 3 fun j17 =>
    zix q15.1 3 fun j18 =>
    Option.bind (fCa_copyFrom j17 j18 q15.2 s1) fun q19 =>
    zlet (q15.1 + 1) fun v20 =>
    some (.inl (v20, q19))
def fSe_copyFrom_l134 (s1 : zM) (q21 : Int32 × zM) : Option ((Int32 × zM) ⊕ ((zM))) :=
  if (q21.2 0 0 7) ≤ q21.1 then
  some (.inr q21.2)
else
  zix q21.1 3 fun j23 =>
    zix q21.1 3 fun j24 =>
    Option.bind (fVe_copyFrom j23 j24 q21.2 s1) fun q25 =>
    zlet (q21.1 + 1) fun v26 =>
    some (.inl (v26, q25))
def fSe_copyFrom  (s0 : zM) (s1 : zM) : Option (zM) :=
  zlet (zu s0 0 0 5 (s1 0 0 5)) fun s0_1 =>
  zlet (zu s0_1 0 0 6 (s1 0 0 6)) fun s0_2 =>
  zlet (zu s0_2 0 0 7 (s1 0 0 7)) fun s0_3 =>
  zlet (zu s0_3 0 0 8 (s1 0 0 8)) fun s0_4 =>
  zlet (zu s0_4 0 0 9 (s1 0 0 9)) fun s0_5 =>
  zlet (zu s0_5 0 0 10 (s1 0 0 10)) fun s0_6 =>
  Option.bind (fWe_copyFrom s0_6 s1) fun q7 =>
  Option.bind (fLe_copyFrom q7 s1) fun q8 =>
  Option.bind (ziter (fSe_copyFrom_l72 s1) 1000 ((0 : Int32), q8)) fun q10 =>
  Option.bind (ziter (fSe_copyFrom_l103 s1) 1000 ((0 : Int32), q10)) fun q16 =>
  Option.bind (ziter (fSe_copyFrom_l134 s1) 1000 ((0 : Int32), q16)) fun q22 =>
  some q22
set_option maxHeartbeats 4000000 in
set_option maxRecDepth 20000 in
theorem bfSe_copyFrom_l72 {X : zX} (F : zFr X cX3_copyFrom 3 RX3 none) (s1 : zM)  {ψ : (Int32 × zM) ⊕ ((zM)) → Option zO} (h1 : ∀ q9 : Int32 × zM, zZ X [(0, []), (0, [])] 3 102 3 72 [some (zr 0 0 0), some (zr 1 0 0), some (zi q9.1)] [] [q9.2, s1] (ψ (.inl q9))) (h2 : ∀ q10 : zM, zZ X [(0, []), (0, [])] 3 102 3 101 [some (zr 0 0 0), some (zr 1 0 0), none] [] [q10, s1] (ψ (.inr q10))) (q9 : Int32 × zM) : zZ X [(0, []), (0, [])] 3 102 3 72 [some (zr 0 0 0), some (zr 1 0 0), some (zi q9.1)] [] [q9.2, s1] (Option.bind (fSe_copyFrom_l72 s1 q9) ψ) := by
  unfold fSe_copyFrom_l72
  refine zz_iload_n F (i := 2) dX3_copyFrom_72 rfl rfl ?_
  refine zz_aload_n F (i := 0) dX3_copyFrom_73 rfl rfl ?_
  refine zz_getf F dX3_copyFrom_74 wfRX3_56 zCl_3 rfl (⟨zlb rfl, zlb rfl, zlb rfl⟩) rfl (by decide) rfl rfl ?_
  refine zz_icmp_ge F (tgt := 101) dX3_copyFrom_77 (by decide) (fun h => zz_t h ?_) (fun h => zz_f h ?_)
  · exact zz_sub (zs_k (zs_k (zs_n zs_z))) (h2 q9.2)
  · refine zz_aload_n F (i := 0) dX3_copyFrom_80 rfl rfl ?_
    refine zz_getr F dX3_copyFrom_81 wfRX3_11 zCl_3 rfl (⟨zlb rfl, zlb rfl, zlb rfl⟩) rfl (by decide) rfl (r' := 0) (by decide) ?_
    refine zz_iload_n F (i := 2) dX3_copyFrom_84 rfl rfl ?_
    refine zz_ix fun j11 hj11 hinj11 hej11 => zz_aal F dX3_copyFrom_85 rfl (⟨zlb rfl, zlb rfl, zlb rfl⟩) rfl (by decide) rfl hinj11 hej11 rfl ?_
    refine zz_aload_n F (i := 1) dX3_copyFrom_86 rfl rfl ?_
    refine zz_getr F dX3_copyFrom_87 wfRX3_11 zCl_3 rfl (⟨zlb rfl, zlb rfl, zlb rfl⟩) rfl (by decide) rfl (r' := 1) (by decide) ?_
    refine zz_iload_n F (i := 2) dX3_copyFrom_90 rfl rfl ?_
    refine zz_ix fun j12 hj12 hinj12 hej12 => zz_aal F dX3_copyFrom_91 rfl (⟨zlb rfl, zlb rfl, zlb rfl⟩) rfl (by decide) rfl hinj12 hej12 rfl ?_
    refine zz_bind ?_
    refine zz_callVr F (ρ := [0, 1]) (so := fun q13 => []) (Mo := fun q13 => [q13, s1]) (zfTu_copyFrom j11 j12 hj11 hj12 q9.2 s1) dX3_copyFrom_92 wcRX3_87 wy_yX5_copyFrom rfl ⟨rel7, rfl, rfl, Nat.le_of_ble_eq_true rfl, Nat.le_of_ble_eq_true rfl, Nat.le_of_ble_eq_true rfl⟩ (⟨zlb rfl, zlb rfl, hj11⟩) rfl rfl rfl (fun _ => rfl) (fun _ => rfl) fun q13 => ?_
    refine zz_iinc F (i := 2) (v := q9.1 + 1) (L' := [some (zr 0 0 0), some (zr 1 0 0), some (zi (q9.1 + 1))]) dX3_copyFrom_95 rfl (by first | rfl | decide) (by decide) rfl rfl ?_
    refine zz_letl (Lf := fun v14 => [some (zr 0 0 0), some (zr 1 0 0), some (zi v14)]) fun v14 => ?_
    refine zz_goto F (tgt := 72) dX3_copyFrom_98 (by decide) ?_
    exact zz_sub (zs_k (zs_k (zs_k zs_z))) (h1 (v14, q13))
set_option maxHeartbeats 4000000 in
set_option maxRecDepth 20000 in
theorem bfSe_copyFrom_l103 {X : zX} (F : zFr X cX3_copyFrom 3 RX3 none) (s1 : zM)  {ψ : (Int32 × zM) ⊕ ((zM)) → Option zO} (h1 : ∀ q15 : Int32 × zM, zZ X [(0, []), (0, [])] 3 102 3 103 [some (zr 0 0 0), some (zr 1 0 0), some (zi q15.1)] [] [q15.2, s1] (ψ (.inl q15))) (h2 : ∀ q16 : zM, zZ X [(0, []), (0, [])] 3 102 3 132 [some (zr 0 0 0), some (zr 1 0 0), none] [] [q16, s1] (ψ (.inr q16))) (q15 : Int32 × zM) : zZ X [(0, []), (0, [])] 3 102 3 103 [some (zr 0 0 0), some (zr 1 0 0), some (zi q15.1)] [] [q15.2, s1] (Option.bind (fSe_copyFrom_l103 s1 q15) ψ) := by
  unfold fSe_copyFrom_l103
  refine zz_iload_n F (i := 2) dX3_copyFrom_103 rfl rfl ?_
  refine zz_aload_n F (i := 0) dX3_copyFrom_104 rfl rfl ?_
  refine zz_getf F dX3_copyFrom_105 wfRX3_50 zCl_3 rfl (⟨zlb rfl, zlb rfl, zlb rfl⟩) rfl (by decide) rfl rfl ?_
  refine zz_icmp_ge F (tgt := 132) dX3_copyFrom_108 (by decide) (fun h => zz_t h ?_) (fun h => zz_f h ?_)
  · exact zz_sub (zs_k (zs_k (zs_n zs_z))) (h2 q15.2)
  · refine zz_aload_n F (i := 0) dX3_copyFrom_111 rfl rfl ?_
    refine zz_getr F dX3_copyFrom_112 wfRX3_19 zCl_3 rfl (⟨zlb rfl, zlb rfl, zlb rfl⟩) rfl (by decide) rfl (r' := 0) (by decide) ?_
    refine zz_iload_n F (i := 2) dX3_copyFrom_115 rfl rfl ?_
    refine zz_ix fun j17 hj17 hinj17 hej17 => zz_aal F dX3_copyFrom_116 rfl (⟨zlb rfl, zlb rfl, zlb rfl⟩) rfl (by decide) rfl hinj17 hej17 rfl ?_
    refine zz_aload_n F (i := 1) dX3_copyFrom_117 rfl rfl ?_
    refine zz_getr F dX3_copyFrom_118 wfRX3_19 zCl_3 rfl (⟨zlb rfl, zlb rfl, zlb rfl⟩) rfl (by decide) rfl (r' := 1) (by decide) ?_
    refine zz_iload_n F (i := 2) dX3_copyFrom_121 rfl rfl ?_
    refine zz_ix fun j18 hj18 hinj18 hej18 => zz_aal F dX3_copyFrom_122 rfl (⟨zlb rfl, zlb rfl, zlb rfl⟩) rfl (by decide) rfl hinj18 hej18 rfl ?_
    refine zz_bind ?_
    refine zz_callVr F (ρ := [0, 1]) (so := fun q19 => []) (Mo := fun q19 => [q19, s1]) (zfCa_copyFrom j17 j18 hj17 hj18 q15.2 s1) dX3_copyFrom_123 wcRX3_90 wy_yX0_copyFrom rfl ⟨rel7, rfl, rfl, Nat.le_of_ble_eq_true rfl, Nat.le_of_ble_eq_true rfl, Nat.le_of_ble_eq_true rfl⟩ (⟨zlb rfl, zlb rfl, hj17⟩) rfl rfl rfl (fun _ => rfl) (fun _ => rfl) fun q19 => ?_
    refine zz_iinc F (i := 2) (v := q15.1 + 1) (L' := [some (zr 0 0 0), some (zr 1 0 0), some (zi (q15.1 + 1))]) dX3_copyFrom_126 rfl (by first | rfl | decide) (by decide) rfl rfl ?_
    refine zz_letl (Lf := fun v20 => [some (zr 0 0 0), some (zr 1 0 0), some (zi v20)]) fun v20 => ?_
    refine zz_goto F (tgt := 103) dX3_copyFrom_129 (by decide) ?_
    exact zz_sub (zs_k (zs_k (zs_k zs_z))) (h1 (v20, q19))
set_option maxHeartbeats 4000000 in
set_option maxRecDepth 20000 in
theorem bfSe_copyFrom_l134 {X : zX} (F : zFr X cX3_copyFrom 3 RX3 none) (s1 : zM)  {ψ : (Int32 × zM) ⊕ ((zM)) → Option zO} (h1 : ∀ q21 : Int32 × zM, zZ X [(0, []), (0, [])] 3 102 3 134 [some (zr 0 0 0), some (zr 1 0 0), some (zi q21.1)] [] [q21.2, s1] (ψ (.inl q21))) (h2 : ∀ q22 : zM, zZ X [(0, []), (0, [])] 3 102 3 163 [none, none, none] [] [q22, s1] (ψ (.inr q22))) (q21 : Int32 × zM) : zZ X [(0, []), (0, [])] 3 102 3 134 [some (zr 0 0 0), some (zr 1 0 0), some (zi q21.1)] [] [q21.2, s1] (Option.bind (fSe_copyFrom_l134 s1 q21) ψ) := by
  unfold fSe_copyFrom_l134
  refine zz_iload_n F (i := 2) dX3_copyFrom_134 rfl rfl ?_
  refine zz_aload_n F (i := 0) dX3_copyFrom_135 rfl rfl ?_
  refine zz_getf F dX3_copyFrom_136 wfRX3_68 zCl_3 rfl (⟨zlb rfl, zlb rfl, zlb rfl⟩) rfl (by decide) rfl rfl ?_
  refine zz_icmp_ge F (tgt := 163) dX3_copyFrom_139 (by decide) (fun h => zz_t h ?_) (fun h => zz_f h ?_)
  · exact zz_sub (zs_n (zs_n (zs_n zs_z))) (h2 q21.2)
  · refine zz_aload_n F (i := 0) dX3_copyFrom_142 rfl rfl ?_
    refine zz_getr F dX3_copyFrom_143 wfRX3_25 zCl_3 rfl (⟨zlb rfl, zlb rfl, zlb rfl⟩) rfl (by decide) rfl (r' := 0) (by decide) ?_
    refine zz_iload_n F (i := 2) dX3_copyFrom_146 rfl rfl ?_
    refine zz_ix fun j23 hj23 hinj23 hej23 => zz_aal F dX3_copyFrom_147 rfl (⟨zlb rfl, zlb rfl, zlb rfl⟩) rfl (by decide) rfl hinj23 hej23 rfl ?_
    refine zz_aload_n F (i := 1) dX3_copyFrom_148 rfl rfl ?_
    refine zz_getr F dX3_copyFrom_149 wfRX3_25 zCl_3 rfl (⟨zlb rfl, zlb rfl, zlb rfl⟩) rfl (by decide) rfl (r' := 1) (by decide) ?_
    refine zz_iload_n F (i := 2) dX3_copyFrom_152 rfl rfl ?_
    refine zz_ix fun j24 hj24 hinj24 hej24 => zz_aal F dX3_copyFrom_153 rfl (⟨zlb rfl, zlb rfl, zlb rfl⟩) rfl (by decide) rfl hinj24 hej24 rfl ?_
    refine zz_bind ?_
    refine zz_callVr F (ρ := [0, 1]) (so := fun q25 => []) (Mo := fun q25 => [q25, s1]) (zfVe_copyFrom j23 j24 hj23 hj24 q21.2 s1) dX3_copyFrom_154 wcRX3_93 wy_yX6_copyFrom rfl ⟨rel7, rfl, rfl, Nat.le_of_ble_eq_true rfl, Nat.le_of_ble_eq_true rfl, Nat.le_of_ble_eq_true rfl⟩ (⟨zlb rfl, zlb rfl, hj23⟩) rfl rfl rfl (fun _ => rfl) (fun _ => rfl) fun q25 => ?_
    refine zz_iinc F (i := 2) (v := q21.1 + 1) (L' := [some (zr 0 0 0), some (zr 1 0 0), some (zi (q21.1 + 1))]) dX3_copyFrom_157 rfl (by first | rfl | decide) (by decide) rfl rfl ?_
    refine zz_letl (Lf := fun v26 => [some (zr 0 0 0), some (zr 1 0 0), some (zi v26)]) fun v26 => ?_
    refine zz_goto F (tgt := 134) dX3_copyFrom_160 (by decide) ?_
    exact zz_sub (zs_k (zs_k (zs_k zs_z))) (h1 (v26, q25))
set_option maxHeartbeats 4000000 in
set_option maxRecDepth 20000 in
theorem bfSe_copyFrom {X : zX} (F : zFr X cX3_copyFrom 3 RX3 none)   (s0 : zM) (s1 : zM) {κ : zM → Option zO} (hκ : ∀ a, κ a = some ((fun a => ((.inl ((fun _ => (none : Option zV)) a), (fun q => [q, s1]) a) : zO)) a)) : zZ X [(0, []), (0, [])] 3 102 3 0 [some (zr 0 0 0), some (zr 1 0 0), none] [] [s0, s1] (Option.bind (fSe_copyFrom s0 s1) κ) := by
  unfold fSe_copyFrom
  refine zz_aload_n F (i := 0) dX3_copyFrom_0 rfl rfl ?_
  refine zz_aload_n F (i := 1) dX3_copyFrom_1 rfl rfl ?_
  refine zz_getf F dX3_copyFrom_2 wfRX3_56 zCl_3 rfl (⟨zlb rfl, zlb rfl, zlb rfl⟩) rfl (by decide) rfl rfl ?_
  refine zz_put F (Ms' := [(zu s0 0 0 5 (s1 0 0 5)), s1]) dX3_copyFrom_5 wpRX3_56 zCl_3 rfl (⟨zlb rfl, zlb rfl, zlb rfl⟩) rfl (by decide) rfl rfl rfl ?_
  refine zz_letm (Mf := fun s0_1 => [s0_1, s1]) fun s0_1 => ?_
  refine zz_aload_n F (i := 0) dX3_copyFrom_8 rfl rfl ?_
  refine zz_aload_n F (i := 1) dX3_copyFrom_9 rfl rfl ?_
  refine zz_getf F dX3_copyFrom_10 wfRX3_50 zCl_3 rfl (⟨zlb rfl, zlb rfl, zlb rfl⟩) rfl (by decide) rfl rfl ?_
  refine zz_put F (Ms' := [(zu s0_1 0 0 6 (s1 0 0 6)), s1]) dX3_copyFrom_13 wpRX3_50 zCl_3 rfl (⟨zlb rfl, zlb rfl, zlb rfl⟩) rfl (by decide) rfl rfl rfl ?_
  refine zz_letm (Mf := fun s0_2 => [s0_2, s1]) fun s0_2 => ?_
  refine zz_aload_n F (i := 0) dX3_copyFrom_16 rfl rfl ?_
  refine zz_aload_n F (i := 1) dX3_copyFrom_17 rfl rfl ?_
  refine zz_getf F dX3_copyFrom_18 wfRX3_68 zCl_3 rfl (⟨zlb rfl, zlb rfl, zlb rfl⟩) rfl (by decide) rfl rfl ?_
  refine zz_put F (Ms' := [(zu s0_2 0 0 7 (s1 0 0 7)), s1]) dX3_copyFrom_21 wpRX3_68 zCl_3 rfl (⟨zlb rfl, zlb rfl, zlb rfl⟩) rfl (by decide) rfl rfl rfl ?_
  refine zz_letm (Mf := fun s0_3 => [s0_3, s1]) fun s0_3 => ?_
  refine zz_aload_n F (i := 0) dX3_copyFrom_24 rfl rfl ?_
  refine zz_aload_n F (i := 1) dX3_copyFrom_25 rfl rfl ?_
  refine zz_getf F dX3_copyFrom_26 wfRX3_74 zCl_3 rfl (⟨zlb rfl, zlb rfl, zlb rfl⟩) rfl (by decide) rfl rfl ?_
  refine zz_put F (Ms' := [(zu s0_3 0 0 8 (s1 0 0 8)), s1]) dX3_copyFrom_29 wpRX3_74 zCl_3 rfl (⟨zlb rfl, zlb rfl, zlb rfl⟩) rfl (by decide) rfl rfl rfl ?_
  refine zz_letm (Mf := fun s0_4 => [s0_4, s1]) fun s0_4 => ?_
  refine zz_aload_n F (i := 0) dX3_copyFrom_32 rfl rfl ?_
  refine zz_aload_n F (i := 1) dX3_copyFrom_33 rfl rfl ?_
  refine zz_getf F dX3_copyFrom_34 wfRX3_43 zCl_3 rfl (⟨zlb rfl, zlb rfl, zlb rfl⟩) rfl (by decide) rfl rfl ?_
  refine zz_put F (Ms' := [(zu s0_4 0 0 9 (s1 0 0 9)), s1]) dX3_copyFrom_37 wpRX3_43 zCl_3 rfl (⟨zlb rfl, zlb rfl, zlb rfl⟩) rfl (by decide) rfl rfl rfl ?_
  refine zz_letm (Mf := fun s0_5 => [s0_5, s1]) fun s0_5 => ?_
  refine zz_aload_n F (i := 0) dX3_copyFrom_40 rfl rfl ?_
  refine zz_aload_n F (i := 1) dX3_copyFrom_41 rfl rfl ?_
  refine zz_getf F dX3_copyFrom_42 wfRX3_77 zCl_3 rfl (⟨zlb rfl, zlb rfl, zlb rfl⟩) rfl (by decide) rfl rfl ?_
  refine zz_put F (Ms' := [(zu s0_5 0 0 10 (s1 0 0 10)), s1]) dX3_copyFrom_45 wpRX3_77 zCl_3 rfl (⟨zlb rfl, zlb rfl, zlb rfl⟩) rfl (by decide) rfl rfl rfl ?_
  refine zz_letm (Mf := fun s0_6 => [s0_6, s1]) fun s0_6 => ?_
  refine zz_aload_n F (i := 0) dX3_copyFrom_48 rfl rfl ?_
  refine zz_getr F dX3_copyFrom_49 wfRX3_32 zCl_3 rfl (⟨zlb rfl, zlb rfl, zlb rfl⟩) rfl (by decide) rfl (r' := 0) (by decide) ?_
  refine zz_aload_n F (i := 1) dX3_copyFrom_52 rfl rfl ?_
  refine zz_getr F dX3_copyFrom_53 wfRX3_32 zCl_3 rfl (⟨zlb rfl, zlb rfl, zlb rfl⟩) rfl (by decide) rfl (r' := 1) (by decide) ?_
  refine zz_bind ?_
  refine zz_callVr F (ρ := [0, 1]) (so := fun q7 => []) (Mo := fun q7 => [q7, s1]) (zfWe_copyFrom s0_6 s1) dX3_copyFrom_56 wcRX3_80 wy_yX8_copyFrom rfl ⟨rel7, rfl, rfl, Nat.le_of_ble_eq_true rfl, Nat.le_of_ble_eq_true rfl, Nat.le_of_ble_eq_true rfl⟩ (⟨zlb rfl, zlb rfl, zlb rfl⟩) rfl rfl rfl (fun _ => rfl) (fun _ => rfl) fun q7 => ?_
  refine zz_aload_n F (i := 0) dX3_copyFrom_59 rfl rfl ?_
  refine zz_getr F dX3_copyFrom_60 wfRX3_39 zCl_3 rfl (⟨zlb rfl, zlb rfl, zlb rfl⟩) rfl (by decide) rfl (r' := 0) (by decide) ?_
  refine zz_aload_n F (i := 1) dX3_copyFrom_63 rfl rfl ?_
  refine zz_getr F dX3_copyFrom_64 wfRX3_39 zCl_3 rfl (⟨zlb rfl, zlb rfl, zlb rfl⟩) rfl (by decide) rfl (r' := 1) (by decide) ?_
  refine zz_bind ?_
  refine zz_callVr F (ρ := [0, 1]) (so := fun q8 => []) (Mo := fun q8 => [q8, s1]) (zfLe_copyFrom q7 s1) dX3_copyFrom_67 wcRX3_84 wy_yX2_copyFrom rfl ⟨rel7, rfl, rfl, Nat.le_of_ble_eq_true rfl, Nat.le_of_ble_eq_true rfl, Nat.le_of_ble_eq_true rfl⟩ (⟨zlb rfl, zlb rfl, zlb rfl⟩) rfl rfl rfl (fun _ => rfl) (fun _ => rfl) fun q8 => ?_
  refine zz_iconst F (v := (0 : Int32)) dX3_copyFrom_70 (by decide) ?_
  refine zz_istore_n F (i := 2) (L' := [some (zr 0 0 0), some (zr 1 0 0), some (zi (0 : Int32))]) dX3_copyFrom_71 rfl (by decide) rfl rfl ?_
  refine zz_sub (zs_k (zs_k (zs_k zs_z))) ?_
  refine zz_bind ?_
  refine zz_iter (Lf := fun q9 => [some (zr 0 0 0), some (zr 1 0 0), some (zi q9.1)]) (Mf := fun q9 => [q9.2, s1]) (fun q9 _ e31 e32 => bfSe_copyFrom_l72 F s1  e31 (fun q10 => ?_)  q9) 1000 ((0 : Int32), q8)
  rw [e32]
  refine zz_iconst F (v := (0 : Int32)) dX3_copyFrom_101 (by decide) ?_
  refine zz_istore_n F (i := 2) (L' := [some (zr 0 0 0), some (zr 1 0 0), some (zi (0 : Int32))]) dX3_copyFrom_102 rfl (by decide) rfl rfl ?_
  refine zz_sub (zs_k (zs_k (zs_k zs_z))) ?_
  refine zz_bind ?_
  refine zz_iter (Lf := fun q15 => [some (zr 0 0 0), some (zr 1 0 0), some (zi q15.1)]) (Mf := fun q15 => [q15.2, s1]) (fun q15 _ e29 e30 => bfSe_copyFrom_l103 F s1  e29 (fun q16 => ?_)  q15) 1000 ((0 : Int32), q10)
  rw [e30]
  refine zz_iconst F (v := (0 : Int32)) dX3_copyFrom_132 (by decide) ?_
  refine zz_istore_n F (i := 2) (L' := [some (zr 0 0 0), some (zr 1 0 0), some (zi (0 : Int32))]) dX3_copyFrom_133 rfl (by decide) rfl rfl ?_
  refine zz_sub (zs_k (zs_k (zs_k zs_z))) ?_
  refine zz_bind ?_
  refine zz_iter (Lf := fun q21 => [some (zr 0 0 0), some (zr 1 0 0), some (zi q21.1)]) (Mf := fun q21 => [q21.2, s1]) (fun q21 _ e27 e28 => bfSe_copyFrom_l134 F s1  e27 (fun q22 => ?_)  q21) 1000 ((0 : Int32), q16)
  rw [e28]
  exact zz_return F dX3_copyFrom_163 rfl (hκ _)
theorem zfSe_copyFrom   (s0 : zM) (s1 : zM) : ∀ a, fSe_copyFrom s0 s1 = some a → zMet yX3_copyFrom cX3_copyFrom 3 none 3 102 [(0, []), (0, [])] [zr 0 0 0, zr 1 0 0] [s0, s1] ((fun a => ((.inl ((fun _ => (none : Option zV)) a), (fun q => [q, s1]) a) : zO)) a) := fun a ha => zMet_of (L0 := [some (zr 0 0 0), some (zr 1 0 0), none]) (φ := Option.bind (fSe_copyFrom s0 s1) (fun a => some ((fun a => ((.inl ((fun _ => (none : Option zV)) a), (fun q => [q, s1]) a) : zO)) a))) (by decide) (fun _ => Nat.le_of_ble_eq_true rfl) (zl0 1 rfl) (fun X F => bfSe_copyFrom F s0 s1 (fun _ => rfl)) (by rw [ha]; rfl)

theorem dX9_wouldDeliver_0 : decode cX9_wouldDeliver 0 = .ok (.iload_n 1, 1) := by decide +kernel
theorem dX9_wouldDeliver_1 : decode cX9_wouldDeliver 1 = .ok (.iconst 1, 1) := by decide +kernel
theorem dX9_wouldDeliver_2 : decode cX9_wouldDeliver 2 = .ok (.bipush 24, 2) := by decide +kernel
theorem dX9_wouldDeliver_4 : decode cX9_wouldDeliver 4 = .ok (.invokestatic 26, 3) := by decide +kernel
theorem dX9_wouldDeliver_7 : decode cX9_wouldDeliver 7 = .ok (.ifCond .eq 14, 3) := by decide +kernel
theorem dX9_wouldDeliver_10 : decode cX9_wouldDeliver 10 = .ok (.new 30, 3) := by decide +kernel
theorem dX9_wouldDeliver_13 : decode cX9_wouldDeliver 13 = .ok (.dup, 1) := by decide +kernel
theorem dX9_wouldDeliver_14 : decode cX9_wouldDeliver 14 = .ok (.ldc_w 308, 3) := by decide +kernel
theorem dX9_wouldDeliver_17 : decode cX9_wouldDeliver 17 = .ok (.invokespecial 34, 3) := by decide +kernel
theorem dX9_wouldDeliver_20 : decode cX9_wouldDeliver 20 = .ok (.athrow, 1) := by decide +kernel
theorem dX9_wouldDeliver_21 : decode cX9_wouldDeliver 21 = .ok (.aload_n 0, 1) := by decide +kernel
theorem dX9_wouldDeliver_22 : decode cX9_wouldDeliver 22 = .ok (.getfield 16, 3) := by decide +kernel
theorem dX9_wouldDeliver_25 : decode cX9_wouldDeliver 25 = .ok (.aload_n 0, 1) := by decide +kernel
theorem dX9_wouldDeliver_26 : decode cX9_wouldDeliver 26 = .ok (.getfield 10, 3) := by decide +kernel
theorem dX9_wouldDeliver_29 : decode cX9_wouldDeliver 29 = .ok (.invokevirtual 310, 3) := by decide +kernel
theorem dX9_wouldDeliver_32 : decode cX9_wouldDeliver 32 = .ok (.aload_n 0, 1) := by decide +kernel
theorem dX9_wouldDeliver_33 : decode cX9_wouldDeliver 33 = .ok (.getfield 16, 3) := by decide +kernel
theorem dX9_wouldDeliver_36 : decode cX9_wouldDeliver 36 = .ok (.iload_n 1, 1) := by decide +kernel
theorem dX9_wouldDeliver_37 : decode cX9_wouldDeliver 37 = .ok (.invokevirtual 110, 3) := by decide +kernel
theorem dX9_wouldDeliver_40 : decode cX9_wouldDeliver 40 = .ok (.ireturn, 1) := by decide +kernel
theorem wfRX9_16 : zFl RX9 16 8 1 := ⟨_, rfl, by decide, zm_f 340 (by decide +kernel) rfl⟩
theorem wcRX9_310 : Cond.methodLink RX9 310 yX3_copyFrom ∈ zTg ∧ Cond.instanceMethod yX3_copyFrom ∈ zTg ∧ Cond.selects RX3 yX3_copyFrom yX3_copyFrom ∈ zTg ∧ Cond.initialized RX3 ∈ zTg ∧ Cond.code yX3_copyFrom cX3_copyFrom 3 none ∈ zTg := ⟨zm_f 564 (by decide +kernel) rfl, zm_f 565 (by decide +kernel) rfl, zm_f 566 (by decide +kernel) rfl, zm_f 38 (by decide +kernel) rfl, zm_f 567 (by decide +kernel) rfl⟩
theorem wy_yX3_copyFrom : yX3_copyFrom.cls = RX3 ∧ yX3_copyFrom.cls ≠ "java/lang/invoke/MethodHandle" ∧ yX3_copyFrom.cls ≠ "java/lang/invoke/VarHandle" ∧ (parseMethodDescriptor yX3_copyFrom.desc).map (fun d => d.parameters.length) = some 1 := by decide +kernel
theorem rel8 : zRel [2, 1] [(2, [1, 2, 3]), (0, []), (0, []), (1, [])] [(0, []), (0, [])] := by unfold zRel; decide
theorem rel9 : zRel [2] [(2, [1, 2, 3]), (0, []), (0, []), (1, [])] [(0, [])] := by unfold zRel; decide
theorem wsRX9_308 : (RX9, 308, "HOURS are 1 to 24") ∈ zstr := by decide +kernel
def fWB_wouldDeliver (a1 : Int32) (s0 : zM) (s1 : zM) (s2 : zM) (s3 : zM) : Option ((Int32 × zM) ⊕ (String × zM)) :=
  Option.bind (fWB_outside a1 (1 : Int32) (24 : Int32)) fun q1 =>
  if q1 = 0 then
  Option.bind (fSe_copyFrom s2 s1) fun q2 =>
    Option.bind (fSe_passHours a1 q2) fun q3 =>
    some (.inl (q3.1, q3.2))
else
  some (.inr ("java/lang/IllegalArgumentException", s2))
set_option maxHeartbeats 4000000 in
set_option maxRecDepth 20000 in
theorem bfWB_wouldDeliver {X : zX} (F : zFr X cX9_wouldDeliver 2 RX9 (some .int)) (a1 : Int32)  (s0 : zM) (s1 : zM) (s2 : zM) (s3 : zM) {κ : (Int32 × zM) ⊕ (String × zM) → Option zO} (hκ : ∀ a, κ a = some ((zts (fun q => some (zi q.1)) (fun q => [s0, s1, q.2, s3]) (fun b => b.1) (fun b => [s0, s1, b.2, s3])) a)) : zZ X [(2, [1, 2, 3]), (0, []), (0, []), (1, [])] 6 133 2 0 [some (zr 0 0 0), some (zi a1)] [] [s0, s1, s2, s3] (Option.bind (fWB_wouldDeliver a1 s0 s1 s2 s3) κ) := by
  unfold fWB_wouldDeliver
  refine zz_iload_n F (i := 1) dX9_wouldDeliver_0 rfl rfl ?_
  refine zz_iconst F (v := (1 : Int32)) dX9_wouldDeliver_1 (by decide) ?_
  refine zz_bipush F (v := (24 : Int32)) dX9_wouldDeliver_2 (by decide) ?_
  refine zz_bind ?_
  refine zz_callSr F (ρ := []) (so := fun q1 => [zi q1]) (Mo := fun q1 => [s0, s1, s2, s3]) (zfWB_outside a1 (1 : Int32) (24 : Int32)) dX9_wouldDeliver_4 wcRX9_26 wy_yX9_outside rfl ⟨rel0, rfl, rfl, Nat.le_of_ble_eq_true rfl, Nat.le_of_ble_eq_true rfl, Nat.le_of_ble_eq_true rfl⟩ rfl (fun _ => rfl) (fun _ => rfl) fun q1 => ?_
  refine zz_if_eq F (tgt := 21) dX9_wouldDeliver_7 (by decide) (fun h => zz_t h ?_) (fun h => zz_f h ?_)
  · refine zz_aload_n F (i := 0) dX9_wouldDeliver_21 rfl rfl ?_
    refine zz_getr F dX9_wouldDeliver_22 wfRX9_16 zCl_8 rfl (⟨zlb rfl, zlb rfl, zlb rfl⟩) rfl (by decide) rfl (r' := 2) (by decide) ?_
    refine zz_aload_n F (i := 0) dX9_wouldDeliver_25 rfl rfl ?_
    refine zz_getr F dX9_wouldDeliver_26 wfRX9_10 zCl_8 rfl (⟨zlb rfl, zlb rfl, zlb rfl⟩) rfl (by decide) rfl (r' := 1) (by decide) ?_
    refine zz_bind ?_
    refine zz_callVr F (ρ := [2, 1]) (so := fun q2 => []) (Mo := fun q2 => [s0, s1, q2, s3]) (zfSe_copyFrom s2 s1) dX9_wouldDeliver_29 wcRX9_310 wy_yX3_copyFrom rfl ⟨rel8, rfl, rfl, Nat.le_of_ble_eq_true rfl, Nat.le_of_ble_eq_true rfl, Nat.le_of_ble_eq_true rfl⟩ (⟨zlb rfl, zlb rfl, zlb rfl⟩) rfl rfl rfl (fun _ => rfl) (fun _ => rfl) fun q2 => ?_
    refine zz_aload_n F (i := 0) dX9_wouldDeliver_32 rfl rfl ?_
    refine zz_getr F dX9_wouldDeliver_33 wfRX9_16 zCl_8 rfl (⟨zlb rfl, zlb rfl, zlb rfl⟩) rfl (by decide) rfl (r' := 2) (by decide) ?_
    refine zz_iload_n F (i := 1) dX9_wouldDeliver_36 rfl rfl ?_
    refine zz_bind ?_
    refine zz_callVr F (ρ := [2]) (so := fun q3 => [zi q3.1]) (Mo := fun q3 => [s0, s1, q3.2, s3]) (zfSe_passHours a1 q2) dX9_wouldDeliver_37 wcRX9_110 wy_yX3_passHours rfl ⟨rel9, rfl, rfl, Nat.le_of_ble_eq_true rfl, Nat.le_of_ble_eq_true rfl, Nat.le_of_ble_eq_true rfl⟩ (⟨zlb rfl, zlb rfl, zlb rfl⟩) rfl rfl rfl (fun _ => rfl) (fun _ => rfl) fun q3 => ?_
    exact zz_ireturn F dX9_wouldDeliver_40 rfl (hκ _)
  · exact zz_throwW F (cls := "java/lang/IllegalArgumentException") dX9_wouldDeliver_10 dX9_wouldDeliver_13 dX9_wouldDeliver_14 dX9_wouldDeliver_17 dX9_wouldDeliver_20 (by decide) wtRX9_30_34k wsRX9_308 wtRX9_30_34g wtRX9_30_34n wtRX9_30_34o (Nat.le_of_ble_eq_true rfl) (Nat.le_of_ble_eq_true rfl) (hκ _)
theorem zfWB_wouldDeliver (a1 : Int32)  (s0 : zM) (s1 : zM) (s2 : zM) (s3 : zM) : ∀ a, fWB_wouldDeliver a1 s0 s1 s2 s3 = some a → zMet yX9_wouldDeliver cX9_wouldDeliver 2 (some .int) 6 133 [(2, [1, 2, 3]), (0, []), (0, []), (1, [])] [zr 0 0 0, zi a1] [s0, s1, s2, s3] ((zts (fun q => some (zi q.1)) (fun q => [s0, s1, q.2, s3]) (fun b => b.1) (fun b => [s0, s1, b.2, s3])) a) := fun a ha => zMet_of (L0 := [some (zr 0 0 0), some (zi a1)]) (φ := Option.bind (fWB_wouldDeliver a1 s0 s1 s2 s3) (fun a => some ((zts (fun q => some (zi q.1)) (fun q => [s0, s1, q.2, s3]) (fun b => b.1) (fun b => [s0, s1, b.2, s3])) a))) (by decide) (fun _ => Nat.le_of_ble_eq_true rfl) (zl0 0 rfl) (fun X F => bfWB_wouldDeliver F a1 s0 s1 s2 s3 (fun _ => rfl)) (by rw [ha]; rfl)

theorem dX9_bestTurn_0 : decode cX9_bestTurn 0 = .ok (.aload_n 0, 1) := by decide +kernel
theorem dX9_bestTurn_1 : decode cX9_bestTurn 1 = .ok (.iload_n 1, 1) := by decide +kernel
theorem dX9_bestTurn_2 : decode cX9_bestTurn 2 = .ok (.invokevirtual 113, 3) := by decide +kernel
theorem dX9_bestTurn_5 : decode cX9_bestTurn 5 = .ok (.iconst 0, 1) := by decide +kernel
theorem dX9_bestTurn_6 : decode cX9_bestTurn 6 = .ok (.istore_n 2, 1) := by decide +kernel
theorem dX9_bestTurn_7 : decode cX9_bestTurn 7 = .ok (.iconst (-1), 1) := by decide +kernel
theorem dX9_bestTurn_8 : decode cX9_bestTurn 8 = .ok (.istore_n 3, 1) := by decide +kernel
theorem dX9_bestTurn_9 : decode cX9_bestTurn 9 = .ok (.iconst 0, 1) := by decide +kernel
theorem dX9_bestTurn_10 : decode cX9_bestTurn 10 = .ok (.istore 4, 2) := by decide +kernel
theorem dX9_bestTurn_12 : decode cX9_bestTurn 12 = .ok (.iload 4, 2) := by decide +kernel
theorem dX9_bestTurn_14 : decode cX9_bestTurn 14 = .ok (.getstatic 314, 3) := by decide +kernel
theorem dX9_bestTurn_17 : decode cX9_bestTurn 17 = .ok (.arraylength, 1) := by decide +kernel
theorem dX9_bestTurn_18 : decode cX9_bestTurn 18 = .ok (.if_icmp .ge 63, 3) := by decide +kernel
theorem dX9_bestTurn_21 : decode cX9_bestTurn 21 = .ok (.aload_n 0, 1) := by decide +kernel
theorem dX9_bestTurn_22 : decode cX9_bestTurn 22 = .ok (.getfield 16, 3) := by decide +kernel
theorem dX9_bestTurn_25 : decode cX9_bestTurn 25 = .ok (.aload_n 0, 1) := by decide +kernel
theorem dX9_bestTurn_26 : decode cX9_bestTurn 26 = .ok (.getfield 10, 3) := by decide +kernel
theorem dX9_bestTurn_29 : decode cX9_bestTurn 29 = .ok (.invokevirtual 310, 3) := by decide +kernel
theorem dX9_bestTurn_32 : decode cX9_bestTurn 32 = .ok (.aload_n 0, 1) := by decide +kernel
theorem dX9_bestTurn_33 : decode cX9_bestTurn 33 = .ok (.getfield 16, 3) := by decide +kernel
theorem dX9_bestTurn_36 : decode cX9_bestTurn 36 = .ok (.getfield 118, 3) := by decide +kernel
theorem dX9_bestTurn_39 : decode cX9_bestTurn 39 = .ok (.iload_n 1, 1) := by decide +kernel
theorem dX9_bestTurn_40 : decode cX9_bestTurn 40 = .ok (.aaload, 1) := by decide +kernel
theorem dX9_bestTurn_41 : decode cX9_bestTurn 41 = .ok (.getstatic 314, 3) := by decide +kernel
theorem dX9_bestTurn_44 : decode cX9_bestTurn 44 = .ok (.iload 4, 2) := by decide +kernel
theorem dX9_bestTurn_46 : decode cX9_bestTurn 46 = .ok (.iaload, 1) := by decide +kernel
theorem dX9_bestTurn_47 : decode cX9_bestTurn 47 = .ok (.putfield 122, 3) := by decide +kernel
theorem dX9_bestTurn_50 : decode cX9_bestTurn 50 = .ok (.aload_n 0, 1) := by decide +kernel
theorem dX9_bestTurn_51 : decode cX9_bestTurn 51 = .ok (.getfield 16, 3) := by decide +kernel
theorem dX9_bestTurn_54 : decode cX9_bestTurn 54 = .ok (.invokevirtual 317, 3) := by decide +kernel
theorem dX9_bestTurn_57 : decode cX9_bestTurn 57 = .ok (.istore 5, 2) := by decide +kernel
theorem dX9_bestTurn_59 : decode cX9_bestTurn 59 = .ok (.iload 5, 2) := by decide +kernel
theorem dX9_bestTurn_61 : decode cX9_bestTurn 61 = .ok (.iload_n 3, 1) := by decide +kernel
theorem dX9_bestTurn_62 : decode cX9_bestTurn 62 = .ok (.if_icmp .le 13, 3) := by decide +kernel
theorem dX9_bestTurn_65 : decode cX9_bestTurn 65 = .ok (.iload 5, 2) := by decide +kernel
theorem dX9_bestTurn_67 : decode cX9_bestTurn 67 = .ok (.istore_n 3, 1) := by decide +kernel
theorem dX9_bestTurn_68 : decode cX9_bestTurn 68 = .ok (.getstatic 314, 3) := by decide +kernel
theorem dX9_bestTurn_71 : decode cX9_bestTurn 71 = .ok (.iload 4, 2) := by decide +kernel
theorem dX9_bestTurn_73 : decode cX9_bestTurn 73 = .ok (.iaload, 1) := by decide +kernel
theorem dX9_bestTurn_74 : decode cX9_bestTurn 74 = .ok (.istore_n 2, 1) := by decide +kernel
theorem dX9_bestTurn_75 : decode cX9_bestTurn 75 = .ok (.iinc 4 1, 3) := by decide +kernel
theorem dX9_bestTurn_78 : decode cX9_bestTurn 78 = .ok (.goto (-66), 3) := by decide +kernel
theorem dX9_bestTurn_81 : decode cX9_bestTurn 81 = .ok (.iload_n 2, 1) := by decide +kernel
theorem dX9_bestTurn_82 : decode cX9_bestTurn 82 = .ok (.ireturn, 1) := by decide +kernel
theorem wgRX9_314 : Cond.fieldLink RX9 314 "WakeBanks" "TURNS" "[I" ∈ zTg := zm_f 562 (by decide +kernel) rfl
theorem wcRX9_317 : Cond.methodLink RX9 317 yX3_passHour ∈ zTg ∧ Cond.instanceMethod yX3_passHour ∈ zTg ∧ Cond.selects RX3 yX3_passHour yX3_passHour ∈ zTg ∧ Cond.initialized RX3 ∈ zTg ∧ Cond.code yX3_passHour cX3_passHour 4 (some .int) ∈ zTg := ⟨zm_f 601 (by decide +kernel) rfl, zm_f 602 (by decide +kernel) rfl, zm_f 603 (by decide +kernel) rfl, zm_f 38 (by decide +kernel) rfl, zm_f 604 (by decide +kernel) rfl⟩
def fWB_bestTurn_l12 (a1 : Int32) (s1 : zM) (q2 : Int32 × Int32 × Int32 × zM) : Option ((Int32 × Int32 × Int32 × zM) ⊕ ((Int32 × zM))) :=
  if (5 : Int32) ≤ q2.2.2.1 then
  some (.inr (q2.1, q2.2.2.2))
else
  Option.bind (fSe_copyFrom q2.2.2.2 s1) fun q4 =>
    zix a1 8 fun j5 =>
    zix q2.2.2.1 5 fun j6 =>
    zlet (zu q4 7 j5 7 (zk4.getD j6 0)) fun s2_7 =>
    Option.bind (fSe_passHour s2_7) fun q8 =>
    Option.bind (if q8.1 ≤ q2.2.1 then
    some (q2.1, q2.2.1)
  else
    zix q2.2.2.1 5 fun j13 =>
      zlet ((zk4.getD j13 0)) fun v14 =>
      some (v14, q8.1)) fun q9 =>
    zlet (q2.2.2.1 + 1) fun v15 =>
    some (.inl (q9.1, q9.2, v15, q8.2))
def fWB_bestTurn (a1 : Int32) (s0 : zM) (s1 : zM) (s2 : zM) (s3 : zM) : Option ((Int32 × zM) ⊕ (String × zM)) :=
  Option.bind (fWB_checkTurbine a1 s0 s1 s2 s3) (Sum.elim (fun (_ : Unit) =>
  Option.bind (ziter (fWB_bestTurn_l12 a1 s1) 1000 ((0 : Int32), (-1 : Int32), (0 : Int32), s2)) fun q3 =>
  some (.inl (q3.1, q3.2))) (fun b => some (.inr (b, s2))))
set_option maxHeartbeats 4000000 in
set_option maxRecDepth 20000 in
theorem bfWB_bestTurn_l12 {X : zX} (F : zFr X cX9_bestTurn 6 RX9 (some .int)) (a1 : Int32) (s1 : zM) (s0 : zM) (s3 : zM)  {ψ : (Int32 × Int32 × Int32 × zM) ⊕ ((Int32 × zM)) → Option zO} (h1 : ∀ q2 : Int32 × Int32 × Int32 × zM, zZ X [(2, [1, 2, 3]), (0, []), (0, []), (1, [])] 7 124 6 12 [some (zr 0 0 0), some (zi a1), some (zi q2.1), some (zi q2.2.1), some (zi q2.2.2.1), none] [] [s0, s1, q2.2.2.2, s3] (ψ (.inl q2))) (h2 : ∀ q3 : Int32 × zM, zZ X [(2, [1, 2, 3]), (0, []), (0, []), (1, [])] 7 124 6 81 [none, none, some (zi q3.1), none, none, none] [] [s0, s1, q3.2, s3] (ψ (.inr q3))) (q2 : Int32 × Int32 × Int32 × zM) : zZ X [(2, [1, 2, 3]), (0, []), (0, []), (1, [])] 7 124 6 12 [some (zr 0 0 0), some (zi a1), some (zi q2.1), some (zi q2.2.1), some (zi q2.2.2.1), none] [] [s0, s1, q2.2.2.2, s3] (Option.bind (fWB_bestTurn_l12 a1 s1 q2) ψ) := by
  unfold fWB_bestTurn_l12
  refine zz_iload F (i := 4) dX9_bestTurn_12 rfl ?_
  refine zz_gets F (j := 4) (q := zst4) dX9_bestTurn_14 rfl wgRX9_314 ?_
  refine zz_tlen F (j := 4) (q := zst4) (v := (5 : Int32)) dX9_bestTurn_17 rfl rfl (by decide) ?_
  refine zz_icmp_ge F (tgt := 81) dX9_bestTurn_18 (by decide) (fun h => zz_t h ?_) (fun h => zz_f h ?_)
  · exact zz_sub (zs_n (zs_n (zs_k (zs_n (zs_n (zs_k zs_z)))))) (h2 (q2.1, q2.2.2.2))
  · refine zz_aload_n F (i := 0) dX9_bestTurn_21 rfl rfl ?_
    refine zz_getr F dX9_bestTurn_22 wfRX9_16 zCl_8 rfl (⟨zlb rfl, zlb rfl, zlb rfl⟩) rfl (by decide) rfl (r' := 2) (by decide) ?_
    refine zz_aload_n F (i := 0) dX9_bestTurn_25 rfl rfl ?_
    refine zz_getr F dX9_bestTurn_26 wfRX9_10 zCl_8 rfl (⟨zlb rfl, zlb rfl, zlb rfl⟩) rfl (by decide) rfl (r' := 1) (by decide) ?_
    refine zz_bind ?_
    refine zz_callVr F (ρ := [2, 1]) (so := fun q4 => []) (Mo := fun q4 => [s0, s1, q4, s3]) (zfSe_copyFrom q2.2.2.2 s1) dX9_bestTurn_29 wcRX9_310 wy_yX3_copyFrom rfl ⟨rel8, rfl, rfl, Nat.le_of_ble_eq_true rfl, Nat.le_of_ble_eq_true rfl, Nat.le_of_ble_eq_true rfl⟩ (⟨zlb rfl, zlb rfl, zlb rfl⟩) rfl rfl rfl (fun _ => rfl) (fun _ => rfl) fun q4 => ?_
    refine zz_aload_n F (i := 0) dX9_bestTurn_32 rfl rfl ?_
    refine zz_getr F dX9_bestTurn_33 wfRX9_16 zCl_8 rfl (⟨zlb rfl, zlb rfl, zlb rfl⟩) rfl (by decide) rfl (r' := 2) (by decide) ?_
    refine zz_getr F dX9_bestTurn_36 wfRX9_118 zCl_3 rfl (⟨zlb rfl, zlb rfl, zlb rfl⟩) rfl (by decide) rfl (r' := 2) (by decide) ?_
    refine zz_iload_n F (i := 1) dX9_bestTurn_39 rfl rfl ?_
    refine zz_ix fun j5 hj5 hinj5 hej5 => zz_aal F dX9_bestTurn_40 rfl (⟨zlb rfl, zlb rfl, zlb rfl⟩) rfl (by decide) rfl hinj5 hej5 rfl ?_
    refine zz_gets F (j := 4) (q := zst4) dX9_bestTurn_41 rfl wgRX9_314 ?_
    refine zz_iload F (i := 4) dX9_bestTurn_44 rfl ?_
    refine zz_ix fun j6 hj6 hinj6 hej6 => zz_tld F (j := 4) (q := zst4) dX9_bestTurn_46 rfl rfl hinj6 hej6 ?_
    refine zz_put F (Ms' := [s0, s1, (zu q4 7 j5 7 (zk4.getD j6 0)), s3]) dX9_bestTurn_47 wpRX9_122 zCl_5 rfl (⟨zlb rfl, zlb rfl, hj5⟩) rfl (by decide) rfl rfl rfl ?_
    refine zz_letm (Mf := fun s2_7 => [s0, s1, s2_7, s3]) fun s2_7 => ?_
    refine zz_aload_n F (i := 0) dX9_bestTurn_50 rfl rfl ?_
    refine zz_getr F dX9_bestTurn_51 wfRX9_16 zCl_8 rfl (⟨zlb rfl, zlb rfl, zlb rfl⟩) rfl (by decide) rfl (r' := 2) (by decide) ?_
    refine zz_bind ?_
    refine zz_callVr F (ρ := [2]) (so := fun q8 => [zi q8.1]) (Mo := fun q8 => [s0, s1, q8.2, s3]) (zfSe_passHour s2_7) dX9_bestTurn_54 wcRX9_317 wy_yX3_passHour rfl ⟨rel9, rfl, rfl, Nat.le_of_ble_eq_true rfl, Nat.le_of_ble_eq_true rfl, Nat.le_of_ble_eq_true rfl⟩ (⟨zlb rfl, zlb rfl, zlb rfl⟩) rfl rfl rfl (fun _ => rfl) (fun _ => rfl) fun q8 => ?_
    refine zz_istore F (i := 5) (L' := [some (zr 0 0 0), some (zi a1), some (zi q2.1), some (zi q2.2.1), some (zi q2.2.2.1), some (zi q8.1)]) dX9_bestTurn_57 (by decide) rfl rfl ?_
    refine zz_iload F (i := 5) dX9_bestTurn_59 rfl ?_
    refine zz_iload_n F (i := 3) dX9_bestTurn_61 rfl rfl ?_
    refine zz_join (pj := 75) (Lj := fun q9 => [some (zr 0 0 0), some (zi a1), some (zi q9.1), some (zi q9.2), some (zi q2.2.2.1), none]) (Sj := fun q9 => []) (Mj := fun q9 => [s0, s1, q8.2, s3]) (fun q9 => ?_) (fun κ11 hj10 => ?_)
    · refine zz_iinc F (i := 4) (v := q2.2.2.1 + 1) (L' := [some (zr 0 0 0), some (zi a1), some (zi q9.1), some (zi q9.2), some (zi (q2.2.2.1 + 1)), none]) dX9_bestTurn_75 rfl (by first | rfl | decide) (by decide) rfl rfl ?_
      refine zz_letl (Lf := fun v15 => [some (zr 0 0 0), some (zi a1), some (zi q9.1), some (zi q9.2), some (zi v15), none]) fun v15 => ?_
      refine zz_goto F (tgt := 12) dX9_bestTurn_78 (by decide) ?_
      exact zz_sub (zs_k (zs_k (zs_k (zs_k (zs_k (zs_k zs_z)))))) (h1 (q9.1, q9.2, v15, q8.2))
    · refine zz_icmp_le F (tgt := 75) dX9_bestTurn_62 (by decide) (fun h => zz_t h ?_) (fun h => zz_f h ?_)
      · exact zz_sub (zs_k (zs_k (zs_k (zs_k (zs_k (zs_n zs_z)))))) (hj10 (q2.1, q2.2.1))
      · refine zz_iload F (i := 5) dX9_bestTurn_65 rfl ?_
        refine zz_istore_n F (i := 3) (L' := [some (zr 0 0 0), some (zi a1), some (zi q2.1), some (zi q8.1), some (zi q2.2.2.1), some (zi q8.1)]) dX9_bestTurn_67 rfl (by decide) rfl rfl ?_
        refine zz_gets F (j := 4) (q := zst4) dX9_bestTurn_68 rfl wgRX9_314 ?_
        refine zz_iload F (i := 4) dX9_bestTurn_71 rfl ?_
        refine zz_ix fun j13 hj13 hinj13 hej13 => zz_tld F (j := 4) (q := zst4) dX9_bestTurn_73 rfl rfl hinj13 hej13 ?_
        refine zz_istore_n F (i := 2) (L' := [some (zr 0 0 0), some (zi a1), some (zi (zk4.getD j13 0)), some (zi q8.1), some (zi q2.2.2.1), some (zi q8.1)]) dX9_bestTurn_74 rfl (by decide) rfl rfl ?_
        refine zz_letl (Lf := fun v14 => [some (zr 0 0 0), some (zi a1), some (zi v14), some (zi q8.1), some (zi q2.2.2.1), some (zi q8.1)]) fun v14 => ?_
        exact zz_sub (zs_k (zs_k (zs_k (zs_k (zs_k (zs_n zs_z)))))) (hj10 (v14, q8.1))
set_option maxHeartbeats 4000000 in
set_option maxRecDepth 20000 in
theorem bfWB_bestTurn {X : zX} (F : zFr X cX9_bestTurn 6 RX9 (some .int)) (a1 : Int32)  (s0 : zM) (s1 : zM) (s2 : zM) (s3 : zM) {κ : (Int32 × zM) ⊕ (String × zM) → Option zO} (hκ : ∀ a, κ a = some ((zts (fun q => some (zi q.1)) (fun q => [s0, s1, q.2, s3]) (fun b => b.1) (fun b => [s0, s1, b.2, s3])) a)) : zZ X [(2, [1, 2, 3]), (0, []), (0, []), (1, [])] 7 124 6 0 [some (zr 0 0 0), some (zi a1), none, none, none, none] [] [s0, s1, s2, s3] (Option.bind (fWB_bestTurn a1 s0 s1 s2 s3) κ) := by
  unfold fWB_bestTurn
  refine zz_aload_n F (i := 0) dX9_bestTurn_0 rfl rfl ?_
  refine zz_iload_n F (i := 1) dX9_bestTurn_1 rfl rfl ?_
  refine zz_bind ?_
  refine zz_callVx F (ρ := [0, 1, 2, 3]) (so := fun _ => []) (Mo := fun _ => [s0, s1, s2, s3]) (Xo := fun _ => [s0, s1, s2, s3]) (zfWB_checkTurbine a1 s0 s1 s2 s3) dX9_bestTurn_2 wcRX9_113 wy_yX9_checkTurbine rfl ⟨rel2, rfl, rfl, Nat.le_of_ble_eq_true rfl, Nat.le_of_ble_eq_true rfl, Nat.le_of_ble_eq_true rfl⟩ (⟨zlb rfl, zlb rfl, zlb rfl⟩) rfl rfl rfl (fun _ => rfl) (fun _ => rfl) (fun _ => rfl) (fun _ => (hκ _)) fun _ => ?_
  dsimp only [Sum.elim_inl]
  refine zz_iconst F (v := (0 : Int32)) dX9_bestTurn_5 (by decide) ?_
  refine zz_istore_n F (i := 2) (L' := [some (zr 0 0 0), some (zi a1), some (zi (0 : Int32)), none, none, none]) dX9_bestTurn_6 rfl (by decide) rfl rfl ?_
  refine zz_iconst F (v := (-1 : Int32)) dX9_bestTurn_7 (by decide) ?_
  refine zz_istore_n F (i := 3) (L' := [some (zr 0 0 0), some (zi a1), some (zi (0 : Int32)), some (zi (-1 : Int32)), none, none]) dX9_bestTurn_8 rfl (by decide) rfl rfl ?_
  refine zz_iconst F (v := (0 : Int32)) dX9_bestTurn_9 (by decide) ?_
  refine zz_istore F (i := 4) (L' := [some (zr 0 0 0), some (zi a1), some (zi (0 : Int32)), some (zi (-1 : Int32)), some (zi (0 : Int32)), none]) dX9_bestTurn_10 (by decide) rfl rfl ?_
  refine zz_sub (zs_k (zs_k (zs_k (zs_k (zs_k (zs_k zs_z)))))) ?_
  refine zz_bind ?_
  refine zz_iter (Lf := fun q2 => [some (zr 0 0 0), some (zi a1), some (zi q2.1), some (zi q2.2.1), some (zi q2.2.2.1), none]) (Mf := fun q2 => [s0, s1, q2.2.2.2, s3]) (fun q2 _ e16 e17 => bfWB_bestTurn_l12 F a1 s1 s0 s3  e16 (fun q3 => ?_)  q2) 1000 ((0 : Int32), (-1 : Int32), (0 : Int32), s2)
  rw [e17]
  refine zz_iload_n F (i := 2) dX9_bestTurn_81 rfl rfl ?_
  exact zz_ireturn F dX9_bestTurn_82 rfl (hκ _)
theorem zfWB_bestTurn (a1 : Int32)  (s0 : zM) (s1 : zM) (s2 : zM) (s3 : zM) : ∀ a, fWB_bestTurn a1 s0 s1 s2 s3 = some a → zMet yX9_bestTurn cX9_bestTurn 6 (some .int) 7 124 [(2, [1, 2, 3]), (0, []), (0, []), (1, [])] [zr 0 0 0, zi a1] [s0, s1, s2, s3] ((zts (fun q => some (zi q.1)) (fun q => [s0, s1, q.2, s3]) (fun b => b.1) (fun b => [s0, s1, b.2, s3])) a) := fun a ha => zMet_of (L0 := [some (zr 0 0 0), some (zi a1), none, none, none, none]) (φ := Option.bind (fWB_bestTurn a1 s0 s1 s2 s3) (fun a => some ((zts (fun q => some (zi q.1)) (fun q => [s0, s1, q.2, s3]) (fun b => b.1) (fun b => [s0, s1, b.2, s3])) a))) (by decide) (fun _ => Nat.le_of_ble_eq_true rfl) (zl0 4 rfl) (fun X F => bfWB_bestTurn F a1 s0 s1 s2 s3 (fun _ => rfl)) (by rw [ha]; rfl)

theorem dX4_takeDeficits_0 : decode cX4_takeDeficits 0 = .ok (.iconst 0, 1) := by decide +kernel
theorem dX4_takeDeficits_1 : decode cX4_takeDeficits 1 = .ok (.istore_n 3, 1) := by decide +kernel
theorem dX4_takeDeficits_2 : decode cX4_takeDeficits 2 = .ok (.iload_n 3, 1) := by decide +kernel
theorem dX4_takeDeficits_3 : decode cX4_takeDeficits 3 = .ok (.aload_n 1, 1) := by decide +kernel
theorem dX4_takeDeficits_4 : decode cX4_takeDeficits 4 = .ok (.getfield 32, 3) := by decide +kernel
theorem dX4_takeDeficits_7 : decode cX4_takeDeficits 7 = .ok (.if_icmp .ge 128, 3) := by decide +kernel
theorem dX4_takeDeficits_10 : decode cX4_takeDeficits 10 = .ok (.iload_n 2, 1) := by decide +kernel
theorem dX4_takeDeficits_11 : decode cX4_takeDeficits 11 = .ok (.bipush 8, 2) := by decide +kernel
theorem dX4_takeDeficits_13 : decode cX4_takeDeficits 13 = .ok (.imul, 1) := by decide +kernel
theorem dX4_takeDeficits_14 : decode cX4_takeDeficits 14 = .ok (.iload_n 3, 1) := by decide +kernel
theorem dX4_takeDeficits_15 : decode cX4_takeDeficits 15 = .ok (.iadd, 1) := by decide +kernel
theorem dX4_takeDeficits_16 : decode cX4_takeDeficits 16 = .ok (.istore 4, 2) := by decide +kernel
theorem dX4_takeDeficits_18 : decode cX4_takeDeficits 18 = .ok (.aload_n 0, 1) := by decide +kernel
theorem dX4_takeDeficits_19 : decode cX4_takeDeficits 19 = .ok (.getfield 9, 3) := by decide +kernel
theorem dX4_takeDeficits_22 : decode cX4_takeDeficits 22 = .ok (.iload 4, 2) := by decide +kernel
theorem dX4_takeDeficits_24 : decode cX4_takeDeficits 24 = .ok (.iconst 0, 1) := by decide +kernel
theorem dX4_takeDeficits_25 : decode cX4_takeDeficits 25 = .ok (.iastore, 1) := by decide +kernel
theorem dX4_takeDeficits_26 : decode cX4_takeDeficits 26 = .ok (.aload_n 0, 1) := by decide +kernel
theorem dX4_takeDeficits_27 : decode cX4_takeDeficits 27 = .ok (.getfield 15, 3) := by decide +kernel
theorem dX4_takeDeficits_30 : decode cX4_takeDeficits 30 = .ok (.iload 4, 2) := by decide +kernel
theorem dX4_takeDeficits_32 : decode cX4_takeDeficits 32 = .ok (.iconst 0, 1) := by decide +kernel
theorem dX4_takeDeficits_33 : decode cX4_takeDeficits 33 = .ok (.iastore, 1) := by decide +kernel
theorem dX4_takeDeficits_34 : decode cX4_takeDeficits 34 = .ok (.iconst 0, 1) := by decide +kernel
theorem dX4_takeDeficits_35 : decode cX4_takeDeficits 35 = .ok (.istore 5, 2) := by decide +kernel
theorem dX4_takeDeficits_37 : decode cX4_takeDeficits 37 = .ok (.iload 5, 2) := by decide +kernel
theorem dX4_takeDeficits_39 : decode cX4_takeDeficits 39 = .ok (.aload_n 1, 1) := by decide +kernel
theorem dX4_takeDeficits_40 : decode cX4_takeDeficits 40 = .ok (.getfield 32, 3) := by decide +kernel
theorem dX4_takeDeficits_43 : decode cX4_takeDeficits 43 = .ok (.if_icmp .ge 86, 3) := by decide +kernel
theorem dX4_takeDeficits_46 : decode cX4_takeDeficits 46 = .ok (.aload_n 1, 1) := by decide +kernel
theorem dX4_takeDeficits_47 : decode cX4_takeDeficits 47 = .ok (.getfield 36, 3) := by decide +kernel
theorem dX4_takeDeficits_50 : decode cX4_takeDeficits 50 = .ok (.iload 5, 2) := by decide +kernel
theorem dX4_takeDeficits_52 : decode cX4_takeDeficits 52 = .ok (.aaload, 1) := by decide +kernel
theorem dX4_takeDeficits_53 : decode cX4_takeDeficits 53 = .ok (.astore 6, 2) := by decide +kernel
theorem dX4_takeDeficits_55 : decode cX4_takeDeficits 55 = .ok (.aload_n 1, 1) := by decide +kernel
theorem dX4_takeDeficits_56 : decode cX4_takeDeficits 56 = .ok (.getfield 36, 3) := by decide +kernel
theorem dX4_takeDeficits_59 : decode cX4_takeDeficits 59 = .ok (.iload_n 3, 1) := by decide +kernel
theorem dX4_takeDeficits_60 : decode cX4_takeDeficits 60 = .ok (.aaload, 1) := by decide +kernel
theorem dX4_takeDeficits_61 : decode cX4_takeDeficits 61 = .ok (.getfield 40, 3) := by decide +kernel
theorem dX4_takeDeficits_64 : decode cX4_takeDeficits 64 = .ok (.aload 6, 2) := by decide +kernel
theorem dX4_takeDeficits_66 : decode cX4_takeDeficits 66 = .ok (.getfield 40, 3) := by decide +kernel
theorem dX4_takeDeficits_69 : decode cX4_takeDeficits 69 = .ok (.isub, 1) := by decide +kernel
theorem dX4_takeDeficits_70 : decode cX4_takeDeficits 70 = .ok (.aload_n 1, 1) := by decide +kernel
theorem dX4_takeDeficits_71 : decode cX4_takeDeficits 71 = .ok (.getfield 36, 3) := by decide +kernel
theorem dX4_takeDeficits_74 : decode cX4_takeDeficits 74 = .ok (.iload_n 3, 1) := by decide +kernel
theorem dX4_takeDeficits_75 : decode cX4_takeDeficits 75 = .ok (.aaload, 1) := by decide +kernel
theorem dX4_takeDeficits_76 : decode cX4_takeDeficits 76 = .ok (.getfield 45, 3) := by decide +kernel
theorem dX4_takeDeficits_79 : decode cX4_takeDeficits 79 = .ok (.aload 6, 2) := by decide +kernel
theorem dX4_takeDeficits_81 : decode cX4_takeDeficits 81 = .ok (.getfield 45, 3) := by decide +kernel
theorem dX4_takeDeficits_84 : decode cX4_takeDeficits 84 = .ok (.isub, 1) := by decide +kernel
theorem dX4_takeDeficits_85 : decode cX4_takeDeficits 85 = .ok (.iconst 0, 1) := by decide +kernel
theorem dX4_takeDeficits_86 : decode cX4_takeDeficits 86 = .ok (.iload_n 2, 1) := by decide +kernel
theorem dX4_takeDeficits_87 : decode cX4_takeDeficits 87 = .ok (.invokestatic 48, 3) := by decide +kernel
theorem dX4_takeDeficits_90 : decode cX4_takeDeficits 90 = .ok (.istore 7, 2) := by decide +kernel
theorem dX4_takeDeficits_92 : decode cX4_takeDeficits 92 = .ok (.aload_n 0, 1) := by decide +kernel
theorem dX4_takeDeficits_93 : decode cX4_takeDeficits 93 = .ok (.getfield 9, 3) := by decide +kernel
theorem dX4_takeDeficits_96 : decode cX4_takeDeficits 96 = .ok (.iload 4, 2) := by decide +kernel
theorem dX4_takeDeficits_98 : decode cX4_takeDeficits 98 = .ok (.aload_n 0, 1) := by decide +kernel
theorem dX4_takeDeficits_99 : decode cX4_takeDeficits 99 = .ok (.getfield 9, 3) := by decide +kernel
theorem dX4_takeDeficits_102 : decode cX4_takeDeficits 102 = .ok (.iload 4, 2) := by decide +kernel
theorem dX4_takeDeficits_104 : decode cX4_takeDeficits 104 = .ok (.iaload, 1) := by decide +kernel
theorem dX4_takeDeficits_105 : decode cX4_takeDeficits 105 = .ok (.iload 7, 2) := by decide +kernel
theorem dX4_takeDeficits_107 : decode cX4_takeDeficits 107 = .ok (.invokestatic 54, 3) := by decide +kernel
theorem dX4_takeDeficits_110 : decode cX4_takeDeficits 110 = .ok (.iastore, 1) := by decide +kernel
theorem dX4_takeDeficits_111 : decode cX4_takeDeficits 111 = .ok (.aload_n 0, 1) := by decide +kernel
theorem dX4_takeDeficits_112 : decode cX4_takeDeficits 112 = .ok (.getfield 15, 3) := by decide +kernel
theorem dX4_takeDeficits_115 : decode cX4_takeDeficits 115 = .ok (.iload 4, 2) := by decide +kernel
theorem dX4_takeDeficits_117 : decode cX4_takeDeficits 117 = .ok (.dup2, 1) := by decide +kernel
theorem dX4_takeDeficits_118 : decode cX4_takeDeficits 118 = .ok (.iaload, 1) := by decide +kernel
theorem dX4_takeDeficits_119 : decode cX4_takeDeficits 119 = .ok (.iload 7, 2) := by decide +kernel
theorem dX4_takeDeficits_121 : decode cX4_takeDeficits 121 = .ok (.iadd, 1) := by decide +kernel
theorem dX4_takeDeficits_122 : decode cX4_takeDeficits 122 = .ok (.iastore, 1) := by decide +kernel
theorem dX4_takeDeficits_123 : decode cX4_takeDeficits 123 = .ok (.iinc 5 1, 3) := by decide +kernel
theorem dX4_takeDeficits_126 : decode cX4_takeDeficits 126 = .ok (.goto (-89), 3) := by decide +kernel
theorem dX4_takeDeficits_129 : decode cX4_takeDeficits 129 = .ok (.iinc 3 1, 3) := by decide +kernel
theorem dX4_takeDeficits_132 : decode cX4_takeDeficits 132 = .ok (.goto (-130), 3) := by decide +kernel
theorem dX4_takeDeficits_135 : decode cX4_takeDeficits 135 = .ok (.return_, 1) := by decide +kernel
theorem wfRX4_32 : zFl RX4 32 3 5 := ⟨_, rfl, by decide, zm_f 290 (by decide +kernel) rfl⟩
theorem wfRX4_9 : zFl RX4 9 4 0 := ⟨_, rfl, by decide, zm_f 332 (by decide +kernel) rfl⟩
theorem wfRX4_15 : zFl RX4 15 4 1 := ⟨_, rfl, by decide, zm_f 333 (by decide +kernel) rfl⟩
theorem wfRX4_36 : zFl RX4 36 3 0 := ⟨_, rfl, by decide, zm_f 280 (by decide +kernel) rfl⟩
theorem wfRX4_40 : zFl RX4 40 5 0 := ⟨_, rfl, by decide, zm_f 164 (by decide +kernel) rfl⟩
theorem wfRX4_45 : zFl RX4 45 5 1 := ⟨_, rfl, by decide, zm_f 167 (by decide +kernel) rfl⟩
theorem wcRX4_48 : Cond.methodLink RX4 48 yX7_deficit ∈ zTg ∧ Cond.static yX7_deficit ∈ zTg ∧ Cond.initialized yX7_deficit.cls ∈ zTg ∧ Cond.code yX7_deficit cX7_deficit 9 (some .int) ∈ zTg := ⟨zm_f 365 (by decide +kernel) rfl, zm_f 366 (by decide +kernel) rfl, zm_f 55 (by decide +kernel) rfl, zm_f 367 (by decide +kernel) rfl⟩
theorem rel10 : zRel [] [(1, []), (0, [])] [] := by unfold zRel; decide
theorem wmRX4_54 : Cond.methodLink RX4 54 Lib.Math.max.name ∈ zTg := zm_f 372 (by decide +kernel) rfl
def fSi_takeDeficits_l37 (a2 : Int32) (s1 : zM) (q1 : (Int32 × zM)) (v3 : Int32) (q8 : Int32 × zM) : Option ((Int32 × zM) ⊕ ((zM))) :=
  if (s1 0 0 5) ≤ q8.1 then
  some (.inr q8.2)
else
  zix q8.1 8 fun j10 =>
    zix q1.1 8 fun j11 =>
    zix q1.1 8 fun j12 =>
    Option.bind (fWa_deficit ((s1 7 j11 0) - (s1 7 j10 0)) ((s1 7 j12 1) - (s1 7 j10 1)) (0 : Int32) a2) fun q13 =>
    zix v3 64 fun j14 =>
    zix v3 64 fun j15 =>
    zlet (zu q8.2 1 0 j15 (zmax (q8.2 1 0 j14) q13)) fun s0_16 =>
    zix v3 64 fun j17 =>
    zix v3 64 fun j18 =>
    zlet (zu s0_16 2 0 j18 ((s0_16 2 0 j17) + q13)) fun s0_19 =>
    zlet (q8.1 + 1) fun v20 =>
    some (.inl (v20, s0_19))
def fSi_takeDeficits_l2 (a2 : Int32) (s1 : zM) (q1 : Int32 × zM) : Option ((Int32 × zM) ⊕ ((zM))) :=
  if (s1 0 0 5) ≤ q1.1 then
  some (.inr q1.2)
else
  zlet (((a2 * (8 : Int32)) + q1.1)) fun v3 =>
    zix v3 64 fun j4 =>
    zlet (zu q1.2 1 0 j4 (0 : Int32)) fun s0_5 =>
    zix v3 64 fun j6 =>
    zlet (zu s0_5 2 0 j6 (0 : Int32)) fun s0_7 =>
    Option.bind (ziter (fSi_takeDeficits_l37 a2 s1 q1 v3) 1000 ((0 : Int32), s0_7)) fun q9 =>
    zlet (q1.1 + 1) fun v21 =>
    some (.inl (v21, q9))
def fSi_takeDeficits (a2 : Int32) (s0 : zM) (s1 : zM) : Option (zM) :=
  Option.bind (ziter (fSi_takeDeficits_l2 a2 s1) 1000 ((0 : Int32), s0)) fun q2 =>
  some q2
set_option maxHeartbeats 4000000 in
set_option maxRecDepth 20000 in
theorem bfSi_takeDeficits_l37 {X : zX} (F : zFr X cX4_takeDeficits 8 RX4 none) (a2 : Int32) (s1 : zM) (q1 : (Int32 × zM)) (v3 : Int32)  {ψ : (Int32 × zM) ⊕ ((zM)) → Option zO} (h1 : ∀ q8 : Int32 × zM, zZ X [(1, []), (0, [])] 1 28 8 37 [some (zr 0 0 0), some (zr 1 0 0), some (zi a2), some (zi q1.1), some (zi v3), some (zi q8.1), none, none] [] [q8.2, s1] (ψ (.inl q8))) (h2 : ∀ q9 : zM, zZ X [(1, []), (0, [])] 1 28 8 129 [some (zr 0 0 0), some (zr 1 0 0), some (zi a2), some (zi q1.1), none, none, none, none] [] [q9, s1] (ψ (.inr q9))) (q8 : Int32 × zM) : zZ X [(1, []), (0, [])] 1 28 8 37 [some (zr 0 0 0), some (zr 1 0 0), some (zi a2), some (zi q1.1), some (zi v3), some (zi q8.1), none, none] [] [q8.2, s1] (Option.bind (fSi_takeDeficits_l37 a2 s1 q1 v3 q8) ψ) := by
  unfold fSi_takeDeficits_l37
  refine zz_iload F (i := 5) dX4_takeDeficits_37 rfl ?_
  refine zz_aload_n F (i := 1) dX4_takeDeficits_39 rfl rfl ?_
  refine zz_getf F dX4_takeDeficits_40 wfRX4_32 zCl_3 rfl (⟨zlb rfl, zlb rfl, zlb rfl⟩) rfl (by decide) rfl rfl ?_
  refine zz_icmp_ge F (tgt := 129) dX4_takeDeficits_43 (by decide) (fun h => zz_t h ?_) (fun h => zz_f h ?_)
  · exact zz_sub (zs_k (zs_k (zs_k (zs_k (zs_n (zs_n (zs_k (zs_k zs_z)))))))) (h2 q8.2)
  · refine zz_aload_n F (i := 1) dX4_takeDeficits_46 rfl rfl ?_
    refine zz_getr F dX4_takeDeficits_47 wfRX4_36 zCl_3 rfl (⟨zlb rfl, zlb rfl, zlb rfl⟩) rfl (by decide) rfl (r' := 1) (by decide) ?_
    refine zz_iload F (i := 5) dX4_takeDeficits_50 rfl ?_
    refine zz_ix fun j10 hj10 hinj10 hej10 => zz_aal F dX4_takeDeficits_52 rfl (⟨zlb rfl, zlb rfl, zlb rfl⟩) rfl (by decide) rfl hinj10 hej10 rfl ?_
    refine zz_astore F (i := 6) (L' := [some (zr 0 0 0), some (zr 1 0 0), some (zi a2), some (zi q1.1), some (zi v3), some (zi q8.1), some (zr 1 7 j10), none]) dX4_takeDeficits_53 (by decide) rfl rfl ?_
    refine zz_aload_n F (i := 1) dX4_takeDeficits_55 rfl rfl ?_
    refine zz_getr F dX4_takeDeficits_56 wfRX4_36 zCl_3 rfl (⟨zlb rfl, zlb rfl, zlb rfl⟩) rfl (by decide) rfl (r' := 1) (by decide) ?_
    refine zz_iload_n F (i := 3) dX4_takeDeficits_59 rfl rfl ?_
    refine zz_ix fun j11 hj11 hinj11 hej11 => zz_aal F dX4_takeDeficits_60 rfl (⟨zlb rfl, zlb rfl, zlb rfl⟩) rfl (by decide) rfl hinj11 hej11 rfl ?_
    refine zz_getf F dX4_takeDeficits_61 wfRX4_40 zCl_5 rfl (⟨zlb rfl, zlb rfl, hj11⟩) rfl (by decide) rfl rfl ?_
    refine zz_aload F (i := 6) dX4_takeDeficits_64 rfl ?_
    refine zz_getf F dX4_takeDeficits_66 wfRX4_40 zCl_5 rfl (⟨zlb rfl, zlb rfl, hj10⟩) rfl (by decide) rfl rfl ?_
    refine zz_isub F dX4_takeDeficits_69 ?_
    refine zz_aload_n F (i := 1) dX4_takeDeficits_70 rfl rfl ?_
    refine zz_getr F dX4_takeDeficits_71 wfRX4_36 zCl_3 rfl (⟨zlb rfl, zlb rfl, zlb rfl⟩) rfl (by decide) rfl (r' := 1) (by decide) ?_
    refine zz_iload_n F (i := 3) dX4_takeDeficits_74 rfl rfl ?_
    refine zz_ix fun j12 hj12 hinj12 hej12 => zz_aal F dX4_takeDeficits_75 rfl (⟨zlb rfl, zlb rfl, zlb rfl⟩) rfl (by decide) rfl hinj12 hej12 rfl ?_
    refine zz_getf F dX4_takeDeficits_76 wfRX4_45 zCl_5 rfl (⟨zlb rfl, zlb rfl, hj12⟩) rfl (by decide) rfl rfl ?_
    refine zz_aload F (i := 6) dX4_takeDeficits_79 rfl ?_
    refine zz_getf F dX4_takeDeficits_81 wfRX4_45 zCl_5 rfl (⟨zlb rfl, zlb rfl, hj10⟩) rfl (by decide) rfl rfl ?_
    refine zz_isub F dX4_takeDeficits_84 ?_
    refine zz_iconst F (v := (0 : Int32)) dX4_takeDeficits_85 (by decide) ?_
    refine zz_iload_n F (i := 2) dX4_takeDeficits_86 rfl rfl ?_
    refine zz_bind ?_
    refine zz_callSr F (ρ := []) (so := fun q13 => [zi q13]) (Mo := fun q13 => [q8.2, s1]) (zfWa_deficit ((s1 7 j11 0) - (s1 7 j10 0)) ((s1 7 j12 1) - (s1 7 j10 1)) (0 : Int32) a2) dX4_takeDeficits_87 wcRX4_48 wy_yX7_deficit rfl ⟨rel10, rfl, rfl, Nat.le_of_ble_eq_true rfl, Nat.le_of_ble_eq_true rfl, Nat.le_of_ble_eq_true rfl⟩ rfl (fun _ => rfl) (fun _ => rfl) fun q13 => ?_
    refine zz_istore F (i := 7) (L' := [some (zr 0 0 0), some (zr 1 0 0), some (zi a2), some (zi q1.1), some (zi v3), some (zi q8.1), some (zr 1 7 j10), some (zi q13)]) dX4_takeDeficits_90 (by decide) rfl rfl ?_
    refine zz_aload_n F (i := 0) dX4_takeDeficits_92 rfl rfl ?_
    refine zz_getr F dX4_takeDeficits_93 wfRX4_9 zCl_4 rfl (⟨zlb rfl, zlb rfl, zlb rfl⟩) rfl (by decide) rfl (r' := 0) (by decide) ?_
    refine zz_iload F (i := 4) dX4_takeDeficits_96 rfl ?_
    refine zz_aload_n F (i := 0) dX4_takeDeficits_98 rfl rfl ?_
    refine zz_getr F dX4_takeDeficits_99 wfRX4_9 zCl_4 rfl (⟨zlb rfl, zlb rfl, zlb rfl⟩) rfl (by decide) rfl (r' := 0) (by decide) ?_
    refine zz_iload F (i := 4) dX4_takeDeficits_102 rfl ?_
    refine zz_ix fun j14 hj14 hinj14 hej14 => zz_ial F dX4_takeDeficits_104 rfl (⟨zlb rfl, zlb rfl, zlb rfl⟩) rfl hinj14 hej14 ?_
    refine zz_iload F (i := 7) dX4_takeDeficits_105 rfl ?_
    refine zz_max F dX4_takeDeficits_107 wmRX4_54 wMath_max (Nat.le_of_ble_eq_true rfl) (Nat.le_of_ble_eq_true rfl) ?_
    refine zz_ix fun j15 hj15 hinj15 hej15 => zz_ias F (Ms' := [(zu q8.2 1 0 j15 (zmax (q8.2 1 0 j14) q13)), s1]) dX4_takeDeficits_110 rfl (⟨zlb rfl, zlb rfl, zlb rfl⟩) rfl hinj15 hej15 rfl ?_
    refine zz_letm (Mf := fun s0_16 => [s0_16, s1]) fun s0_16 => ?_
    refine zz_aload_n F (i := 0) dX4_takeDeficits_111 rfl rfl ?_
    refine zz_getr F dX4_takeDeficits_112 wfRX4_15 zCl_4 rfl (⟨zlb rfl, zlb rfl, zlb rfl⟩) rfl (by decide) rfl (r' := 0) (by decide) ?_
    refine zz_iload F (i := 4) dX4_takeDeficits_115 rfl ?_
    refine zz_dup2 F dX4_takeDeficits_117 rfl rfl ?_
    refine zz_ix fun j17 hj17 hinj17 hej17 => zz_ial F dX4_takeDeficits_118 rfl (⟨zlb rfl, zlb rfl, zlb rfl⟩) rfl hinj17 hej17 ?_
    refine zz_iload F (i := 7) dX4_takeDeficits_119 rfl ?_
    refine zz_iadd F dX4_takeDeficits_121 ?_
    refine zz_ix fun j18 hj18 hinj18 hej18 => zz_ias F (Ms' := [(zu s0_16 2 0 j18 ((s0_16 2 0 j17) + q13)), s1]) dX4_takeDeficits_122 rfl (⟨zlb rfl, zlb rfl, zlb rfl⟩) rfl hinj18 hej18 rfl ?_
    refine zz_letm (Mf := fun s0_19 => [s0_19, s1]) fun s0_19 => ?_
    refine zz_iinc F (i := 5) (v := q8.1 + 1) (L' := [some (zr 0 0 0), some (zr 1 0 0), some (zi a2), some (zi q1.1), some (zi v3), some (zi (q8.1 + 1)), some (zr 1 7 j10), some (zi q13)]) dX4_takeDeficits_123 rfl (by first | rfl | decide) (by decide) rfl rfl ?_
    refine zz_letl (Lf := fun v20 => [some (zr 0 0 0), some (zr 1 0 0), some (zi a2), some (zi q1.1), some (zi v3), some (zi v20), some (zr 1 7 j10), some (zi q13)]) fun v20 => ?_
    refine zz_goto F (tgt := 37) dX4_takeDeficits_126 (by decide) ?_
    exact zz_sub (zs_k (zs_k (zs_k (zs_k (zs_k (zs_k (zs_n (zs_n zs_z)))))))) (h1 (v20, s0_19))
set_option maxHeartbeats 4000000 in
set_option maxRecDepth 20000 in
theorem bfSi_takeDeficits_l2 {X : zX} (F : zFr X cX4_takeDeficits 8 RX4 none) (a2 : Int32) (s1 : zM)  {ψ : (Int32 × zM) ⊕ ((zM)) → Option zO} (h1 : ∀ q1 : Int32 × zM, zZ X [(1, []), (0, [])] 1 28 8 2 [some (zr 0 0 0), some (zr 1 0 0), some (zi a2), some (zi q1.1), none, none, none, none] [] [q1.2, s1] (ψ (.inl q1))) (h2 : ∀ q2 : zM, zZ X [(1, []), (0, [])] 1 28 8 135 [none, none, none, none, none, none, none, none] [] [q2, s1] (ψ (.inr q2))) (q1 : Int32 × zM) : zZ X [(1, []), (0, [])] 1 28 8 2 [some (zr 0 0 0), some (zr 1 0 0), some (zi a2), some (zi q1.1), none, none, none, none] [] [q1.2, s1] (Option.bind (fSi_takeDeficits_l2 a2 s1 q1) ψ) := by
  unfold fSi_takeDeficits_l2
  refine zz_iload_n F (i := 3) dX4_takeDeficits_2 rfl rfl ?_
  refine zz_aload_n F (i := 1) dX4_takeDeficits_3 rfl rfl ?_
  refine zz_getf F dX4_takeDeficits_4 wfRX4_32 zCl_3 rfl (⟨zlb rfl, zlb rfl, zlb rfl⟩) rfl (by decide) rfl rfl ?_
  refine zz_icmp_ge F (tgt := 135) dX4_takeDeficits_7 (by decide) (fun h => zz_t h ?_) (fun h => zz_f h ?_)
  · exact zz_sub (zs_n (zs_n (zs_n (zs_n (zs_k (zs_k (zs_k (zs_k zs_z)))))))) (h2 q1.2)
  · refine zz_iload_n F (i := 2) dX4_takeDeficits_10 rfl rfl ?_
    refine zz_bipush F (v := (8 : Int32)) dX4_takeDeficits_11 (by decide) ?_
    refine zz_imul F dX4_takeDeficits_13 ?_
    refine zz_iload_n F (i := 3) dX4_takeDeficits_14 rfl rfl ?_
    refine zz_iadd F dX4_takeDeficits_15 ?_
    refine zz_istore F (i := 4) (L' := [some (zr 0 0 0), some (zr 1 0 0), some (zi a2), some (zi q1.1), some (zi ((a2 * (8 : Int32)) + q1.1)), none, none, none]) dX4_takeDeficits_16 (by decide) rfl rfl ?_
    refine zz_letl (Lf := fun v3 => [some (zr 0 0 0), some (zr 1 0 0), some (zi a2), some (zi q1.1), some (zi v3), none, none, none]) fun v3 => ?_
    refine zz_aload_n F (i := 0) dX4_takeDeficits_18 rfl rfl ?_
    refine zz_getr F dX4_takeDeficits_19 wfRX4_9 zCl_4 rfl (⟨zlb rfl, zlb rfl, zlb rfl⟩) rfl (by decide) rfl (r' := 0) (by decide) ?_
    refine zz_iload F (i := 4) dX4_takeDeficits_22 rfl ?_
    refine zz_iconst F (v := (0 : Int32)) dX4_takeDeficits_24 (by decide) ?_
    refine zz_ix fun j4 hj4 hinj4 hej4 => zz_ias F (Ms' := [(zu q1.2 1 0 j4 (0 : Int32)), s1]) dX4_takeDeficits_25 rfl (⟨zlb rfl, zlb rfl, zlb rfl⟩) rfl hinj4 hej4 rfl ?_
    refine zz_letm (Mf := fun s0_5 => [s0_5, s1]) fun s0_5 => ?_
    refine zz_aload_n F (i := 0) dX4_takeDeficits_26 rfl rfl ?_
    refine zz_getr F dX4_takeDeficits_27 wfRX4_15 zCl_4 rfl (⟨zlb rfl, zlb rfl, zlb rfl⟩) rfl (by decide) rfl (r' := 0) (by decide) ?_
    refine zz_iload F (i := 4) dX4_takeDeficits_30 rfl ?_
    refine zz_iconst F (v := (0 : Int32)) dX4_takeDeficits_32 (by decide) ?_
    refine zz_ix fun j6 hj6 hinj6 hej6 => zz_ias F (Ms' := [(zu s0_5 2 0 j6 (0 : Int32)), s1]) dX4_takeDeficits_33 rfl (⟨zlb rfl, zlb rfl, zlb rfl⟩) rfl hinj6 hej6 rfl ?_
    refine zz_letm (Mf := fun s0_7 => [s0_7, s1]) fun s0_7 => ?_
    refine zz_iconst F (v := (0 : Int32)) dX4_takeDeficits_34 (by decide) ?_
    refine zz_istore F (i := 5) (L' := [some (zr 0 0 0), some (zr 1 0 0), some (zi a2), some (zi q1.1), some (zi v3), some (zi (0 : Int32)), none, none]) dX4_takeDeficits_35 (by decide) rfl rfl ?_
    refine zz_sub (zs_k (zs_k (zs_k (zs_k (zs_k (zs_k (zs_k (zs_k zs_z)))))))) ?_
    refine zz_bind ?_
    refine zz_iter (Lf := fun q8 => [some (zr 0 0 0), some (zr 1 0 0), some (zi a2), some (zi q1.1), some (zi v3), some (zi q8.1), none, none]) (Mf := fun q8 => [q8.2, s1]) (fun q8 _ e22 e23 => bfSi_takeDeficits_l37 F a2 s1 q1 v3  e22 (fun q9 => ?_)  q8) 1000 ((0 : Int32), s0_7)
    rw [e23]
    refine zz_iinc F (i := 3) (v := q1.1 + 1) (L' := [some (zr 0 0 0), some (zr 1 0 0), some (zi a2), some (zi (q1.1 + 1)), none, none, none, none]) dX4_takeDeficits_129 rfl (by first | rfl | decide) (by decide) rfl rfl ?_
    refine zz_letl (Lf := fun v21 => [some (zr 0 0 0), some (zr 1 0 0), some (zi a2), some (zi v21), none, none, none, none]) fun v21 => ?_
    refine zz_goto F (tgt := 2) dX4_takeDeficits_132 (by decide) ?_
    exact zz_sub (zs_k (zs_k (zs_k (zs_k (zs_k (zs_k (zs_k (zs_k zs_z)))))))) (h1 (v21, q9))
set_option maxHeartbeats 4000000 in
set_option maxRecDepth 20000 in
theorem bfSi_takeDeficits {X : zX} (F : zFr X cX4_takeDeficits 8 RX4 none) (a2 : Int32)  (s0 : zM) (s1 : zM) {κ : zM → Option zO} (hκ : ∀ a, κ a = some ((fun a => ((.inl ((fun _ => (none : Option zV)) a), (fun q => [q, s1]) a) : zO)) a)) : zZ X [(1, []), (0, [])] 1 28 8 0 [some (zr 0 0 0), some (zr 1 0 0), some (zi a2), none, none, none, none, none] [] [s0, s1] (Option.bind (fSi_takeDeficits a2 s0 s1) κ) := by
  unfold fSi_takeDeficits
  refine zz_iconst F (v := (0 : Int32)) dX4_takeDeficits_0 (by decide) ?_
  refine zz_istore_n F (i := 3) (L' := [some (zr 0 0 0), some (zr 1 0 0), some (zi a2), some (zi (0 : Int32)), none, none, none, none]) dX4_takeDeficits_1 rfl (by decide) rfl rfl ?_
  refine zz_sub (zs_k (zs_k (zs_k (zs_k (zs_k (zs_k (zs_k (zs_k zs_z)))))))) ?_
  refine zz_bind ?_
  refine zz_iter (Lf := fun q1 => [some (zr 0 0 0), some (zr 1 0 0), some (zi a2), some (zi q1.1), none, none, none, none]) (Mf := fun q1 => [q1.2, s1]) (fun q1 _ e24 e25 => bfSi_takeDeficits_l2 F a2 s1  e24 (fun q2 => ?_)  q1) 1000 ((0 : Int32), s0)
  rw [e25]
  exact zz_return F dX4_takeDeficits_135 rfl (hκ _)
theorem zfSi_takeDeficits (a2 : Int32)  (s0 : zM) (s1 : zM) : ∀ a, fSi_takeDeficits a2 s0 s1 = some a → zMet yX4_takeDeficits cX4_takeDeficits 8 none 1 28 [(1, []), (0, [])] [zr 0 0 0, zr 1 0 0, zi a2] [s0, s1] ((fun a => ((.inl ((fun _ => (none : Option zV)) a), (fun q => [q, s1]) a) : zO)) a) := fun a ha => zMet_of (L0 := [some (zr 0 0 0), some (zr 1 0 0), some (zi a2), none, none, none, none, none]) (φ := Option.bind (fSi_takeDeficits a2 s0 s1) (fun a => some ((fun a => ((.inl ((fun _ => (none : Option zV)) a), (fun q => [q, s1]) a) : zO)) a))) (by decide) (fun _ => Nat.le_of_ble_eq_true rfl) (zl0 5 rfl) (fun X F => bfSi_takeDeficits F a2 s0 s1 (fun _ => rfl)) (by rw [ha]; rfl)
