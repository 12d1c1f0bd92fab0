theorem dX11_vessel_0 : decode cX11_vessel 0 = .ok (.aload_n 0, 1) := by decide +kernel
theorem dX11_vessel_1 : decode cX11_vessel 1 = .ok (.iconst 0, 1) := by decide +kernel
theorem dX11_vessel_2 : decode cX11_vessel 2 = .ok (.putfield 16, 3) := by decide +kernel
theorem dX11_vessel_5 : decode cX11_vessel 5 = .ok (.iload_n 1, 1) := by decide +kernel
theorem dX11_vessel_6 : decode cX11_vessel 6 = .ok (.iconst 5, 1) := by decide +kernel
theorem dX11_vessel_7 : decode cX11_vessel 7 = .ok (.bipush 40, 2) := by decide +kernel
theorem dX11_vessel_9 : decode cX11_vessel 9 = .ok (.invokestatic 20, 3) := by decide +kernel
theorem dX11_vessel_12 : decode cX11_vessel 12 = .ok (.ifCond .ne 9, 3) := by decide +kernel
theorem dX11_vessel_15 : decode cX11_vessel 15 = .ok (.aload_n 0, 1) := by decide +kernel
theorem dX11_vessel_16 : decode cX11_vessel 16 = .ok (.iconst 1, 1) := by decide +kernel
theorem dX11_vessel_17 : decode cX11_vessel 17 = .ok (.invokevirtual 40, 3) := by decide +kernel
theorem dX11_vessel_20 : decode cX11_vessel 20 = .ok (.ireturn, 1) := by decide +kernel
theorem dX11_vessel_21 : decode cX11_vessel 21 = .ok (.aload_n 0, 1) := by decide +kernel
theorem dX11_vessel_22 : decode cX11_vessel 22 = .ok (.getfield 10, 3) := by decide +kernel
theorem dX11_vessel_25 : decode cX11_vessel 25 = .ok (.getfield 33, 3) := by decide +kernel
theorem dX11_vessel_28 : decode cX11_vessel 28 = .ok (.iconst 3, 1) := by decide +kernel
theorem dX11_vessel_29 : decode cX11_vessel 29 = .ok (.if_icmp .ne 9, 3) := by decide +kernel
theorem dX11_vessel_32 : decode cX11_vessel 32 = .ok (.aload_n 0, 1) := by decide +kernel
theorem dX11_vessel_33 : decode cX11_vessel 33 = .ok (.iconst 2, 1) := by decide +kernel
theorem dX11_vessel_34 : decode cX11_vessel 34 = .ok (.invokevirtual 40, 3) := by decide +kernel
theorem dX11_vessel_37 : decode cX11_vessel 37 = .ok (.ireturn, 1) := by decide +kernel
theorem dX11_vessel_38 : decode cX11_vessel 38 = .ok (.bipush 6, 2) := by decide +kernel
theorem dX11_vessel_40 : decode cX11_vessel 40 = .ok (.newarray .int, 2) := by decide +kernel
theorem dX11_vessel_42 : decode cX11_vessel 42 = .ok (.dup, 1) := by decide +kernel
theorem dX11_vessel_43 : decode cX11_vessel 43 = .ok (.iconst 0, 1) := by decide +kernel
theorem dX11_vessel_44 : decode cX11_vessel 44 = .ok (.iload_n 1, 1) := by decide +kernel
theorem dX11_vessel_45 : decode cX11_vessel 45 = .ok (.iastore, 1) := by decide +kernel
theorem dX11_vessel_46 : decode cX11_vessel 46 = .ok (.dup, 1) := by decide +kernel
theorem dX11_vessel_47 : decode cX11_vessel 47 = .ok (.iconst 1, 1) := by decide +kernel
theorem dX11_vessel_48 : decode cX11_vessel 48 = .ok (.iconst (-1), 1) := by decide +kernel
theorem dX11_vessel_49 : decode cX11_vessel 49 = .ok (.iastore, 1) := by decide +kernel
theorem dX11_vessel_50 : decode cX11_vessel 50 = .ok (.dup, 1) := by decide +kernel
theorem dX11_vessel_51 : decode cX11_vessel 51 = .ok (.iconst 2, 1) := by decide +kernel
theorem dX11_vessel_52 : decode cX11_vessel 52 = .ok (.iconst 0, 1) := by decide +kernel
theorem dX11_vessel_53 : decode cX11_vessel 53 = .ok (.iastore, 1) := by decide +kernel
theorem dX11_vessel_54 : decode cX11_vessel 54 = .ok (.dup, 1) := by decide +kernel
theorem dX11_vessel_55 : decode cX11_vessel 55 = .ok (.iconst 3, 1) := by decide +kernel
theorem dX11_vessel_56 : decode cX11_vessel 56 = .ok (.iconst (-1), 1) := by decide +kernel
theorem dX11_vessel_57 : decode cX11_vessel 57 = .ok (.iastore, 1) := by decide +kernel
theorem dX11_vessel_58 : decode cX11_vessel 58 = .ok (.dup, 1) := by decide +kernel
theorem dX11_vessel_59 : decode cX11_vessel 59 = .ok (.iconst 4, 1) := by decide +kernel
theorem dX11_vessel_60 : decode cX11_vessel 60 = .ok (.iconst 0, 1) := by decide +kernel
theorem dX11_vessel_61 : decode cX11_vessel 61 = .ok (.iastore, 1) := by decide +kernel
theorem dX11_vessel_62 : decode cX11_vessel 62 = .ok (.dup, 1) := by decide +kernel
theorem dX11_vessel_63 : decode cX11_vessel 63 = .ok (.iconst 5, 1) := by decide +kernel
theorem dX11_vessel_64 : decode cX11_vessel 64 = .ok (.iconst 0, 1) := by decide +kernel
theorem dX11_vessel_65 : decode cX11_vessel 65 = .ok (.iastore, 1) := by decide +kernel
theorem dX11_vessel_66 : decode cX11_vessel 66 = .ok (.astore_n 2, 1) := by decide +kernel
theorem dX11_vessel_67 : decode cX11_vessel 67 = .ok (.aload_n 2, 1) := by decide +kernel
theorem dX11_vessel_68 : decode cX11_vessel 68 = .ok (.iconst 0, 1) := by decide +kernel
theorem dX11_vessel_69 : decode cX11_vessel 69 = .ok (.aload_n 0, 1) := by decide +kernel
theorem dX11_vessel_70 : decode cX11_vessel 70 = .ok (.getfield 10, 3) := by decide +kernel
theorem dX11_vessel_73 : decode cX11_vessel 73 = .ok (.getfield 54, 3) := by decide +kernel
theorem dX11_vessel_76 : decode cX11_vessel 76 = .ok (.aload_n 0, 1) := by decide +kernel
theorem dX11_vessel_77 : decode cX11_vessel 77 = .ok (.getfield 10, 3) := by decide +kernel
theorem dX11_vessel_80 : decode cX11_vessel 80 = .ok (.getfield 33, 3) := by decide +kernel
theorem dX11_vessel_83 : decode cX11_vessel 83 = .ok (.aaload, 1) := by decide +kernel
theorem dX11_vessel_84 : decode cX11_vessel 84 = .ok (.iconst 0, 1) := by decide +kernel
theorem dX11_vessel_85 : decode cX11_vessel 85 = .ok (.bipush 6, 2) := by decide +kernel
theorem dX11_vessel_87 : decode cX11_vessel 87 = .ok (.invokestatic 57, 3) := by decide +kernel
theorem dX11_vessel_90 : decode cX11_vessel 90 = .ok (.aload_n 0, 1) := by decide +kernel
theorem dX11_vessel_91 : decode cX11_vessel 91 = .ok (.getfield 10, 3) := by decide +kernel
theorem dX11_vessel_94 : decode cX11_vessel 94 = .ok (.dup, 1) := by decide +kernel
theorem dX11_vessel_95 : decode cX11_vessel 95 = .ok (.getfield 33, 3) := by decide +kernel
theorem dX11_vessel_98 : decode cX11_vessel 98 = .ok (.dup_x1, 1) := by decide +kernel
theorem dX11_vessel_99 : decode cX11_vessel 99 = .ok (.iconst 1, 1) := by decide +kernel
theorem dX11_vessel_100 : decode cX11_vessel 100 = .ok (.iadd, 1) := by decide +kernel
theorem dX11_vessel_101 : decode cX11_vessel 101 = .ok (.putfield 33, 3) := by decide +kernel
theorem dX11_vessel_104 : decode cX11_vessel 104 = .ok (.ireturn, 1) := by decide +kernel
def fMO_vessel (a1 : Int32) (s0 : zM) (s1 : zM) : Option (Int32 × zM) :=
  zlet (zu s0 0 0 0 (0 : Int32)) fun s0_1 =>
  Option.bind (fMO_in a1 (5 : Int32) (40 : Int32)) fun q2 =>
  if q2 = 0 then
  Option.bind (fMO_no (1 : Int32) s0_1 s1) fun q4 =>
    some (q4.1, q4.2)
else
  if (s1 0 0 9) = (3 : Int32) then
    Option.bind (fMO_no (2 : Int32) s0_1 s1) fun q3 =>
      some (q3.1, q3.2)
  else
    none
set_option maxHeartbeats 4000000 in
set_option maxRecDepth 20000 in
theorem bfMO_vessel {X : zX} (F : zFr X cX11_vessel 3 RX11 (some .int)) (a1 : Int32)  (s0 : zM) (s1 : zM) {κ : Int32 × zM → Option zO} (hκ : ∀ a, κ a = some ((fun a => ((.inl ((fun q => some (zi q.1)) a), (fun q => [q.2, s1]) a) : zO)) a)) : zZ X [(4, [1]), (3, [])] 1 22 3 0 [some (zr 0 0 0), some (zi a1), none] [] [s0, s1] (Option.bind (fMO_vessel a1 s0 s1) κ) := by
  unfold fMO_vessel
  refine zz_aload_n F (i := 0) dX11_vessel_0 rfl rfl ?_
  refine zz_iconst F (v := (0 : Int32)) dX11_vessel_1 (by decide) ?_
  refine zz_put F (Ms' := [(zu s0 0 0 0 (0 : Int32)), s1]) dX11_vessel_2 wpRX11_16 zCl_10 rfl (⟨zlb rfl, zlb rfl, zlb rfl⟩) rfl (by decide) rfl rfl rfl ?_
  refine zz_letm (Mf := fun s0_1 => [s0_1, s1]) fun s0_1 => ?_
  refine zz_iload_n F (i := 1) dX11_vessel_5 rfl rfl ?_
  refine zz_iconst F (v := (5 : Int32)) dX11_vessel_6 (by decide) ?_
  refine zz_bipush F (v := (40 : Int32)) dX11_vessel_7 (by decide) ?_
  refine zz_bind ?_
  refine zz_callSr F (ρ := []) (so := fun q2 => [zi q2]) (Mo := fun q2 => [s0_1, s1]) (zfMO_in a1 (5 : Int32) (40 : Int32)) dX11_vessel_9 wcRX11_20 wy_yX11_in rfl ⟨rel14, rfl, rfl, Nat.le_of_ble_eq_true rfl, Nat.le_of_ble_eq_true rfl, Nat.le_of_ble_eq_true rfl⟩ rfl (fun _ => rfl) (fun _ => rfl) fun q2 => ?_
  refine zz_if_ne F (tgt := 21) dX11_vessel_12 (by decide) (fun h => zz_f h ?_) (fun h => zz_t h ?_)
  · refine zz_aload_n F (i := 0) dX11_vessel_21 rfl rfl ?_
    refine zz_getr F dX11_vessel_22 wfRX11_10 zCl_10 rfl (⟨zlb rfl, zlb rfl, zlb rfl⟩) rfl (by decide) rfl (r' := 1) (by decide) ?_
    refine zz_getf F dX11_vessel_25 wfRX11_33 zCl_9 rfl (⟨zlb rfl, zlb rfl, zlb rfl⟩) rfl (by decide) rfl rfl ?_
    refine zz_iconst F (v := (3 : Int32)) dX11_vessel_28 (by decide) ?_
    refine zz_icmp_ne F (tgt := 38) dX11_vessel_29 (by decide) (fun h => zz_f h ?_) (fun h => zz_t h ?_)
    · refine zz_bipush F (v := (6 : Int32)) dX11_vessel_38 (by decide) ?_
      exact zz_none
    · refine zz_aload_n F (i := 0) dX11_vessel_32 rfl rfl ?_
      refine zz_iconst F (v := (2 : Int32)) dX11_vessel_33 (by decide) ?_
      refine zz_bind ?_
      refine zz_callVr F (ρ := [0, 1]) (so := fun q3 => [zi q3.1]) (Mo := fun q3 => [q3.2, s1]) (zfMO_no (2 : Int32) s0_1 s1) dX11_vessel_34 wcRX11_40 wy_yX11_no rfl ⟨rel15, rfl, rfl, Nat.le_of_ble_eq_true rfl, Nat.le_of_ble_eq_true rfl, Nat.le_of_ble_eq_true rfl⟩ (⟨zlb rfl, zlb rfl, zlb rfl⟩) rfl rfl rfl (fun _ => rfl) (fun _ => rfl) fun q3 => ?_
      exact zz_ireturn F dX11_vessel_37 rfl (hκ _)
  · refine zz_aload_n F (i := 0) dX11_vessel_15 rfl rfl ?_
    refine zz_iconst F (v := (1 : Int32)) dX11_vessel_16 (by decide) ?_
    refine zz_bind ?_
    refine zz_callVr F (ρ := [0, 1]) (so := fun q4 => [zi q4.1]) (Mo := fun q4 => [q4.2, s1]) (zfMO_no (1 : Int32) s0_1 s1) dX11_vessel_17 wcRX11_40 wy_yX11_no rfl ⟨rel15, rfl, rfl, Nat.le_of_ble_eq_true rfl, Nat.le_of_ble_eq_true rfl, Nat.le_of_ble_eq_true rfl⟩ (⟨zlb rfl, zlb rfl, zlb rfl⟩) rfl rfl rfl (fun _ => rfl) (fun _ => rfl) fun q4 => ?_
    exact zz_ireturn F dX11_vessel_20 rfl (hκ _)
theorem zfMO_vessel (a1 : Int32)  (s0 : zM) (s1 : zM) : ∀ a, fMO_vessel a1 s0 s1 = some a → zMet yX11_vessel cX11_vessel 3 (some .int) 1 22 [(4, [1]), (3, [])] [zr 0 0 0, zi a1] [s0, s1] ((fun a => ((.inl ((fun q => some (zi q.1)) a), (fun q => [q.2, s1]) a) : zO)) a) := fun a ha => zMet_of (L0 := [some (zr 0 0 0), some (zi a1), none]) (φ := Option.bind (fMO_vessel a1 s0 s1) (fun a => some ((fun a => ((.inl ((fun q => some (zi q.1)) a), (fun q => [q.2, s1]) a) : zO)) a))) (by decide) (fun _ => Nat.le_of_ble_eq_true rfl) (zl0 1 rfl) (fun X F => bfMO_vessel F a1 s0 s1 (fun _ => rfl)) (by rw [ha]; rfl)

theorem dX11_wouldDeliver_0 : decode cX11_wouldDeliver 0 = .ok (.aload_n 0, 1) := by decide +kernel
theorem dX11_wouldDeliver_1 : decode cX11_wouldDeliver 1 = .ok (.iconst 0, 1) := by decide +kernel
theorem dX11_wouldDeliver_2 : decode cX11_wouldDeliver 2 = .ok (.putfield 16, 3) := by decide +kernel
theorem dX11_wouldDeliver_5 : decode cX11_wouldDeliver 5 = .ok (.iload_n 1, 1) := by decide +kernel
theorem dX11_wouldDeliver_6 : decode cX11_wouldDeliver 6 = .ok (.iconst 1, 1) := by decide +kernel
theorem dX11_wouldDeliver_7 : decode cX11_wouldDeliver 7 = .ok (.bipush 24, 2) := by decide +kernel
theorem dX11_wouldDeliver_9 : decode cX11_wouldDeliver 9 = .ok (.invokestatic 20, 3) := by decide +kernel
theorem dX11_wouldDeliver_12 : decode cX11_wouldDeliver 12 = .ok (.ifCond .ne 9, 3) := by decide +kernel
theorem dX11_wouldDeliver_15 : decode cX11_wouldDeliver 15 = .ok (.aload_n 0, 1) := by decide +kernel
theorem dX11_wouldDeliver_16 : decode cX11_wouldDeliver 16 = .ok (.iconst 1, 1) := by decide +kernel
theorem dX11_wouldDeliver_17 : decode cX11_wouldDeliver 17 = .ok (.invokevirtual 40, 3) := by decide +kernel
theorem dX11_wouldDeliver_20 : decode cX11_wouldDeliver 20 = .ok (.ireturn, 1) := by decide +kernel
theorem dX11_wouldDeliver_21 : decode cX11_wouldDeliver 21 = .ok (.aload_n 0, 1) := by decide +kernel
theorem dX11_wouldDeliver_22 : decode cX11_wouldDeliver 22 = .ok (.getfield 10, 3) := by decide +kernel
theorem dX11_wouldDeliver_25 : decode cX11_wouldDeliver 25 = .ok (.invokevirtual 156, 3) := by decide +kernel
theorem dX11_wouldDeliver_28 : decode cX11_wouldDeliver 28 = .ok (.iload_n 1, 1) := by decide +kernel
theorem dX11_wouldDeliver_29 : decode cX11_wouldDeliver 29 = .ok (.invokevirtual 92, 3) := by decide +kernel
theorem dX11_wouldDeliver_32 : decode cX11_wouldDeliver 32 = .ok (.ireturn, 1) := by decide +kernel
def fMO_wouldDeliver (a1 : Int32) (s0 : zM) (s1 : zM) : Option (Int32 × zM) :=
  zlet (zu s0 0 0 0 (0 : Int32)) fun s0_1 =>
  Option.bind (fMO_in a1 (1 : Int32) (24 : Int32)) fun q2 =>
  if q2 = 0 then
  Option.bind (fMO_no (1 : Int32) s0_1 s1) fun q3 =>
    some (q3.1, q3.2)
else
  none
set_option maxHeartbeats 4000000 in
set_option maxRecDepth 20000 in
theorem bfMO_wouldDeliver {X : zX} (F : zFr X cX11_wouldDeliver 2 RX11 (some .int)) (a1 : Int32)  (s0 : zM) (s1 : zM) {κ : Int32 × zM → Option zO} (hκ : ∀ a, κ a = some ((fun a => ((.inl ((fun q => some (zi q.1)) a), (fun q => [q.2, s1]) a) : zO)) a)) : zZ X [(4, [1]), (3, [])] 1 22 2 0 [some (zr 0 0 0), some (zi a1)] [] [s0, s1] (Option.bind (fMO_wouldDeliver a1 s0 s1) κ) := by
  unfold fMO_wouldDeliver
  refine zz_aload_n F (i := 0) dX11_wouldDeliver_0 rfl rfl ?_
  refine zz_iconst F (v := (0 : Int32)) dX11_wouldDeliver_1 (by decide) ?_
  refine zz_put F (Ms' := [(zu s0 0 0 0 (0 : Int32)), s1]) dX11_wouldDeliver_2 wpRX11_16 zCl_10 rfl (⟨zlb rfl, zlb rfl, zlb rfl⟩) rfl (by decide) rfl rfl rfl ?_
  refine zz_letm (Mf := fun s0_1 => [s0_1, s1]) fun s0_1 => ?_
  refine zz_iload_n F (i := 1) dX11_wouldDeliver_5 rfl rfl ?_
  refine zz_iconst F (v := (1 : Int32)) dX11_wouldDeliver_6 (by decide) ?_
  refine zz_bipush F (v := (24 : Int32)) dX11_wouldDeliver_7 (by decide) ?_
  refine zz_bind ?_
  refine zz_callSr F (ρ := []) (so := fun q2 => [zi q2]) (Mo := fun q2 => [s0_1, s1]) (zfMO_in a1 (1 : Int32) (24 : Int32)) dX11_wouldDeliver_9 wcRX11_20 wy_yX11_in rfl ⟨rel14, rfl, rfl, Nat.le_of_ble_eq_true rfl, Nat.le_of_ble_eq_true rfl, Nat.le_of_ble_eq_true rfl⟩ rfl (fun _ => rfl) (fun _ => rfl) fun q2 => ?_
  refine zz_if_ne F (tgt := 21) dX11_wouldDeliver_12 (by decide) (fun h => zz_f h ?_) (fun h => zz_t h ?_)
  · refine zz_aload_n F (i := 0) dX11_wouldDeliver_21 rfl rfl ?_
    refine zz_getr F dX11_wouldDeliver_22 wfRX11_10 zCl_10 rfl (⟨zlb rfl, zlb rfl, zlb rfl⟩) rfl (by decide) rfl (r' := 1) (by decide) ?_
    exact zz_none
  · refine zz_aload_n F (i := 0) dX11_wouldDeliver_15 rfl rfl ?_
    refine zz_iconst F (v := (1 : Int32)) dX11_wouldDeliver_16 (by decide) ?_
    refine zz_bind ?_
    refine zz_callVr F (ρ := [0, 1]) (so := fun q3 => [zi q3.1]) (Mo := fun q3 => [q3.2, s1]) (zfMO_no (1 : Int32) s0_1 s1) dX11_wouldDeliver_17 wcRX11_40 wy_yX11_no rfl ⟨rel15, rfl, rfl, Nat.le_of_ble_eq_true rfl, Nat.le_of_ble_eq_true rfl, Nat.le_of_ble_eq_true rfl⟩ (⟨zlb rfl, zlb rfl, zlb rfl⟩) rfl rfl rfl (fun _ => rfl) (fun _ => rfl) fun q3 => ?_
    exact zz_ireturn F dX11_wouldDeliver_20 rfl (hκ _)
theorem zfMO_wouldDeliver (a1 : Int32)  (s0 : zM) (s1 : zM) : ∀ a, fMO_wouldDeliver a1 s0 s1 = some a → zMet yX11_wouldDeliver cX11_wouldDeliver 2 (some .int) 1 22 [(4, [1]), (3, [])] [zr 0 0 0, zi a1] [s0, s1] ((fun a => ((.inl ((fun q => some (zi q.1)) a), (fun q => [q.2, s1]) a) : zO)) a) := fun a ha => zMet_of (L0 := [some (zr 0 0 0), some (zi a1)]) (φ := Option.bind (fMO_wouldDeliver a1 s0 s1) (fun a => some ((fun a => ((.inl ((fun q => some (zi q.1)) a), (fun q => [q.2, s1]) a) : zO)) a))) (by decide) (fun _ => Nat.le_of_ble_eq_true rfl) (zl0 0 rfl) (fun X F => bfMO_wouldDeliver F a1 s0 s1 (fun _ => rfl)) (by rw [ha]; rfl)

theorem dX11_bestTurn_0 : decode cX11_bestTurn 0 = .ok (.aload_n 0, 1) := by decide +kernel
theorem dX11_bestTurn_1 : decode cX11_bestTurn 1 = .ok (.iconst 0, 1) := by decide +kernel
theorem dX11_bestTurn_2 : decode cX11_bestTurn 2 = .ok (.putfield 16, 3) := by decide +kernel
theorem dX11_bestTurn_5 : decode cX11_bestTurn 5 = .ok (.aload_n 0, 1) := by decide +kernel
theorem dX11_bestTurn_6 : decode cX11_bestTurn 6 = .ok (.iload_n 1, 1) := by decide +kernel
theorem dX11_bestTurn_7 : decode cX11_bestTurn 7 = .ok (.invokevirtual 95, 3) := by decide +kernel
theorem dX11_bestTurn_10 : decode cX11_bestTurn 10 = .ok (.ifCond .ne 9, 3) := by decide +kernel
theorem dX11_bestTurn_13 : decode cX11_bestTurn 13 = .ok (.aload_n 0, 1) := by decide +kernel
theorem dX11_bestTurn_14 : decode cX11_bestTurn 14 = .ok (.iconst 1, 1) := by decide +kernel
theorem dX11_bestTurn_15 : decode cX11_bestTurn 15 = .ok (.invokevirtual 40, 3) := by decide +kernel
theorem dX11_bestTurn_18 : decode cX11_bestTurn 18 = .ok (.ireturn, 1) := by decide +kernel
theorem dX11_bestTurn_19 : decode cX11_bestTurn 19 = .ok (.aload_n 0, 1) := by decide +kernel
theorem dX11_bestTurn_20 : decode cX11_bestTurn 20 = .ok (.iload_n 1, 1) := by decide +kernel
theorem dX11_bestTurn_21 : decode cX11_bestTurn 21 = .ok (.invokevirtual 165, 3) := by decide +kernel
theorem dX11_bestTurn_24 : decode cX11_bestTurn 24 = .ok (.ireturn, 1) := by decide +kernel
def fMO_bestTurn (a1 : Int32) (s0 : zM) (s1 : zM) : Option (Int32 × zM) :=
  zlet (zu s0 0 0 0 (0 : Int32)) fun s0_1 =>
  Option.bind (fMO_isTurbine a1 s0_1 s1) fun q2 =>
  if q2 = 0 then
  Option.bind (fMO_no (1 : Int32) s0_1 s1) fun q3 =>
    some (q3.1, q3.2)
else
  none
set_option maxHeartbeats 4000000 in
set_option maxRecDepth 20000 in
theorem bfMO_bestTurn {X : zX} (F : zFr X cX11_bestTurn 2 RX11 (some .int)) (a1 : Int32)  (s0 : zM) (s1 : zM) {κ : Int32 × zM → Option zO} (hκ : ∀ a, κ a = some ((fun a => ((.inl ((fun q => some (zi q.1)) a), (fun q => [q.2, s1]) a) : zO)) a)) : zZ X [(4, [1]), (3, [])] 2 43 2 0 [some (zr 0 0 0), some (zi a1)] [] [s0, s1] (Option.bind (fMO_bestTurn a1 s0 s1) κ) := by
  unfold fMO_bestTurn
  refine zz_aload_n F (i := 0) dX11_bestTurn_0 rfl rfl ?_
  refine zz_iconst F (v := (0 : Int32)) dX11_bestTurn_1 (by decide) ?_
  refine zz_put F (Ms' := [(zu s0 0 0 0 (0 : Int32)), s1]) dX11_bestTurn_2 wpRX11_16 zCl_10 rfl (⟨zlb rfl, zlb rfl, zlb rfl⟩) rfl (by decide) rfl rfl rfl ?_
  refine zz_letm (Mf := fun s0_1 => [s0_1, s1]) fun s0_1 => ?_
  refine zz_aload_n F (i := 0) dX11_bestTurn_5 rfl rfl ?_
  refine zz_iload_n F (i := 1) dX11_bestTurn_6 rfl rfl ?_
  refine zz_bind ?_
  refine zz_callVr F (ρ := [0, 1]) (so := fun q2 => [zi q2]) (Mo := fun q2 => [s0_1, s1]) (zfMO_isTurbine a1 s0_1 s1) dX11_bestTurn_7 wcRX11_95 wy_yX11_isTurbine rfl ⟨rel15, rfl, rfl, Nat.le_of_ble_eq_true rfl, Nat.le_of_ble_eq_true rfl, Nat.le_of_ble_eq_true rfl⟩ (⟨zlb rfl, zlb rfl, zlb rfl⟩) rfl rfl rfl (fun _ => rfl) (fun _ => rfl) fun q2 => ?_
  refine zz_if_ne F (tgt := 19) dX11_bestTurn_10 (by decide) (fun h => zz_f h ?_) (fun h => zz_t h ?_)
  · refine zz_aload_n F (i := 0) dX11_bestTurn_19 rfl rfl ?_
    refine zz_iload_n F (i := 1) dX11_bestTurn_20 rfl rfl ?_
    exact zz_none
  · refine zz_aload_n F (i := 0) dX11_bestTurn_13 rfl rfl ?_
    refine zz_iconst F (v := (1 : Int32)) dX11_bestTurn_14 (by decide) ?_
    refine zz_bind ?_
    refine zz_callVr F (ρ := [0, 1]) (so := fun q3 => [zi q3.1]) (Mo := fun q3 => [q3.2, s1]) (zfMO_no (1 : Int32) s0_1 s1) dX11_bestTurn_15 wcRX11_40 wy_yX11_no rfl ⟨rel15, rfl, rfl, Nat.le_of_ble_eq_true rfl, Nat.le_of_ble_eq_true rfl, Nat.le_of_ble_eq_true rfl⟩ (⟨zlb rfl, zlb rfl, zlb rfl⟩) rfl rfl rfl (fun _ => rfl) (fun _ => rfl) fun q3 => ?_
    exact zz_ireturn F dX11_bestTurn_18 rfl (hκ _)
theorem zfMO_bestTurn (a1 : Int32)  (s0 : zM) (s1 : zM) : ∀ a, fMO_bestTurn a1 s0 s1 = some a → zMet yX11_bestTurn cX11_bestTurn 2 (some .int) 2 43 [(4, [1]), (3, [])] [zr 0 0 0, zi a1] [s0, s1] ((fun a => ((.inl ((fun q => some (zi q.1)) a), (fun q => [q.2, s1]) a) : zO)) a) := fun a ha => zMet_of (L0 := [some (zr 0 0 0), some (zi a1)]) (φ := Option.bind (fMO_bestTurn a1 s0 s1) (fun a => some ((fun a => ((.inl ((fun q => some (zi q.1)) a), (fun q => [q.2, s1]) a) : zO)) a))) (by decide) (fun _ => Nat.le_of_ble_eq_true rfl) (zl0 0 rfl) (fun X F => bfMO_bestTurn F a1 s0 s1 (fun _ => rfl)) (by rw [ha]; rfl)
