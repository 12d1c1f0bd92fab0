theorem dX8_set_0 : decode cX8_set 0 = .ok (.aload_n 0, 1) := by decide +kernel
theorem dX8_set_1 : decode cX8_set 1 = .ok (.iload_n 1, 1) := by decide +kernel
theorem dX8_set_2 : decode cX8_set 2 = .ok (.putfield 15, 3) := by decide +kernel
theorem dX8_set_5 : decode cX8_set 5 = .ok (.aload_n 0, 1) := by decide +kernel
theorem dX8_set_6 : decode cX8_set 6 = .ok (.iload_n 2, 1) := by decide +kernel
theorem dX8_set_7 : decode cX8_set 7 = .ok (.putfield 18, 3) := by decide +kernel
theorem dX8_set_10 : decode cX8_set 10 = .ok (.aload_n 0, 1) := by decide +kernel
theorem dX8_set_11 : decode cX8_set 11 = .ok (.iload_n 3, 1) := by decide +kernel
theorem dX8_set_12 : decode cX8_set 12 = .ok (.putfield 21, 3) := by decide +kernel
theorem dX8_set_15 : decode cX8_set 15 = .ok (.aload_n 0, 1) := by decide +kernel
theorem dX8_set_16 : decode cX8_set 16 = .ok (.iload 4, 2) := by decide +kernel
theorem dX8_set_18 : decode cX8_set 18 = .ok (.putfield 24, 3) := by decide +kernel
theorem dX8_set_21 : decode cX8_set 21 = .ok (.aload_n 0, 1) := by decide +kernel
theorem dX8_set_22 : decode cX8_set 22 = .ok (.iload 5, 2) := by decide +kernel
theorem dX8_set_24 : decode cX8_set 24 = .ok (.putfield 9, 3) := by decide +kernel
theorem dX8_set_27 : decode cX8_set 27 = .ok (.return_, 1) := by decide +kernel
theorem wpRX8_15 : zFw RX8 15 7 0 .int := ⟨_, rfl, by decide, zm_f 83 (by decide +kernel) rfl, rfl, by decide +kernel⟩
theorem wpRX8_18 : zFw RX8 18 7 1 .int := ⟨_, rfl, by decide, zm_f 85 (by decide +kernel) rfl, rfl, by decide +kernel⟩
theorem wpRX8_21 : zFw RX8 21 7 2 .int := ⟨_, rfl, by decide, zm_f 88 (by decide +kernel) rfl, rfl, by decide +kernel⟩
theorem wpRX8_24 : zFw RX8 24 7 3 .int := ⟨_, rfl, by decide, zm_f 91 (by decide +kernel) rfl, rfl, by decide +kernel⟩
theorem wpRX8_9 : zFw RX8 9 7 4 .int := ⟨_, rfl, by decide, zm_f 94 (by decide +kernel) rfl, rfl, by decide +kernel⟩
def fWe_set (a1 : Int32) (a2 : Int32) (a3 : Int32) (a4 : Int32) (a5 : Int32) (s0 : zM) : Option (zM) :=
  zlet (zu s0 4 0 0 a1) fun s0_1 =>
  zlet (zu s0_1 4 0 1 a2) fun s0_2 =>
  zlet (zu s0_2 4 0 2 a3) fun s0_3 =>
  zlet (zu s0_3 4 0 3 a4) fun s0_4 =>
  zlet (zu s0_4 4 0 4 a5) fun s0_5 =>
  some s0_5
set_option maxHeartbeats 4000000 in
set_option maxRecDepth 20000 in
theorem bfWe_set {X : zX} (F : zFr X cX8_set 6 RX8 none) (a1 : Int32) (a2 : Int32) (a3 : Int32) (a4 : Int32) (a5 : Int32)  (s0 : zM) {κ : zM → Option zO} (hκ : ∀ a, κ a = some ((fun a => ((.inl ((fun _ => (none : Option zV)) a), (fun q => [q]) a) : zO)) a)) : zZ X [(0, [])] 0 0 6 0 [some (zr 0 4 0), some (zi a1), some (zi a2), some (zi a3), some (zi a4), some (zi a5)] [] [s0] (Option.bind (fWe_set a1 a2 a3 a4 a5 s0) κ) := by
  unfold fWe_set
  refine zz_aload_n F (i := 0) dX8_set_0 rfl rfl ?_
  refine zz_iload_n F (i := 1) dX8_set_1 rfl rfl ?_
  refine zz_put F (Ms' := [(zu s0 4 0 0 a1)]) dX8_set_2 wpRX8_15 zCl_7 rfl (⟨zlb rfl, zlb rfl, zlb rfl⟩) rfl (by decide) rfl rfl rfl ?_
  refine zz_letm (Mf := fun s0_1 => [s0_1]) fun s0_1 => ?_
  refine zz_aload_n F (i := 0) dX8_set_5 rfl rfl ?_
  refine zz_iload_n F (i := 2) dX8_set_6 rfl rfl ?_
  refine zz_put F (Ms' := [(zu s0_1 4 0 1 a2)]) dX8_set_7 wpRX8_18 zCl_7 rfl (⟨zlb rfl, zlb rfl, zlb rfl⟩) rfl (by decide) rfl rfl rfl ?_
  refine zz_letm (Mf := fun s0_2 => [s0_2]) fun s0_2 => ?_
  refine zz_aload_n F (i := 0) dX8_set_10 rfl rfl ?_
  refine zz_iload_n F (i := 3) dX8_set_11 rfl rfl ?_
  refine zz_put F (Ms' := [(zu s0_2 4 0 2 a3)]) dX8_set_12 wpRX8_21 zCl_7 rfl (⟨zlb rfl, zlb rfl, zlb rfl⟩) rfl (by decide) rfl rfl rfl ?_
  refine zz_letm (Mf := fun s0_3 => [s0_3]) fun s0_3 => ?_
  refine zz_aload_n F (i := 0) dX8_set_15 rfl rfl ?_
  refine zz_iload F (i := 4) dX8_set_16 rfl ?_
  refine zz_put F (Ms' := [(zu s0_3 4 0 3 a4)]) dX8_set_18 wpRX8_24 zCl_7 rfl (⟨zlb rfl, zlb rfl, zlb rfl⟩) rfl (by decide) rfl rfl rfl ?_
  refine zz_letm (Mf := fun s0_4 => [s0_4]) fun s0_4 => ?_
  refine zz_aload_n F (i := 0) dX8_set_21 rfl rfl ?_
  refine zz_iload F (i := 5) dX8_set_22 rfl ?_
  refine zz_put F (Ms' := [(zu s0_4 4 0 4 a5)]) dX8_set_24 wpRX8_9 zCl_7 rfl (⟨zlb rfl, zlb rfl, zlb rfl⟩) rfl (by decide) rfl rfl rfl ?_
  refine zz_letm (Mf := fun s0_5 => [s0_5]) fun s0_5 => ?_
  exact zz_return F dX8_set_27 rfl (hκ _)
theorem zfWe_set (a1 : Int32) (a2 : Int32) (a3 : Int32) (a4 : Int32) (a5 : Int32)  (s0 : zM) : ∀ a, fWe_set a1 a2 a3 a4 a5 s0 = some a → zMet yX8_set cX8_set 6 none 0 0 [(0, [])] [zr 0 4 0, zi a1, zi a2, zi a3, zi a4, zi a5] [s0] ((fun a => ((.inl ((fun _ => (none : Option zV)) a), (fun q => [q]) a) : zO)) a) := fun a ha => zMet_of (L0 := [some (zr 0 4 0), some (zi a1), some (zi a2), some (zi a3), some (zi a4), some (zi a5)]) (φ := Option.bind (fWe_set a1 a2 a3 a4 a5 s0) (fun a => some ((fun a => ((.inl ((fun _ => (none : Option zV)) a), (fun q => [q]) a) : zO)) a))) (by decide) (fun _ => Nat.le_of_ble_eq_true rfl) (zl0 0 rfl) (fun X F => bfWe_set F a1 a2 a3 a4 a5 s0 (fun _ => rfl)) (by rw [ha]; rfl)

theorem dX5_become_0 : decode cX5_become 0 = .ok (.aload_n 0, 1) := by decide +kernel
theorem dX5_become_1 : decode cX5_become 1 = .ok (.iload_n 1, 1) := by decide +kernel
theorem dX5_become_2 : decode cX5_become 2 = .ok (.putfield 9, 3) := by decide +kernel
theorem dX5_become_5 : decode cX5_become 5 = .ok (.aload_n 0, 1) := by decide +kernel
theorem dX5_become_6 : decode cX5_become 6 = .ok (.iconst 0, 1) := by decide +kernel
theorem dX5_become_7 : decode cX5_become 7 = .ok (.putfield 15, 3) := by decide +kernel
theorem dX5_become_10 : decode cX5_become 10 = .ok (.aload_n 0, 1) := by decide +kernel
theorem dX5_become_11 : decode cX5_become 11 = .ok (.iconst (-1), 1) := by decide +kernel
theorem dX5_become_12 : decode cX5_become 12 = .ok (.putfield 18, 3) := by decide +kernel
theorem dX5_become_15 : decode cX5_become 15 = .ok (.aload_n 0, 1) := by decide +kernel
theorem dX5_become_16 : decode cX5_become 16 = .ok (.iconst (-1), 1) := by decide +kernel
theorem dX5_become_17 : decode cX5_become 17 = .ok (.putfield 21, 3) := by decide +kernel
theorem dX5_become_20 : decode cX5_become 20 = .ok (.return_, 1) := by decide +kernel
theorem wpRX5_9 : zFw RX5 9 5 3 .int := ⟨_, rfl, by decide, zm_f 170 (by decide +kernel) rfl, rfl, by decide +kernel⟩
theorem wpRX5_15 : zFw RX5 15 5 4 .int := ⟨_, rfl, by decide, zm_f 173 (by decide +kernel) rfl, rfl, by decide +kernel⟩
theorem wpRX5_18 : zFw RX5 18 5 5 .int := ⟨_, rfl, by decide, zm_f 175 (by decide +kernel) rfl, rfl, by decide +kernel⟩
theorem wpRX5_21 : zFw RX5 21 5 6 .int := ⟨_, rfl, by decide, zm_f 177 (by decide +kernel) rfl, rfl, by decide +kernel⟩
def fTu_become (i : Nat) (a1 : Int32) (s0 : zM) : Option (zM) :=
  zlet (zu s0 7 i 3 a1) fun s0_1 =>
  zlet (zu s0_1 7 i 4 (0 : Int32)) fun s0_2 =>
  zlet (zu s0_2 7 i 5 (-1 : Int32)) fun s0_3 =>
  zlet (zu s0_3 7 i 6 (-1 : Int32)) fun s0_4 =>
  some s0_4
set_option maxHeartbeats 4000000 in
set_option maxRecDepth 20000 in
theorem bfTu_become {X : zX} (F : zFr X cX5_become 2 RX5 none) (i : Nat) (a1 : Int32) (hi : i < 8) (s0 : zM) {κ : zM → Option zO} (hκ : ∀ a, κ a = some ((fun a => ((.inl ((fun _ => (none : Option zV)) a), (fun q => [q]) a) : zO)) a)) : zZ X [(0, [])] 0 0 2 0 [some (zr 0 7 i), some (zi a1)] [] [s0] (Option.bind (fTu_become i a1 s0) κ) := by
  unfold fTu_become
  refine zz_aload_n F (i := 0) dX5_become_0 rfl rfl ?_
  refine zz_iload_n F (i := 1) dX5_become_1 rfl rfl ?_
  refine zz_put F (Ms' := [(zu s0 7 i 3 a1)]) dX5_become_2 wpRX5_9 zCl_5 rfl (⟨zlb rfl, zlb rfl, hi⟩) rfl (by decide) rfl rfl rfl ?_
  refine zz_letm (Mf := fun s0_1 => [s0_1]) fun s0_1 => ?_
  refine zz_aload_n F (i := 0) dX5_become_5 rfl rfl ?_
  refine zz_iconst F (v := (0 : Int32)) dX5_become_6 (by decide) ?_
  refine zz_put F (Ms' := [(zu s0_1 7 i 4 (0 : Int32))]) dX5_become_7 wpRX5_15 zCl_5 rfl (⟨zlb rfl, zlb rfl, hi⟩) rfl (by decide) rfl rfl rfl ?_
  refine zz_letm (Mf := fun s0_2 => [s0_2]) fun s0_2 => ?_
  refine zz_aload_n F (i := 0) dX5_become_10 rfl rfl ?_
  refine zz_iconst F (v := (-1 : Int32)) dX5_become_11 (by decide) ?_
  refine zz_put F (Ms' := [(zu s0_2 7 i 5 (-1 : Int32))]) dX5_become_12 wpRX5_18 zCl_5 rfl (⟨zlb rfl, zlb rfl, hi⟩) rfl (by decide) rfl rfl rfl ?_
  refine zz_letm (Mf := fun s0_3 => [s0_3]) fun s0_3 => ?_
  refine zz_aload_n F (i := 0) dX5_become_15 rfl rfl ?_
  refine zz_iconst F (v := (-1 : Int32)) dX5_become_16 (by decide) ?_
  refine zz_put F (Ms' := [(zu s0_3 7 i 6 (-1 : Int32))]) dX5_become_17 wpRX5_21 zCl_5 rfl (⟨zlb rfl, zlb rfl, hi⟩) rfl (by decide) rfl rfl rfl ?_
  refine zz_letm (Mf := fun s0_4 => [s0_4]) fun s0_4 => ?_
  exact zz_return F dX5_become_20 rfl (hκ _)
theorem zfTu_become (i : Nat) (a1 : Int32) (hi : i < 8) (s0 : zM) : ∀ a, fTu_become i a1 s0 = some a → zMet yX5_become cX5_become 2 none 0 0 [(0, [])] [zr 0 7 i, zi a1] [s0] ((fun a => ((.inl ((fun _ => (none : Option zV)) a), (fun q => [q]) a) : zO)) a) := fun a ha => zMet_of (L0 := [some (zr 0 7 i), some (zi a1)]) (φ := Option.bind (fTu_become i a1 s0) (fun a => some ((fun a => ((.inl ((fun _ => (none : Option zV)) a), (fun q => [q]) a) : zO)) a))) (by decide) (fun _ => Nat.le_of_ble_eq_true rfl) (zl0 0 rfl) (fun X F => bfTu_become F i a1 hi s0 (fun _ => rfl)) (by rw [ha]; rfl)

theorem dX5_stop_0 : decode cX5_stop 0 = .ok (.aload_n 0, 1) := by decide +kernel
theorem dX5_stop_1 : decode cX5_stop 1 = .ok (.iconst 0, 1) := by decide +kernel
theorem dX5_stop_2 : decode cX5_stop 2 = .ok (.invokevirtual 69, 3) := by decide +kernel
theorem dX5_stop_5 : decode cX5_stop 5 = .ok (.aload_n 0, 1) := by decide +kernel
theorem dX5_stop_6 : decode cX5_stop 6 = .ok (.iload_n 1, 1) := by decide +kernel
theorem dX5_stop_7 : decode cX5_stop 7 = .ok (.putfield 15, 3) := by decide +kernel
theorem dX5_stop_10 : decode cX5_stop 10 = .ok (.return_, 1) := by decide +kernel
theorem wcRX5_69 : Cond.methodLink RX5 69 yX5_become ∈ zTg ∧ Cond.instanceMethod yX5_become ∈ zTg ∧ Cond.selects RX5 yX5_become yX5_become ∈ zTg ∧ Cond.initialized RX5 ∈ zTg ∧ Cond.code yX5_become cX5_become 2 none ∈ zTg := ⟨zm_f 613 (by decide +kernel) rfl, zm_f 614 (by decide +kernel) rfl, zm_f 615 (by decide +kernel) rfl, zm_f 41 (by decide +kernel) rfl, zm_f 616 (by decide +kernel) rfl⟩
theorem wy_yX5_become : yX5_become.cls = RX5 ∧ yX5_become.cls ≠ "java/lang/invoke/MethodHandle" ∧ yX5_become.cls ≠ "java/lang/invoke/VarHandle" ∧ (parseMethodDescriptor yX5_become.desc).map (fun d => d.parameters.length) = some 1 := by decide +kernel
theorem rel3 : zRel [0] [(0, [])] [(0, [])] := by unfold zRel; decide
def fTu_stop (i : Nat) (a1 : Int32) (s0 : zM) : Option (zM) :=
  Option.bind (fTu_become i (0 : Int32) s0) fun q1 =>
  zlet (zu q1 7 i 4 a1) fun s0_2 =>
  some s0_2
set_option maxHeartbeats 4000000 in
set_option maxRecDepth 20000 in
theorem bfTu_stop {X : zX} (F : zFr X cX5_stop 2 RX5 none) (i : Nat) (a1 : Int32) (hi : i < 8) (s0 : zM) {κ : zM → Option zO} (hκ : ∀ a, κ a = some ((fun a => ((.inl ((fun _ => (none : Option zV)) a), (fun q => [q]) a) : zO)) a)) : zZ X [(0, [])] 1 21 2 0 [some (zr 0 7 i), some (zi a1)] [] [s0] (Option.bind (fTu_stop i a1 s0) κ) := by
  unfold fTu_stop
  refine zz_aload_n F (i := 0) dX5_stop_0 rfl rfl ?_
  refine zz_iconst F (v := (0 : Int32)) dX5_stop_1 (by decide) ?_
  refine zz_bind ?_
  refine zz_callVr F (ρ := [0]) (so := fun q1 => []) (Mo := fun q1 => [q1]) (zfTu_become i (0 : Int32) hi s0) dX5_stop_2 wcRX5_69 wy_yX5_become rfl ⟨rel3, rfl, rfl, Nat.le_of_ble_eq_true rfl, Nat.le_of_ble_eq_true rfl, Nat.le_of_ble_eq_true rfl⟩ (⟨zlb rfl, zlb rfl, hi⟩) rfl rfl rfl (fun _ => rfl) (fun _ => rfl) fun q1 => ?_
  refine zz_aload_n F (i := 0) dX5_stop_5 rfl rfl ?_
  refine zz_iload_n F (i := 1) dX5_stop_6 rfl rfl ?_
  refine zz_put F (Ms' := [(zu q1 7 i 4 a1)]) dX5_stop_7 wpRX5_15 zCl_5 rfl (⟨zlb rfl, zlb rfl, hi⟩) rfl (by decide) rfl rfl rfl ?_
  refine zz_letm (Mf := fun s0_2 => [s0_2]) fun s0_2 => ?_
  exact zz_return F dX5_stop_10 rfl (hκ _)
theorem zfTu_stop (i : Nat) (a1 : Int32) (hi : i < 8) (s0 : zM) : ∀ a, fTu_stop i a1 s0 = some a → zMet yX5_stop cX5_stop 2 none 1 21 [(0, [])] [zr 0 7 i, zi a1] [s0] ((fun a => ((.inl ((fun _ => (none : Option zV)) a), (fun q => [q]) a) : zO)) a) := fun a ha => zMet_of (L0 := [some (zr 0 7 i), some (zi a1)]) (φ := Option.bind (fTu_stop i a1 s0) (fun a => some ((fun a => ((.inl ((fun _ => (none : Option zV)) a), (fun q => [q]) a) : zO)) a))) (by decide) (fun _ => Nat.le_of_ble_eq_true rfl) (zl0 0 rfl) (fun X F => bfTu_stop F i a1 hi s0 (fun _ => rfl)) (by rw [ha]; rfl)

theorem dX5_wornPart_0 : decode cX5_wornPart 0 = .ok (.iconst 0, 1) := by decide +kernel
theorem dX5_wornPart_1 : decode cX5_wornPart 1 = .ok (.istore_n 1, 1) := by decide +kernel
theorem dX5_wornPart_2 : decode cX5_wornPart 2 = .ok (.iload_n 1, 1) := by decide +kernel
theorem dX5_wornPart_3 : decode cX5_wornPart 3 = .ok (.iconst 3, 1) := by decide +kernel
theorem dX5_wornPart_4 : decode cX5_wornPart 4 = .ok (.if_icmp .ge 25, 3) := by decide +kernel
theorem dX5_wornPart_7 : decode cX5_wornPart 7 = .ok (.aload_n 0, 1) := by decide +kernel
theorem dX5_wornPart_8 : decode cX5_wornPart 8 = .ok (.getfield 24, 3) := by decide +kernel
theorem dX5_wornPart_11 : decode cX5_wornPart 11 = .ok (.iload_n 1, 1) := by decide +kernel
theorem dX5_wornPart_12 : decode cX5_wornPart 12 = .ok (.iaload, 1) := by decide +kernel
theorem dX5_wornPart_13 : decode cX5_wornPart 13 = .ok (.getstatic 95, 3) := by decide +kernel
theorem dX5_wornPart_16 : decode cX5_wornPart 16 = .ok (.iload_n 1, 1) := by decide +kernel
theorem dX5_wornPart_17 : decode cX5_wornPart 17 = .ok (.iaload, 1) := by decide +kernel
theorem dX5_wornPart_18 : decode cX5_wornPart 18 = .ok (.if_icmp .lt 5, 3) := by decide +kernel
theorem dX5_wornPart_21 : decode cX5_wornPart 21 = .ok (.iload_n 1, 1) := by decide +kernel
theorem dX5_wornPart_22 : decode cX5_wornPart 22 = .ok (.ireturn, 1) := by decide +kernel
theorem dX5_wornPart_23 : decode cX5_wornPart 23 = .ok (.iinc 1 1, 3) := by decide +kernel
theorem dX5_wornPart_26 : decode cX5_wornPart 26 = .ok (.goto (-24), 3) := by decide +kernel
theorem dX5_wornPart_29 : decode cX5_wornPart 29 = .ok (.iconst (-1), 1) := by decide +kernel
theorem dX5_wornPart_30 : decode cX5_wornPart 30 = .ok (.ireturn, 1) := by decide +kernel
theorem wfRX5_24 : zFl RX5 24 5 11 := ⟨_, rfl, by decide, zm_f 188 (by decide +kernel) rfl⟩
theorem wgRX5_95 : Cond.fieldLinkNest RX5 95 "WakeBanks" "WEAR_LIMITS" "[I" "WakeBanks" ∈ zNws := by decide +kernel
def fTu_wornPart_l2 (i : Nat) (s0 : zM) (q1 : Int32) : Option ((Int32) ⊕ ((Unit) ⊕ (Int32))) :=
  if (3 : Int32) ≤ q1 then
  some (.inr (.inl ()))
else
  zix q1 3 fun j3 =>
    zix q1 3 fun j4 =>
    if (s0 8 i j3) < (zk2.getD j4 0) then
    zlet (q1 + 1) fun v5 =>
      some (.inl v5)
  else
    some (.inr (.inr q1))
def fTu_wornPart (i : Nat) (s0 : zM) : Option (Int32) :=
  Option.bind (ziter (fTu_wornPart_l2 i s0) 1000 (0 : Int32)) (Sum.elim (fun _ =>
  some (-1 : Int32)) (fun r => some r))
set_option maxHeartbeats 4000000 in
set_option maxRecDepth 20000 in
theorem bfTu_wornPart_l2 {X : zX} (F : zFr X cX5_wornPart 2 RX5 (some .int)) (i : Nat) (s0 : zM) (hi : i < 8) {ψ : (Int32) ⊕ ((Unit) ⊕ (Int32)) → Option zO} (h1 : ∀ q1 : Int32, zZ X [(0, [])] 0 0 2 2 [some (zr 0 7 i), some (zi q1)] [] [s0] (ψ (.inl q1))) (h2 : ∀ q2 : Unit, zZ X [(0, [])] 0 0 2 29 [none, none] [] [s0] (ψ (.inr (.inl q2)))) (h3 : ∀ r, ψ (.inr (.inr r)) = some ((fun a => ((.inl ((fun q => some (zi q)) a), (fun _ => [s0]) a) : zO)) r)) (q1 : Int32) : zZ X [(0, [])] 0 0 2 2 [some (zr 0 7 i), some (zi q1)] [] [s0] (Option.bind (fTu_wornPart_l2 i s0 q1) ψ) := by
  unfold fTu_wornPart_l2
  refine zz_iload_n F (i := 1) dX5_wornPart_2 rfl rfl ?_
  refine zz_iconst F (v := (3 : Int32)) dX5_wornPart_3 (by decide) ?_
  refine zz_icmp_ge F (tgt := 29) dX5_wornPart_4 (by decide) (fun h => zz_t h ?_) (fun h => zz_f h ?_)
  · exact zz_sub (zs_n (zs_n zs_z)) (h2 ())
  · refine zz_aload_n F (i := 0) dX5_wornPart_7 rfl rfl ?_
    refine zz_getr F dX5_wornPart_8 wfRX5_24 zCl_5 rfl (⟨zlb rfl, zlb rfl, hi⟩) rfl (by decide) rfl (r' := 0) (by decide) ?_
    refine zz_iload_n F (i := 1) dX5_wornPart_11 rfl rfl ?_
    refine zz_ix fun j3 hj3 hinj3 hej3 => zz_ial F dX5_wornPart_12 rfl (⟨zlb rfl, zlb rfl, hi⟩) rfl hinj3 hej3 ?_
    refine zz_getsN F (j := 2) (q := zst2) dX5_wornPart_13 rfl wgRX5_95 ?_
    refine zz_iload_n F (i := 1) dX5_wornPart_16 rfl rfl ?_
    refine zz_ix fun j4 hj4 hinj4 hej4 => zz_tld F (j := 2) (q := zst2) dX5_wornPart_17 rfl rfl hinj4 hej4 ?_
    refine zz_icmp_lt F (tgt := 23) dX5_wornPart_18 (by decide) (fun h => zz_t h ?_) (fun h => zz_f h ?_)
    · refine zz_iinc F (i := 1) (v := q1 + 1) (L' := [some (zr 0 7 i), some (zi (q1 + 1))]) dX5_wornPart_23 rfl (by first | rfl | decide) (by decide) rfl rfl ?_
      refine zz_letl (Lf := fun v5 => [some (zr 0 7 i), some (zi v5)]) fun v5 => ?_
      refine zz_goto F (tgt := 2) dX5_wornPart_26 (by decide) ?_
      exact zz_sub (zs_k (zs_k zs_z)) (h1 v5)
    · refine zz_iload_n F (i := 1) dX5_wornPart_21 rfl rfl ?_
      exact zz_ireturn F dX5_wornPart_22 rfl (h3 _)
set_option maxHeartbeats 4000000 in
set_option maxRecDepth 20000 in
theorem bfTu_wornPart {X : zX} (F : zFr X cX5_wornPart 2 RX5 (some .int)) (i : Nat) (hi : i < 8) (s0 : zM) {κ : Int32 → Option zO} (hκ : ∀ a, κ a = some ((fun a => ((.inl ((fun q => some (zi q)) a), (fun _ => [s0]) a) : zO)) a)) : zZ X [(0, [])] 0 0 2 0 [some (zr 0 7 i), none] [] [s0] (Option.bind (fTu_wornPart i s0) κ) := by
  unfold fTu_wornPart
  refine zz_iconst F (v := (0 : Int32)) dX5_wornPart_0 (by decide) ?_
  refine zz_istore_n F (i := 1) (L' := [some (zr 0 7 i), some (zi (0 : Int32))]) dX5_wornPart_1 rfl (by decide) rfl rfl ?_
  refine zz_sub (zs_k (zs_k zs_z)) ?_
  refine zz_bind ?_
  refine zz_iter (Lf := fun q1 => [some (zr 0 7 i), some (zi q1)]) (Mf := fun q1 => [s0]) (fun q1 _ e6 e7 => bfTu_wornPart_l2 F i s0 hi e6 (fun q2 => ?_) (fun r => ?_) q1) 1000 (0 : Int32)
  · rw [e7]
    dsimp only [Sum.elim_inl]
    refine zz_iconst F (v := (-1 : Int32)) dX5_wornPart_29 (by decide) ?_
    exact zz_ireturn F dX5_wornPart_30 rfl (hκ _)
  · exact (e7 _).trans (hκ _)
theorem zfTu_wornPart (i : Nat) (hi : i < 8) (s0 : zM) : ∀ a, fTu_wornPart i s0 = some a → zMet yX5_wornPart cX5_wornPart 2 (some .int) 0 0 [(0, [])] [zr 0 7 i] [s0] ((fun a => ((.inl ((fun q => some (zi q)) a), (fun _ => [s0]) a) : zO)) a) := fun a ha => zMet_of (L0 := [some (zr 0 7 i), none]) (φ := Option.bind (fTu_wornPart i s0) (fun a => some ((fun a => ((.inl ((fun q => some (zi q)) a), (fun _ => [s0]) a) : zO)) a))) (by decide) (fun _ => Nat.le_of_ble_eq_true rfl) (zl0 1 rfl) (fun X F => bfTu_wornPart F i hi s0 (fun _ => rfl)) (by rw [ha]; rfl)

theorem dX5_fault_0 : decode cX5_fault 0 = .ok (.aload_n 0, 1) := by decide +kernel
theorem dX5_fault_1 : decode cX5_fault 1 = .ok (.iconst 3, 1) := by decide +kernel
theorem dX5_fault_2 : decode cX5_fault 2 = .ok (.invokevirtual 69, 3) := by decide +kernel
theorem dX5_fault_5 : decode cX5_fault 5 = .ok (.aload_n 0, 1) := by decide +kernel
theorem dX5_fault_6 : decode cX5_fault 6 = .ok (.iload_n 1, 1) := by decide +kernel
theorem dX5_fault_7 : decode cX5_fault 7 = .ok (.putfield 18, 3) := by decide +kernel
theorem dX5_fault_10 : decode cX5_fault 10 = .ok (.return_, 1) := by decide +kernel
def fTu_fault (i : Nat) (a1 : Int32) (s0 : zM) : Option (zM) :=
  Option.bind (fTu_become i (3 : Int32) s0) fun q1 =>
  zlet (zu q1 7 i 5 a1) fun s0_2 =>
  some s0_2
set_option maxHeartbeats 4000000 in
set_option maxRecDepth 20000 in
theorem bfTu_fault {X : zX} (F : zFr X cX5_fault 2 RX5 none) (i : Nat) (a1 : Int32) (hi : i < 8) (s0 : zM) {κ : zM → Option zO} (hκ : ∀ a, κ a = some ((fun a => ((.inl ((fun _ => (none : Option zV)) a), (fun q => [q]) a) : zO)) a)) : zZ X [(0, [])] 1 21 2 0 [some (zr 0 7 i), some (zi a1)] [] [s0] (Option.bind (fTu_fault i a1 s0) κ) := by
  unfold fTu_fault
  refine zz_aload_n F (i := 0) dX5_fault_0 rfl rfl ?_
  refine zz_iconst F (v := (3 : Int32)) dX5_fault_1 (by decide) ?_
  refine zz_bind ?_
  refine zz_callVr F (ρ := [0]) (so := fun q1 => []) (Mo := fun q1 => [q1]) (zfTu_become i (3 : Int32) hi s0) dX5_fault_2 wcRX5_69 wy_yX5_become rfl ⟨rel3, rfl, rfl, Nat.le_of_ble_eq_true rfl, Nat.le_of_ble_eq_true rfl, Nat.le_of_ble_eq_true rfl⟩ (⟨zlb rfl, zlb rfl, hi⟩) rfl rfl rfl (fun _ => rfl) (fun _ => rfl) fun q1 => ?_
  refine zz_aload_n F (i := 0) dX5_fault_5 rfl rfl ?_
  refine zz_iload_n F (i := 1) dX5_fault_6 rfl rfl ?_
  refine zz_put F (Ms' := [(zu q1 7 i 5 a1)]) dX5_fault_7 wpRX5_18 zCl_5 rfl (⟨zlb rfl, zlb rfl, hi⟩) rfl (by decide) rfl rfl rfl ?_
  refine zz_letm (Mf := fun s0_2 => [s0_2]) fun s0_2 => ?_
  exact zz_return F dX5_fault_10 rfl (hκ _)
theorem zfTu_fault (i : Nat) (a1 : Int32) (hi : i < 8) (s0 : zM) : ∀ a, fTu_fault i a1 s0 = some a → zMet yX5_fault cX5_fault 2 none 1 21 [(0, [])] [zr 0 7 i, zi a1] [s0] ((fun a => ((.inl ((fun _ => (none : Option zV)) a), (fun q => [q]) a) : zO)) a) := fun a ha => zMet_of (L0 := [some (zr 0 7 i), some (zi a1)]) (φ := Option.bind (fTu_fault i a1 s0) (fun a => some ((fun a => ((.inl ((fun _ => (none : Option zV)) a), (fun q => [q]) a) : zO)) a))) (by decide) (fun _ => Nat.le_of_ble_eq_true rfl) (zl0 0 rfl) (fun X F => bfTu_fault F i a1 hi s0 (fun _ => rfl)) (by rw [ha]; rfl)

theorem dX5_mayStart_0 : decode cX5_mayStart 0 = .ok (.aload_n 0, 1) := by decide +kernel
theorem dX5_mayStart_1 : decode cX5_mayStart 1 = .ok (.getfield 15, 3) := by decide +kernel
theorem dX5_mayStart_4 : decode cX5_mayStart 4 = .ok (.iconst 2, 1) := by decide +kernel
theorem dX5_mayStart_5 : decode cX5_mayStart 5 = .ok (.if_icmp .ne 13, 3) := by decide +kernel
theorem dX5_mayStart_8 : decode cX5_mayStart 8 = .ok (.iload_n 2, 1) := by decide +kernel
theorem dX5_mayStart_9 : decode cX5_mayStart 9 = .ok (.ifCond .ne 7, 3) := by decide +kernel
theorem dX5_mayStart_12 : decode cX5_mayStart 12 = .ok (.iconst 1, 1) := by decide +kernel
theorem dX5_mayStart_13 : decode cX5_mayStart 13 = .ok (.goto 4, 3) := by decide +kernel
theorem dX5_mayStart_16 : decode cX5_mayStart 16 = .ok (.iconst 0, 1) := by decide +kernel
theorem dX5_mayStart_17 : decode cX5_mayStart 17 = .ok (.ireturn, 1) := by decide +kernel
theorem dX5_mayStart_18 : decode cX5_mayStart 18 = .ok (.aload_n 0, 1) := by decide +kernel
theorem dX5_mayStart_19 : decode cX5_mayStart 19 = .ok (.getfield 15, 3) := by decide +kernel
theorem dX5_mayStart_22 : decode cX5_mayStart 22 = .ok (.ifCond .ne 18, 3) := by decide +kernel
theorem dX5_mayStart_25 : decode cX5_mayStart 25 = .ok (.iload_n 1, 1) := by decide +kernel
theorem dX5_mayStart_26 : decode cX5_mayStart 26 = .ok (.iconst 4, 1) := by decide +kernel
theorem dX5_mayStart_27 : decode cX5_mayStart 27 = .ok (.if_icmp .lt 13, 3) := by decide +kernel
theorem dX5_mayStart_30 : decode cX5_mayStart 30 = .ok (.iload_n 1, 1) := by decide +kernel
theorem dX5_mayStart_31 : decode cX5_mayStart 31 = .ok (.bipush 22, 2) := by decide +kernel
theorem dX5_mayStart_33 : decode cX5_mayStart 33 = .ok (.if_icmp .gt 7, 3) := by decide +kernel
theorem dX5_mayStart_36 : decode cX5_mayStart 36 = .ok (.iconst 1, 1) := by decide +kernel
theorem dX5_mayStart_37 : decode cX5_mayStart 37 = .ok (.goto 4, 3) := by decide +kernel
theorem dX5_mayStart_40 : decode cX5_mayStart 40 = .ok (.iconst 0, 1) := by decide +kernel
theorem dX5_mayStart_41 : decode cX5_mayStart 41 = .ok (.ireturn, 1) := by decide +kernel
theorem wfRX5_15 : zFl RX5 15 5 4 := ⟨_, rfl, by decide, zm_f 173 (by decide +kernel) rfl⟩
def fTu_mayStart (i : Nat) (a1 : Int32) (a2 : Int32) (s0 : zM) : Option (Int32) :=
  if (s0 7 i 4) = (2 : Int32) then
  if a2 = 0 then
    some (1 : Int32)
  else
    some (0 : Int32)
else
  if (s0 7 i 4) = 0 then
    if a1 < (4 : Int32) then
      some (0 : Int32)
    else
      if (22 : Int32) < a1 then
        some (0 : Int32)
      else
        some (1 : Int32)
  else
    some (0 : Int32)
set_option maxHeartbeats 4000000 in
set_option maxRecDepth 20000 in
theorem bfTu_mayStart {X : zX} (F : zFr X cX5_mayStart 3 RX5 (some .boolean)) (i : Nat) (a1 : Int32) (a2 : Int32) (hi : i < 8) (s0 : zM) {κ : Int32 → Option zO} (hκ : ∀ a, κ a = some ((fun a => ((.inl ((fun q => some (zi q)) a), (fun _ => [s0]) a) : zO)) a)) : zZ X [(0, [])] 0 0 3 0 [some (zr 0 7 i), some (zi a1), some (zi a2)] [] [s0] (Option.bind (fTu_mayStart i a1 a2 s0) κ) := by
  unfold fTu_mayStart
  refine zz_aload_n F (i := 0) dX5_mayStart_0 rfl rfl ?_
  refine zz_getf F dX5_mayStart_1 wfRX5_15 zCl_5 rfl (⟨zlb rfl, zlb rfl, hi⟩) rfl (by decide) rfl rfl ?_
  refine zz_iconst F (v := (2 : Int32)) dX5_mayStart_4 (by decide) ?_
  refine zz_icmp_ne F (tgt := 18) dX5_mayStart_5 (by decide) (fun h => zz_f h ?_) (fun h => zz_t h ?_)
  · refine zz_aload_n F (i := 0) dX5_mayStart_18 rfl rfl ?_
    refine zz_getf F dX5_mayStart_19 wfRX5_15 zCl_5 rfl (⟨zlb rfl, zlb rfl, hi⟩) rfl (by decide) rfl rfl ?_
    refine zz_if_ne F (tgt := 40) dX5_mayStart_22 (by decide) (fun h => zz_f h ?_) (fun h => zz_t h ?_)
    · refine zz_iconst F (v := (0 : Int32)) dX5_mayStart_40 (by decide) ?_
      exact zz_zreturn F dX5_mayStart_41 rfl rfl (hκ _)
    · refine zz_iload_n F (i := 1) dX5_mayStart_25 rfl rfl ?_
      refine zz_iconst F (v := (4 : Int32)) dX5_mayStart_26 (by decide) ?_
      refine zz_icmp_lt F (tgt := 40) dX5_mayStart_27 (by decide) (fun h => zz_t h ?_) (fun h => zz_f h ?_)
      · refine zz_iconst F (v := (0 : Int32)) dX5_mayStart_40 (by decide) ?_
        exact zz_zreturn F dX5_mayStart_41 rfl rfl (hκ _)
      · refine zz_iload_n F (i := 1) dX5_mayStart_30 rfl rfl ?_
        refine zz_bipush F (v := (22 : Int32)) dX5_mayStart_31 (by decide) ?_
        refine zz_icmp_gt F (tgt := 40) dX5_mayStart_33 (by decide) (fun h => zz_t h ?_) (fun h => zz_f h ?_)
        · refine zz_iconst F (v := (0 : Int32)) dX5_mayStart_40 (by decide) ?_
          exact zz_zreturn F dX5_mayStart_41 rfl rfl (hκ _)
        · refine zz_iconst F (v := (1 : Int32)) dX5_mayStart_36 (by decide) ?_
          refine zz_goto F (tgt := 41) dX5_mayStart_37 (by decide) ?_
          exact zz_zreturn F dX5_mayStart_41 rfl rfl (hκ _)
  · refine zz_iload_n F (i := 2) dX5_mayStart_8 rfl rfl ?_
    refine zz_if_ne F (tgt := 16) dX5_mayStart_9 (by decide) (fun h => zz_f h ?_) (fun h => zz_t h ?_)
    · refine zz_iconst F (v := (0 : Int32)) dX5_mayStart_16 (by decide) ?_
      exact zz_zreturn F dX5_mayStart_17 rfl rfl (hκ _)
    · refine zz_iconst F (v := (1 : Int32)) dX5_mayStart_12 (by decide) ?_
      refine zz_goto F (tgt := 17) dX5_mayStart_13 (by decide) ?_
      exact zz_zreturn F dX5_mayStart_17 rfl rfl (hκ _)
theorem zfTu_mayStart (i : Nat) (a1 : Int32) (a2 : Int32) (hi : i < 8) (s0 : zM) : ∀ a, fTu_mayStart i a1 a2 s0 = some a → zMet yX5_mayStart cX5_mayStart 3 (some .boolean) 0 0 [(0, [])] [zr 0 7 i, zi a1, zi a2] [s0] ((fun a => ((.inl ((fun q => some (zi q)) a), (fun _ => [s0]) a) : zO)) a) := fun a ha => zMet_of (L0 := [some (zr 0 7 i), some (zi a1), some (zi a2)]) (φ := Option.bind (fTu_mayStart i a1 a2 s0) (fun a => some ((fun a => ((.inl ((fun q => some (zi q)) a), (fun _ => [s0]) a) : zO)) a))) (by decide) (fun _ => Nat.le_of_ble_eq_true rfl) (zl0 0 rfl) (fun X F => bfTu_mayStart F i a1 a2 hi s0 (fun _ => rfl)) (by rw [ha]; rfl)

theorem dX5_settle_0 : decode cX5_settle 0 = .ok (.aload_n 1, 1) := by decide +kernel
theorem dX5_settle_1 : decode cX5_settle 1 = .ok (.getfield 73, 3) := by decide +kernel
theorem dX5_settle_4 : decode cX5_settle 4 = .ok (.istore_n 3, 1) := by decide +kernel
theorem dX5_settle_5 : decode cX5_settle 5 = .ok (.aload_n 1, 1) := by decide +kernel
theorem dX5_settle_6 : decode cX5_settle 6 = .ok (.getfield 78, 3) := by decide +kernel
theorem dX5_settle_9 : decode cX5_settle 9 = .ok (.iload_n 2, 1) := by decide +kernel
theorem dX5_settle_10 : decode cX5_settle 10 = .ok (.if_icmp .ge 7, 3) := by decide +kernel
theorem dX5_settle_13 : decode cX5_settle 13 = .ok (.iconst 1, 1) := by decide +kernel
theorem dX5_settle_14 : decode cX5_settle 14 = .ok (.goto 4, 3) := by decide +kernel
theorem dX5_settle_17 : decode cX5_settle 17 = .ok (.iconst 0, 1) := by decide +kernel
theorem dX5_settle_18 : decode cX5_settle 18 = .ok (.istore 4, 2) := by decide +kernel
theorem dX5_settle_20 : decode cX5_settle 20 = .ok (.aload_n 0, 1) := by decide +kernel
theorem dX5_settle_21 : decode cX5_settle 21 = .ok (.getfield 9, 3) := by decide +kernel
theorem dX5_settle_24 : decode cX5_settle 24 = .ok (.iconst 2, 1) := by decide +kernel
theorem dX5_settle_25 : decode cX5_settle 25 = .ok (.if_icmp .ne 16, 3) := by decide +kernel
theorem dX5_settle_28 : decode cX5_settle 28 = .ok (.iload 4, 2) := by decide +kernel
theorem dX5_settle_30 : decode cX5_settle 30 = .ok (.ifCond .eq 11, 3) := by decide +kernel
theorem dX5_settle_33 : decode cX5_settle 33 = .ok (.aload_n 0, 1) := by decide +kernel
theorem dX5_settle_34 : decode cX5_settle 34 = .ok (.iconst 2, 1) := by decide +kernel
theorem dX5_settle_35 : decode cX5_settle 35 = .ok (.invokevirtual 81, 3) := by decide +kernel
theorem dX5_settle_38 : decode cX5_settle 38 = .ok (.goto 95, 3) := by decide +kernel
theorem dX5_settle_41 : decode cX5_settle 41 = .ok (.aload_n 0, 1) := by decide +kernel
theorem dX5_settle_42 : decode cX5_settle 42 = .ok (.getfield 9, 3) := by decide +kernel
theorem dX5_settle_45 : decode cX5_settle 45 = .ok (.iconst 2, 1) := by decide +kernel
theorem dX5_settle_46 : decode cX5_settle 46 = .ok (.if_icmp .ne 22, 3) := by decide +kernel
theorem dX5_settle_49 : decode cX5_settle 49 = .ok (.iload_n 3, 1) := by decide +kernel
theorem dX5_settle_50 : decode cX5_settle 50 = .ok (.iconst 3, 1) := by decide +kernel
theorem dX5_settle_51 : decode cX5_settle 51 = .ok (.if_icmp .lt 9, 3) := by decide +kernel
theorem dX5_settle_54 : decode cX5_settle 54 = .ok (.iload_n 3, 1) := by decide +kernel
theorem dX5_settle_55 : decode cX5_settle 55 = .ok (.bipush 25, 2) := by decide +kernel
theorem dX5_settle_57 : decode cX5_settle 57 = .ok (.if_icmp .le 11, 3) := by decide +kernel
theorem dX5_settle_60 : decode cX5_settle 60 = .ok (.aload_n 0, 1) := by decide +kernel
theorem dX5_settle_61 : decode cX5_settle 61 = .ok (.iconst 0, 1) := by decide +kernel
theorem dX5_settle_62 : decode cX5_settle 62 = .ok (.invokevirtual 81, 3) := by decide +kernel
theorem dX5_settle_65 : decode cX5_settle 65 = .ok (.goto 68, 3) := by decide +kernel
theorem dX5_settle_68 : decode cX5_settle 68 = .ok (.aload_n 0, 1) := by decide +kernel
theorem dX5_settle_69 : decode cX5_settle 69 = .ok (.getfield 9, 3) := by decide +kernel
theorem dX5_settle_72 : decode cX5_settle 72 = .ok (.iconst 2, 1) := by decide +kernel
theorem dX5_settle_73 : decode cX5_settle 73 = .ok (.if_icmp .ne 22, 3) := by decide +kernel
theorem dX5_settle_76 : decode cX5_settle 76 = .ok (.aload_n 0, 1) := by decide +kernel
theorem dX5_settle_77 : decode cX5_settle 77 = .ok (.invokevirtual 84, 3) := by decide +kernel
theorem dX5_settle_80 : decode cX5_settle 80 = .ok (.iconst (-1), 1) := by decide +kernel
theorem dX5_settle_81 : decode cX5_settle 81 = .ok (.if_icmp .eq 14, 3) := by decide +kernel
theorem dX5_settle_84 : decode cX5_settle 84 = .ok (.aload_n 0, 1) := by decide +kernel
theorem dX5_settle_85 : decode cX5_settle 85 = .ok (.aload_n 0, 1) := by decide +kernel
theorem dX5_settle_86 : decode cX5_settle 86 = .ok (.invokevirtual 84, 3) := by decide +kernel
theorem dX5_settle_89 : decode cX5_settle 89 = .ok (.invokevirtual 88, 3) := by decide +kernel
theorem dX5_settle_92 : decode cX5_settle 92 = .ok (.goto 41, 3) := by decide +kernel
theorem dX5_settle_95 : decode cX5_settle 95 = .ok (.aload_n 0, 1) := by decide +kernel
theorem dX5_settle_96 : decode cX5_settle 96 = .ok (.getfield 9, 3) := by decide +kernel
theorem dX5_settle_99 : decode cX5_settle 99 = .ok (.iconst 1, 1) := by decide +kernel
theorem dX5_settle_100 : decode cX5_settle 100 = .ok (.if_icmp .ne 11, 3) := by decide +kernel
theorem dX5_settle_103 : decode cX5_settle 103 = .ok (.aload_n 0, 1) := by decide +kernel
theorem dX5_settle_104 : decode cX5_settle 104 = .ok (.iconst 2, 1) := by decide +kernel
theorem dX5_settle_105 : decode cX5_settle 105 = .ok (.invokevirtual 69, 3) := by decide +kernel
theorem dX5_settle_108 : decode cX5_settle 108 = .ok (.goto 25, 3) := by decide +kernel
theorem dX5_settle_111 : decode cX5_settle 111 = .ok (.aload_n 0, 1) := by decide +kernel
theorem dX5_settle_112 : decode cX5_settle 112 = .ok (.getfield 9, 3) := by decide +kernel
theorem dX5_settle_115 : decode cX5_settle 115 = .ok (.ifCond .ne 18, 3) := by decide +kernel
theorem dX5_settle_118 : decode cX5_settle 118 = .ok (.aload_n 0, 1) := by decide +kernel
theorem dX5_settle_119 : decode cX5_settle 119 = .ok (.iload_n 3, 1) := by decide +kernel
theorem dX5_settle_120 : decode cX5_settle 120 = .ok (.iload 4, 2) := by decide +kernel
theorem dX5_settle_122 : decode cX5_settle 122 = .ok (.invokevirtual 91, 3) := by decide +kernel
theorem dX5_settle_125 : decode cX5_settle 125 = .ok (.ifCond .eq 8, 3) := by decide +kernel
theorem dX5_settle_128 : decode cX5_settle 128 = .ok (.aload_n 0, 1) := by decide +kernel
theorem dX5_settle_129 : decode cX5_settle 129 = .ok (.iconst 1, 1) := by decide +kernel
theorem dX5_settle_130 : decode cX5_settle 130 = .ok (.invokevirtual 69, 3) := by decide +kernel
theorem dX5_settle_133 : decode cX5_settle 133 = .ok (.return_, 1) := by decide +kernel
theorem wfRX5_73 : zFl RX5 73 7 1 := ⟨_, rfl, by decide, zm_f 86 (by decide +kernel) rfl⟩
theorem wfRX5_78 : zFl RX5 78 7 3 := ⟨_, rfl, by decide, zm_f 92 (by decide +kernel) rfl⟩
theorem wfRX5_9 : zFl RX5 9 5 3 := ⟨_, rfl, by decide, zm_f 170 (by decide +kernel) rfl⟩
theorem wcRX5_91 : Cond.methodLink RX5 91 yX5_mayStart ∈ zTg ∧ Cond.instanceMethod yX5_mayStart ∈ zTg ∧ Cond.selects RX5 yX5_mayStart yX5_mayStart ∈ zTg ∧ Cond.initialized RX5 ∈ zTg ∧ Cond.code yX5_mayStart cX5_mayStart 3 (some .boolean) ∈ zTg := ⟨zm_f 627 (by decide +kernel) rfl, zm_f 629 (by decide +kernel) rfl, zm_f 6 (by decide +kernel) rfl, zm_f 41 (by decide +kernel) rfl, zm_f 630 (by decide +kernel) rfl⟩
theorem wy_yX5_mayStart : yX5_mayStart.cls = RX5 ∧ yX5_mayStart.cls ≠ "java/lang/invoke/MethodHandle" ∧ yX5_mayStart.cls ≠ "java/lang/invoke/VarHandle" ∧ (parseMethodDescriptor yX5_mayStart.desc).map (fun d => d.parameters.length) = some 2 := by decide +kernel
theorem wcRX5_84 : Cond.methodLink RX5 84 yX5_wornPart ∈ zTg ∧ Cond.instanceMethod yX5_wornPart ∈ zTg ∧ Cond.selects RX5 yX5_wornPart yX5_wornPart ∈ zTg ∧ Cond.initialized RX5 ∈ zTg ∧ Cond.code yX5_wornPart cX5_wornPart 2 (some .int) ∈ zTg := ⟨zm_f 617 (by decide +kernel) rfl, zm_f 619 (by decide +kernel) rfl, zm_f 5 (by decide +kernel) rfl, zm_f 41 (by decide +kernel) rfl, zm_f 620 (by decide +kernel) rfl⟩
theorem wy_yX5_wornPart : yX5_wornPart.cls = RX5 ∧ yX5_wornPart.cls ≠ "java/lang/invoke/MethodHandle" ∧ yX5_wornPart.cls ≠ "java/lang/invoke/VarHandle" ∧ (parseMethodDescriptor yX5_wornPart.desc).map (fun d => d.parameters.length) = some 0 := by decide +kernel
theorem wcRX5_88 : Cond.methodLink RX5 88 yX5_fault ∈ zTg ∧ Cond.instanceMethod yX5_fault ∈ zTg ∧ Cond.selects RX5 yX5_fault yX5_fault ∈ zTg ∧ Cond.initialized RX5 ∈ zTg ∧ Cond.code yX5_fault cX5_fault 2 none ∈ zTg := ⟨zm_f 623 (by decide +kernel) rfl, zm_f 624 (by decide +kernel) rfl, zm_f 625 (by decide +kernel) rfl, zm_f 41 (by decide +kernel) rfl, zm_f 626 (by decide +kernel) rfl⟩
theorem wy_yX5_fault : yX5_fault.cls = RX5 ∧ yX5_fault.cls ≠ "java/lang/invoke/MethodHandle" ∧ yX5_fault.cls ≠ "java/lang/invoke/VarHandle" ∧ (parseMethodDescriptor yX5_fault.desc).map (fun d => d.parameters.length) = some 1 := by decide +kernel
theorem wcRX5_81 : Cond.methodLink RX5 81 yX5_stop ∈ zTg ∧ Cond.instanceMethod yX5_stop ∈ zTg ∧ Cond.selects RX5 yX5_stop yX5_stop ∈ zTg ∧ Cond.initialized RX5 ∈ zTg ∧ Cond.code yX5_stop cX5_stop 2 none ∈ zTg := ⟨zm_f 609 (by decide +kernel) rfl, zm_f 610 (by decide +kernel) rfl, zm_f 611 (by decide +kernel) rfl, zm_f 41 (by decide +kernel) rfl, zm_f 612 (by decide +kernel) rfl⟩
theorem wy_yX5_stop : yX5_stop.cls = RX5 ∧ yX5_stop.cls ≠ "java/lang/invoke/MethodHandle" ∧ yX5_stop.cls ≠ "java/lang/invoke/VarHandle" ∧ (parseMethodDescriptor yX5_stop.desc).map (fun d => d.parameters.length) = some 1 := by decide +kernel
def fTu_settle (i : Nat) (a2 : Int32) (s0 : zM) : Option (zM) :=
  zlet ((s0 4 0 1)) fun v1 =>
  Option.bind (if a2 ≤ (s0 4 0 3) then
  some (0 : Int32)
else
  some (1 : Int32)) fun q2 =>
  if (s0 7 i 3) = (2 : Int32) then
  if q2 = 0 then
    if (s0 7 i 3) = (2 : Int32) then
      if v1 < (3 : Int32) then
        Option.bind (fTu_stop i (0 : Int32) s0) fun q35 =>
          some q35
      else
        if v1 ≤ (25 : Int32) then
          if (s0 7 i 3) = (2 : Int32) then
            Option.bind (fTu_wornPart i s0) fun q39 =>
              if q39 = (-1 : Int32) then
              if (s0 7 i 3) = (1 : Int32) then
                Option.bind (fTu_become i (2 : Int32) s0) fun q42 =>
                  some q42
              else
                if (s0 7 i 3) = 0 then
                  Option.bind (fTu_mayStart i v1 q2 s0) fun q40 =>
                    if q40 = 0 then
                    some s0
                  else
                    Option.bind (fTu_become i (1 : Int32) s0) fun q41 =>
                      some q41
                else
                  some s0
            else
              Option.bind (fTu_wornPart i s0) fun q43 =>
                Option.bind (fTu_fault i q43 s0) fun q44 =>
                some q44
          else
            if (s0 7 i 3) = (1 : Int32) then
              Option.bind (fTu_become i (2 : Int32) s0) fun q38 =>
                some q38
            else
              if (s0 7 i 3) = 0 then
                Option.bind (fTu_mayStart i v1 q2 s0) fun q36 =>
                  if q36 = 0 then
                  some s0
                else
                  Option.bind (fTu_become i (1 : Int32) s0) fun q37 =>
                    some q37
              else
                some s0
        else
          Option.bind (fTu_stop i (0 : Int32) s0) fun q45 =>
            some q45
    else
      if (s0 7 i 3) = (2 : Int32) then
        Option.bind (fTu_wornPart i s0) fun q29 =>
          if q29 = (-1 : Int32) then
          if (s0 7 i 3) = (1 : Int32) then
            Option.bind (fTu_become i (2 : Int32) s0) fun q32 =>
              some q32
          else
            if (s0 7 i 3) = 0 then
              Option.bind (fTu_mayStart i v1 q2 s0) fun q30 =>
                if q30 = 0 then
                some s0
              else
                Option.bind (fTu_become i (1 : Int32) s0) fun q31 =>
                  some q31
            else
              some s0
        else
          Option.bind (fTu_wornPart i s0) fun q33 =>
            Option.bind (fTu_fault i q33 s0) fun q34 =>
            some q34
      else
        if (s0 7 i 3) = (1 : Int32) then
          Option.bind (fTu_become i (2 : Int32) s0) fun q28 =>
            some q28
        else
          if (s0 7 i 3) = 0 then
            Option.bind (fTu_mayStart i v1 q2 s0) fun q26 =>
              if q26 = 0 then
              some s0
            else
              Option.bind (fTu_become i (1 : Int32) s0) fun q27 =>
                some q27
          else
            some s0
  else
    Option.bind (fTu_stop i (2 : Int32) s0) fun q46 =>
      some q46
else
  if (s0 7 i 3) = (2 : Int32) then
    if v1 < (3 : Int32) then
      Option.bind (fTu_stop i (0 : Int32) s0) fun q15 =>
        some q15
    else
      if v1 ≤ (25 : Int32) then
        if (s0 7 i 3) = (2 : Int32) then
          Option.bind (fTu_wornPart i s0) fun q19 =>
            if q19 = (-1 : Int32) then
            if (s0 7 i 3) = (1 : Int32) then
              Option.bind (fTu_become i (2 : Int32) s0) fun q22 =>
                some q22
            else
              if (s0 7 i 3) = 0 then
                Option.bind (fTu_mayStart i v1 q2 s0) fun q20 =>
                  if q20 = 0 then
                  some s0
                else
                  Option.bind (fTu_become i (1 : Int32) s0) fun q21 =>
                    some q21
              else
                some s0
          else
            Option.bind (fTu_wornPart i s0) fun q23 =>
              Option.bind (fTu_fault i q23 s0) fun q24 =>
              some q24
        else
          if (s0 7 i 3) = (1 : Int32) then
            Option.bind (fTu_become i (2 : Int32) s0) fun q18 =>
              some q18
          else
            if (s0 7 i 3) = 0 then
              Option.bind (fTu_mayStart i v1 q2 s0) fun q16 =>
                if q16 = 0 then
                some s0
              else
                Option.bind (fTu_become i (1 : Int32) s0) fun q17 =>
                  some q17
            else
              some s0
      else
        Option.bind (fTu_stop i (0 : Int32) s0) fun q25 =>
          some q25
  else
    if (s0 7 i 3) = (2 : Int32) then
      Option.bind (fTu_wornPart i s0) fun q9 =>
        if q9 = (-1 : Int32) then
        if (s0 7 i 3) = (1 : Int32) then
          Option.bind (fTu_become i (2 : Int32) s0) fun q12 =>
            some q12
        else
          if (s0 7 i 3) = 0 then
            Option.bind (fTu_mayStart i v1 q2 s0) fun q10 =>
              if q10 = 0 then
              some s0
            else
              Option.bind (fTu_become i (1 : Int32) s0) fun q11 =>
                some q11
          else
            some s0
      else
        Option.bind (fTu_wornPart i s0) fun q13 =>
          Option.bind (fTu_fault i q13 s0) fun q14 =>
          some q14
    else
      if (s0 7 i 3) = (1 : Int32) then
        Option.bind (fTu_become i (2 : Int32) s0) fun q8 =>
          some q8
      else
        if (s0 7 i 3) = 0 then
          Option.bind (fTu_mayStart i v1 q2 s0) fun q6 =>
            if q6 = 0 then
            some s0
          else
            Option.bind (fTu_become i (1 : Int32) s0) fun q7 =>
              some q7
        else
          some s0
set_option maxHeartbeats 4000000 in
set_option maxRecDepth 20000 in
theorem bfTu_settle {X : zX} (F : zFr X cX5_settle 5 RX5 none) (i : Nat) (a2 : Int32) (hi : i < 8) (s0 : zM) {κ : zM → Option zO} (hκ : ∀ a, κ a = some ((fun a => ((.inl ((fun _ => (none : Option zV)) a), (fun q => [q]) a) : zO)) a)) : zZ X [(0, [])] 2 42 5 0 [some (zr 0 7 i), some (zr 0 4 0), some (zi a2), none, none] [] [s0] (Option.bind (fTu_settle i a2 s0) κ) := by
  unfold fTu_settle
  refine zz_aload_n F (i := 1) dX5_settle_0 rfl rfl ?_
  refine zz_getf F dX5_settle_1 wfRX5_73 zCl_7 rfl (⟨zlb rfl, zlb rfl, zlb rfl⟩) rfl (by decide) rfl rfl ?_
  refine zz_istore_n F (i := 3) (L' := [some (zr 0 7 i), some (zr 0 4 0), some (zi a2), some (zi (s0 4 0 1)), none]) dX5_settle_4 rfl (by decide) rfl rfl ?_
  refine zz_letl (Lf := fun v1 => [some (zr 0 7 i), some (zr 0 4 0), some (zi a2), some (zi v1), none]) fun v1 => ?_
  refine zz_aload_n F (i := 1) dX5_settle_5 rfl rfl ?_
  refine zz_getf F dX5_settle_6 wfRX5_78 zCl_7 rfl (⟨zlb rfl, zlb rfl, zlb rfl⟩) rfl (by decide) rfl rfl ?_
  refine zz_iload_n F (i := 2) dX5_settle_9 rfl rfl ?_
  refine zz_join (pj := 18) (Lj := fun q2 => [some (zr 0 7 i), none, none, some (zi v1), none]) (Sj := fun q2 => [zi q2]) (Mj := fun q2 => [s0]) (fun q2 => ?_) (fun κ4 hj3 => ?_)
  · refine zz_istore F (i := 4) (L' := [some (zr 0 7 i), none, none, some (zi v1), some (zi q2)]) dX5_settle_18 (by decide) rfl rfl ?_
    refine zz_aload_n F (i := 0) dX5_settle_20 rfl rfl ?_
    refine zz_getf F dX5_settle_21 wfRX5_9 zCl_5 rfl (⟨zlb rfl, zlb rfl, hi⟩) rfl (by decide) rfl rfl ?_
    refine zz_iconst F (v := (2 : Int32)) dX5_settle_24 (by decide) ?_
    refine zz_icmp_ne F (tgt := 41) dX5_settle_25 (by decide) (fun h => zz_f h ?_) (fun h => zz_t h ?_)
    · refine zz_aload_n F (i := 0) dX5_settle_41 rfl rfl ?_
      refine zz_getf F dX5_settle_42 wfRX5_9 zCl_5 rfl (⟨zlb rfl, zlb rfl, hi⟩) rfl (by decide) rfl rfl ?_
      refine zz_iconst F (v := (2 : Int32)) dX5_settle_45 (by decide) ?_
      refine zz_icmp_ne F (tgt := 68) dX5_settle_46 (by decide) (fun h => zz_f h ?_) (fun h => zz_t h ?_)
      · refine zz_aload_n F (i := 0) dX5_settle_68 rfl rfl ?_
        refine zz_getf F dX5_settle_69 wfRX5_9 zCl_5 rfl (⟨zlb rfl, zlb rfl, hi⟩) rfl (by decide) rfl rfl ?_
        refine zz_iconst F (v := (2 : Int32)) dX5_settle_72 (by decide) ?_
        refine zz_icmp_ne F (tgt := 95) dX5_settle_73 (by decide) (fun h => zz_f h ?_) (fun h => zz_t h ?_)
        · refine zz_aload_n F (i := 0) dX5_settle_95 rfl rfl ?_
          refine zz_getf F dX5_settle_96 wfRX5_9 zCl_5 rfl (⟨zlb rfl, zlb rfl, hi⟩) rfl (by decide) rfl rfl ?_
          refine zz_iconst F (v := (1 : Int32)) dX5_settle_99 (by decide) ?_
          refine zz_icmp_ne F (tgt := 111) dX5_settle_100 (by decide) (fun h => zz_f h ?_) (fun h => zz_t h ?_)
          · refine zz_aload_n F (i := 0) dX5_settle_111 rfl rfl ?_
            refine zz_getf F dX5_settle_112 wfRX5_9 zCl_5 rfl (⟨zlb rfl, zlb rfl, hi⟩) rfl (by decide) rfl rfl ?_
            refine zz_if_ne F (tgt := 133) dX5_settle_115 (by decide) (fun h => zz_f h ?_) (fun h => zz_t h ?_)
            · exact zz_return F dX5_settle_133 rfl (hκ _)
            · refine zz_aload_n F (i := 0) dX5_settle_118 rfl rfl ?_
              refine zz_iload_n F (i := 3) dX5_settle_119 rfl rfl ?_
              refine zz_iload F (i := 4) dX5_settle_120 rfl ?_
              refine zz_bind ?_
              refine zz_callVr F (ρ := [0]) (so := fun q6 => [zi q6]) (Mo := fun q6 => [s0]) (zfTu_mayStart i v1 q2 hi s0) dX5_settle_122 wcRX5_91 wy_yX5_mayStart rfl ⟨rel3, rfl, rfl, Nat.le_of_ble_eq_true rfl, Nat.le_of_ble_eq_true rfl, Nat.le_of_ble_eq_true rfl⟩ (⟨zlb rfl, zlb rfl, hi⟩) rfl rfl rfl (fun _ => rfl) (fun _ => rfl) fun q6 => ?_
              refine zz_if_eq F (tgt := 133) dX5_settle_125 (by decide) (fun h => zz_t h ?_) (fun h => zz_f h ?_)
              · exact zz_return F dX5_settle_133 rfl (hκ _)
              · refine zz_aload_n F (i := 0) dX5_settle_128 rfl rfl ?_
                refine zz_iconst F (v := (1 : Int32)) dX5_settle_129 (by decide) ?_
                refine zz_bind ?_
                refine zz_callVr F (ρ := [0]) (so := fun q7 => []) (Mo := fun q7 => [q7]) (zfTu_become i (1 : Int32) hi s0) dX5_settle_130 wcRX5_69 wy_yX5_become rfl ⟨rel3, rfl, rfl, Nat.le_of_ble_eq_true rfl, Nat.le_of_ble_eq_true rfl, Nat.le_of_ble_eq_true rfl⟩ (⟨zlb rfl, zlb rfl, hi⟩) rfl rfl rfl (fun _ => rfl) (fun _ => rfl) fun q7 => ?_
                exact zz_return F dX5_settle_133 rfl (hκ _)
          · refine zz_aload_n F (i := 0) dX5_settle_103 rfl rfl ?_
            refine zz_iconst F (v := (2 : Int32)) dX5_settle_104 (by decide) ?_
            refine zz_bind ?_
            refine zz_callVr F (ρ := [0]) (so := fun q8 => []) (Mo := fun q8 => [q8]) (zfTu_become i (2 : Int32) hi s0) dX5_settle_105 wcRX5_69 wy_yX5_become rfl ⟨rel3, rfl, rfl, Nat.le_of_ble_eq_true rfl, Nat.le_of_ble_eq_true rfl, Nat.le_of_ble_eq_true rfl⟩ (⟨zlb rfl, zlb rfl, hi⟩) rfl rfl rfl (fun _ => rfl) (fun _ => rfl) fun q8 => ?_
            refine zz_goto F (tgt := 133) dX5_settle_108 (by decide) ?_
            exact zz_return F dX5_settle_133 rfl (hκ _)
        · refine zz_aload_n F (i := 0) dX5_settle_76 rfl rfl ?_
          refine zz_bind ?_
          refine zz_callVr F (ρ := [0]) (so := fun q9 => [zi q9]) (Mo := fun q9 => [s0]) (zfTu_wornPart i hi s0) dX5_settle_77 wcRX5_84 wy_yX5_wornPart rfl ⟨rel3, rfl, rfl, Nat.le_of_ble_eq_true rfl, Nat.le_of_ble_eq_true rfl, Nat.le_of_ble_eq_true rfl⟩ (⟨zlb rfl, zlb rfl, hi⟩) rfl rfl rfl (fun _ => rfl) (fun _ => rfl) fun q9 => ?_
          refine zz_iconst F (v := (-1 : Int32)) dX5_settle_80 (by decide) ?_
          refine zz_icmp_eq F (tgt := 95) dX5_settle_81 (by decide) (fun h => zz_t h ?_) (fun h => zz_f h ?_)
          · refine zz_aload_n F (i := 0) dX5_settle_95 rfl rfl ?_
            refine zz_getf F dX5_settle_96 wfRX5_9 zCl_5 rfl (⟨zlb rfl, zlb rfl, hi⟩) rfl (by decide) rfl rfl ?_
            refine zz_iconst F (v := (1 : Int32)) dX5_settle_99 (by decide) ?_
            refine zz_icmp_ne F (tgt := 111) dX5_settle_100 (by decide) (fun h => zz_f h ?_) (fun h => zz_t h ?_)
            · refine zz_aload_n F (i := 0) dX5_settle_111 rfl rfl ?_
              refine zz_getf F dX5_settle_112 wfRX5_9 zCl_5 rfl (⟨zlb rfl, zlb rfl, hi⟩) rfl (by decide) rfl rfl ?_
              refine zz_if_ne F (tgt := 133) dX5_settle_115 (by decide) (fun h => zz_f h ?_) (fun h => zz_t h ?_)
              · exact zz_return F dX5_settle_133 rfl (hκ _)
              · refine zz_aload_n F (i := 0) dX5_settle_118 rfl rfl ?_
                refine zz_iload_n F (i := 3) dX5_settle_119 rfl rfl ?_
                refine zz_iload F (i := 4) dX5_settle_120 rfl ?_
                refine zz_bind ?_
                refine zz_callVr F (ρ := [0]) (so := fun q10 => [zi q10]) (Mo := fun q10 => [s0]) (zfTu_mayStart i v1 q2 hi s0) dX5_settle_122 wcRX5_91 wy_yX5_mayStart rfl ⟨rel3, rfl, rfl, Nat.le_of_ble_eq_true rfl, Nat.le_of_ble_eq_true rfl, Nat.le_of_ble_eq_true rfl⟩ (⟨zlb rfl, zlb rfl, hi⟩) rfl rfl rfl (fun _ => rfl) (fun _ => rfl) fun q10 => ?_
                refine zz_if_eq F (tgt := 133) dX5_settle_125 (by decide) (fun h => zz_t h ?_) (fun h => zz_f h ?_)
                · exact zz_return F dX5_settle_133 rfl (hκ _)
                · refine zz_aload_n F (i := 0) dX5_settle_128 rfl rfl ?_
                  refine zz_iconst F (v := (1 : Int32)) dX5_settle_129 (by decide) ?_
                  refine zz_bind ?_
                  refine zz_callVr F (ρ := [0]) (so := fun q11 => []) (Mo := fun q11 => [q11]) (zfTu_become i (1 : Int32) hi s0) dX5_settle_130 wcRX5_69 wy_yX5_become rfl ⟨rel3, rfl, rfl, Nat.le_of_ble_eq_true rfl, Nat.le_of_ble_eq_true rfl, Nat.le_of_ble_eq_true rfl⟩ (⟨zlb rfl, zlb rfl, hi⟩) rfl rfl rfl (fun _ => rfl) (fun _ => rfl) fun q11 => ?_
                  exact zz_return F dX5_settle_133 rfl (hκ _)
            · refine zz_aload_n F (i := 0) dX5_settle_103 rfl rfl ?_
              refine zz_iconst F (v := (2 : Int32)) dX5_settle_104 (by decide) ?_
              refine zz_bind ?_
              refine zz_callVr F (ρ := [0]) (so := fun q12 => []) (Mo := fun q12 => [q12]) (zfTu_become i (2 : Int32) hi s0) dX5_settle_105 wcRX5_69 wy_yX5_become rfl ⟨rel3, rfl, rfl, Nat.le_of_ble_eq_true rfl, Nat.le_of_ble_eq_true rfl, Nat.le_of_ble_eq_true rfl⟩ (⟨zlb rfl, zlb rfl, hi⟩) rfl rfl rfl (fun _ => rfl) (fun _ => rfl) fun q12 => ?_
              refine zz_goto F (tgt := 133) dX5_settle_108 (by decide) ?_
              exact zz_return F dX5_settle_133 rfl (hκ _)
          · refine zz_aload_n F (i := 0) dX5_settle_84 rfl rfl ?_
            refine zz_aload_n F (i := 0) dX5_settle_85 rfl rfl ?_
            refine zz_bind ?_
            refine zz_callVr F (ρ := [0]) (so := fun q13 => [zi q13, zr 0 7 i]) (Mo := fun q13 => [s0]) (zfTu_wornPart i hi s0) dX5_settle_86 wcRX5_84 wy_yX5_wornPart rfl ⟨rel3, rfl, rfl, Nat.le_of_ble_eq_true rfl, Nat.le_of_ble_eq_true rfl, Nat.le_of_ble_eq_true rfl⟩ (⟨zlb rfl, zlb rfl, hi⟩) rfl rfl rfl (fun _ => rfl) (fun _ => rfl) fun q13 => ?_
            refine zz_bind ?_
            refine zz_callVr F (ρ := [0]) (so := fun q14 => []) (Mo := fun q14 => [q14]) (zfTu_fault i q13 hi s0) dX5_settle_89 wcRX5_88 wy_yX5_fault rfl ⟨rel3, rfl, rfl, Nat.le_of_ble_eq_true rfl, Nat.le_of_ble_eq_true rfl, Nat.le_of_ble_eq_true rfl⟩ (⟨zlb rfl, zlb rfl, hi⟩) rfl rfl rfl (fun _ => rfl) (fun _ => rfl) fun q14 => ?_
            refine zz_goto F (tgt := 133) dX5_settle_92 (by decide) ?_
            exact zz_return F dX5_settle_133 rfl (hκ _)
      · refine zz_iload_n F (i := 3) dX5_settle_49 rfl rfl ?_
        refine zz_iconst F (v := (3 : Int32)) dX5_settle_50 (by decide) ?_
        refine zz_icmp_lt F (tgt := 60) dX5_settle_51 (by decide) (fun h => zz_t h ?_) (fun h => zz_f h ?_)
        · refine zz_aload_n F (i := 0) dX5_settle_60 rfl rfl ?_
          refine zz_iconst F (v := (0 : Int32)) dX5_settle_61 (by decide) ?_
          refine zz_bind ?_
          refine zz_callVr F (ρ := [0]) (so := fun q15 => []) (Mo := fun q15 => [q15]) (zfTu_stop i (0 : Int32) hi s0) dX5_settle_62 wcRX5_81 wy_yX5_stop rfl ⟨rel3, rfl, rfl, Nat.le_of_ble_eq_true rfl, Nat.le_of_ble_eq_true rfl, Nat.le_of_ble_eq_true rfl⟩ (⟨zlb rfl, zlb rfl, hi⟩) rfl rfl rfl (fun _ => rfl) (fun _ => rfl) fun q15 => ?_
          refine zz_goto F (tgt := 133) dX5_settle_65 (by decide) ?_
          exact zz_return F dX5_settle_133 rfl (hκ _)
        · refine zz_iload_n F (i := 3) dX5_settle_54 rfl rfl ?_
          refine zz_bipush F (v := (25 : Int32)) dX5_settle_55 (by decide) ?_
          refine zz_icmp_le F (tgt := 68) dX5_settle_57 (by decide) (fun h => zz_t h ?_) (fun h => zz_f h ?_)
          · refine zz_aload_n F (i := 0) dX5_settle_68 rfl rfl ?_
            refine zz_getf F dX5_settle_69 wfRX5_9 zCl_5 rfl (⟨zlb rfl, zlb rfl, hi⟩) rfl (by decide) rfl rfl ?_
            refine zz_iconst F (v := (2 : Int32)) dX5_settle_72 (by decide) ?_
            refine zz_icmp_ne F (tgt := 95) dX5_settle_73 (by decide) (fun h => zz_f h ?_) (fun h => zz_t h ?_)
            · refine zz_aload_n F (i := 0) dX5_settle_95 rfl rfl ?_
              refine zz_getf F dX5_settle_96 wfRX5_9 zCl_5 rfl (⟨zlb rfl, zlb rfl, hi⟩) rfl (by decide) rfl rfl ?_
              refine zz_iconst F (v := (1 : Int32)) dX5_settle_99 (by decide) ?_
              refine zz_icmp_ne F (tgt := 111) dX5_settle_100 (by decide) (fun h => zz_f h ?_) (fun h => zz_t h ?_)
              · refine zz_aload_n F (i := 0) dX5_settle_111 rfl rfl ?_
                refine zz_getf F dX5_settle_112 wfRX5_9 zCl_5 rfl (⟨zlb rfl, zlb rfl, hi⟩) rfl (by decide) rfl rfl ?_
                refine zz_if_ne F (tgt := 133) dX5_settle_115 (by decide) (fun h => zz_f h ?_) (fun h => zz_t h ?_)
                · exact zz_return F dX5_settle_133 rfl (hκ _)
                · refine zz_aload_n F (i := 0) dX5_settle_118 rfl rfl ?_
                  refine zz_iload_n F (i := 3) dX5_settle_119 rfl rfl ?_
                  refine zz_iload F (i := 4) dX5_settle_120 rfl ?_
                  refine zz_bind ?_
                  refine zz_callVr F (ρ := [0]) (so := fun q16 => [zi q16]) (Mo := fun q16 => [s0]) (zfTu_mayStart i v1 q2 hi s0) dX5_settle_122 wcRX5_91 wy_yX5_mayStart rfl ⟨rel3, rfl, rfl, Nat.le_of_ble_eq_true rfl, Nat.le_of_ble_eq_true rfl, Nat.le_of_ble_eq_true rfl⟩ (⟨zlb rfl, zlb rfl, hi⟩) rfl rfl rfl (fun _ => rfl) (fun _ => rfl) fun q16 => ?_
                  refine zz_if_eq F (tgt := 133) dX5_settle_125 (by decide) (fun h => zz_t h ?_) (fun h => zz_f h ?_)
                  · exact zz_return F dX5_settle_133 rfl (hκ _)
                  · refine zz_aload_n F (i := 0) dX5_settle_128 rfl rfl ?_
                    refine zz_iconst F (v := (1 : Int32)) dX5_settle_129 (by decide) ?_
                    refine zz_bind ?_
                    refine zz_callVr F (ρ := [0]) (so := fun q17 => []) (Mo := fun q17 => [q17]) (zfTu_become i (1 : Int32) hi s0) dX5_settle_130 wcRX5_69 wy_yX5_become rfl ⟨rel3, rfl, rfl, Nat.le_of_ble_eq_true rfl, Nat.le_of_ble_eq_true rfl, Nat.le_of_ble_eq_true rfl⟩ (⟨zlb rfl, zlb rfl, hi⟩) rfl rfl rfl (fun _ => rfl) (fun _ => rfl) fun q17 => ?_
                    exact zz_return F dX5_settle_133 rfl (hκ _)
              · refine zz_aload_n F (i := 0) dX5_settle_103 rfl rfl ?_
                refine zz_iconst F (v := (2 : Int32)) dX5_settle_104 (by decide) ?_
                refine zz_bind ?_
                refine zz_callVr F (ρ := [0]) (so := fun q18 => []) (Mo := fun q18 => [q18]) (zfTu_become i (2 : Int32) hi s0) dX5_settle_105 wcRX5_69 wy_yX5_become rfl ⟨rel3, rfl, rfl, Nat.le_of_ble_eq_true rfl, Nat.le_of_ble_eq_true rfl, Nat.le_of_ble_eq_true rfl⟩ (⟨zlb rfl, zlb rfl, hi⟩) rfl rfl rfl (fun _ => rfl) (fun _ => rfl) fun q18 => ?_
                refine zz_goto F (tgt := 133) dX5_settle_108 (by decide) ?_
                exact zz_return F dX5_settle_133 rfl (hκ _)
            · refine zz_aload_n F (i := 0) dX5_settle_76 rfl rfl ?_
              refine zz_bind ?_
              refine zz_callVr F (ρ := [0]) (so := fun q19 => [zi q19]) (Mo := fun q19 => [s0]) (zfTu_wornPart i hi s0) dX5_settle_77 wcRX5_84 wy_yX5_wornPart rfl ⟨rel3, rfl, rfl, Nat.le_of_ble_eq_true rfl, Nat.le_of_ble_eq_true rfl, Nat.le_of_ble_eq_true rfl⟩ (⟨zlb rfl, zlb rfl, hi⟩) rfl rfl rfl (fun _ => rfl) (fun _ => rfl) fun q19 => ?_
              refine zz_iconst F (v := (-1 : Int32)) dX5_settle_80 (by decide) ?_
              refine zz_icmp_eq F (tgt := 95) dX5_settle_81 (by decide) (fun h => zz_t h ?_) (fun h => zz_f h ?_)
              · refine zz_aload_n F (i := 0) dX5_settle_95 rfl rfl ?_
                refine zz_getf F dX5_settle_96 wfRX5_9 zCl_5 rfl (⟨zlb rfl, zlb rfl, hi⟩) rfl (by decide) rfl rfl ?_
                refine zz_iconst F (v := (1 : Int32)) dX5_settle_99 (by decide) ?_
                refine zz_icmp_ne F (tgt := 111) dX5_settle_100 (by decide) (fun h => zz_f h ?_) (fun h => zz_t h ?_)
                · refine zz_aload_n F (i := 0) dX5_settle_111 rfl rfl ?_
                  refine zz_getf F dX5_settle_112 wfRX5_9 zCl_5 rfl (⟨zlb rfl, zlb rfl, hi⟩) rfl (by decide) rfl rfl ?_
                  refine zz_if_ne F (tgt := 133) dX5_settle_115 (by decide) (fun h => zz_f h ?_) (fun h => zz_t h ?_)
                  · exact zz_return F dX5_settle_133 rfl (hκ _)
                  · refine zz_aload_n F (i := 0) dX5_settle_118 rfl rfl ?_
                    refine zz_iload_n F (i := 3) dX5_settle_119 rfl rfl ?_
                    refine zz_iload F (i := 4) dX5_settle_120 rfl ?_
                    refine zz_bind ?_
                    refine zz_callVr F (ρ := [0]) (so := fun q20 => [zi q20]) (Mo := fun q20 => [s0]) (zfTu_mayStart i v1 q2 hi s0) dX5_settle_122 wcRX5_91 wy_yX5_mayStart rfl ⟨rel3, rfl, rfl, Nat.le_of_ble_eq_true rfl, Nat.le_of_ble_eq_true rfl, Nat.le_of_ble_eq_true rfl⟩ (⟨zlb rfl, zlb rfl, hi⟩) rfl rfl rfl (fun _ => rfl) (fun _ => rfl) fun q20 => ?_
                    refine zz_if_eq F (tgt := 133) dX5_settle_125 (by decide) (fun h => zz_t h ?_) (fun h => zz_f h ?_)
                    · exact zz_return F dX5_settle_133 rfl (hκ _)
                    · refine zz_aload_n F (i := 0) dX5_settle_128 rfl rfl ?_
                      refine zz_iconst F (v := (1 : Int32)) dX5_settle_129 (by decide) ?_
                      refine zz_bind ?_
                      refine zz_callVr F (ρ := [0]) (so := fun q21 => []) (Mo := fun q21 => [q21]) (zfTu_become i (1 : Int32) hi s0) dX5_settle_130 wcRX5_69 wy_yX5_become rfl ⟨rel3, rfl, rfl, Nat.le_of_ble_eq_true rfl, Nat.le_of_ble_eq_true rfl, Nat.le_of_ble_eq_true rfl⟩ (⟨zlb rfl, zlb rfl, hi⟩) rfl rfl rfl (fun _ => rfl) (fun _ => rfl) fun q21 => ?_
                      exact zz_return F dX5_settle_133 rfl (hκ _)
                · refine zz_aload_n F (i := 0) dX5_settle_103 rfl rfl ?_
                  refine zz_iconst F (v := (2 : Int32)) dX5_settle_104 (by decide) ?_
                  refine zz_bind ?_
                  refine zz_callVr F (ρ := [0]) (so := fun q22 => []) (Mo := fun q22 => [q22]) (zfTu_become i (2 : Int32) hi s0) dX5_settle_105 wcRX5_69 wy_yX5_become rfl ⟨rel3, rfl, rfl, Nat.le_of_ble_eq_true rfl, Nat.le_of_ble_eq_true rfl, Nat.le_of_ble_eq_true rfl⟩ (⟨zlb rfl, zlb rfl, hi⟩) rfl rfl rfl (fun _ => rfl) (fun _ => rfl) fun q22 => ?_
                  refine zz_goto F (tgt := 133) dX5_settle_108 (by decide) ?_
                  exact zz_return F dX5_settle_133 rfl (hκ _)
              · refine zz_aload_n F (i := 0) dX5_settle_84 rfl rfl ?_
                refine zz_aload_n F (i := 0) dX5_settle_85 rfl rfl ?_
                refine zz_bind ?_
                refine zz_callVr F (ρ := [0]) (so := fun q23 => [zi q23, zr 0 7 i]) (Mo := fun q23 => [s0]) (zfTu_wornPart i hi s0) dX5_settle_86 wcRX5_84 wy_yX5_wornPart rfl ⟨rel3, rfl, rfl, Nat.le_of_ble_eq_true rfl, Nat.le_of_ble_eq_true rfl, Nat.le_of_ble_eq_true rfl⟩ (⟨zlb rfl, zlb rfl, hi⟩) rfl rfl rfl (fun _ => rfl) (fun _ => rfl) fun q23 => ?_
                refine zz_bind ?_
                refine zz_callVr F (ρ := [0]) (so := fun q24 => []) (Mo := fun q24 => [q24]) (zfTu_fault i q23 hi s0) dX5_settle_89 wcRX5_88 wy_yX5_fault rfl ⟨rel3, rfl, rfl, Nat.le_of_ble_eq_true rfl, Nat.le_of_ble_eq_true rfl, Nat.le_of_ble_eq_true rfl⟩ (⟨zlb rfl, zlb rfl, hi⟩) rfl rfl rfl (fun _ => rfl) (fun _ => rfl) fun q24 => ?_
                refine zz_goto F (tgt := 133) dX5_settle_92 (by decide) ?_
                exact zz_return F dX5_settle_133 rfl (hκ _)
          · refine zz_aload_n F (i := 0) dX5_settle_60 rfl rfl ?_
            refine zz_iconst F (v := (0 : Int32)) dX5_settle_61 (by decide) ?_
            refine zz_bind ?_
            refine zz_callVr F (ρ := [0]) (so := fun q25 => []) (Mo := fun q25 => [q25]) (zfTu_stop i (0 : Int32) hi s0) dX5_settle_62 wcRX5_81 wy_yX5_stop rfl ⟨rel3, rfl, rfl, Nat.le_of_ble_eq_true rfl, Nat.le_of_ble_eq_true rfl, Nat.le_of_ble_eq_true rfl⟩ (⟨zlb rfl, zlb rfl, hi⟩) rfl rfl rfl (fun _ => rfl) (fun _ => rfl) fun q25 => ?_
            refine zz_goto F (tgt := 133) dX5_settle_65 (by decide) ?_
            exact zz_return F dX5_settle_133 rfl (hκ _)
    · refine zz_iload F (i := 4) dX5_settle_28 rfl ?_
      refine zz_if_eq F (tgt := 41) dX5_settle_30 (by decide) (fun h => zz_t h ?_) (fun h => zz_f h ?_)
      · refine zz_aload_n F (i := 0) dX5_settle_41 rfl rfl ?_
        refine zz_getf F dX5_settle_42 wfRX5_9 zCl_5 rfl (⟨zlb rfl, zlb rfl, hi⟩) rfl (by decide) rfl rfl ?_
        refine zz_iconst F (v := (2 : Int32)) dX5_settle_45 (by decide) ?_
        refine zz_icmp_ne F (tgt := 68) dX5_settle_46 (by decide) (fun h => zz_f h ?_) (fun h => zz_t h ?_)
        · refine zz_aload_n F (i := 0) dX5_settle_68 rfl rfl ?_
          refine zz_getf F dX5_settle_69 wfRX5_9 zCl_5 rfl (⟨zlb rfl, zlb rfl, hi⟩) rfl (by decide) rfl rfl ?_
          refine zz_iconst F (v := (2 : Int32)) dX5_settle_72 (by decide) ?_
          refine zz_icmp_ne F (tgt := 95) dX5_settle_73 (by decide) (fun h => zz_f h ?_) (fun h => zz_t h ?_)
          · refine zz_aload_n F (i := 0) dX5_settle_95 rfl rfl ?_
            refine zz_getf F dX5_settle_96 wfRX5_9 zCl_5 rfl (⟨zlb rfl, zlb rfl, hi⟩) rfl (by decide) rfl rfl ?_
            refine zz_iconst F (v := (1 : Int32)) dX5_settle_99 (by decide) ?_
            refine zz_icmp_ne F (tgt := 111) dX5_settle_100 (by decide) (fun h => zz_f h ?_) (fun h => zz_t h ?_)
            · refine zz_aload_n F (i := 0) dX5_settle_111 rfl rfl ?_
              refine zz_getf F dX5_settle_112 wfRX5_9 zCl_5 rfl (⟨zlb rfl, zlb rfl, hi⟩) rfl (by decide) rfl rfl ?_
              refine zz_if_ne F (tgt := 133) dX5_settle_115 (by decide) (fun h => zz_f h ?_) (fun h => zz_t h ?_)
              · exact zz_return F dX5_settle_133 rfl (hκ _)
              · refine zz_aload_n F (i := 0) dX5_settle_118 rfl rfl ?_
                refine zz_iload_n F (i := 3) dX5_settle_119 rfl rfl ?_
                refine zz_iload F (i := 4) dX5_settle_120 rfl ?_
                refine zz_bind ?_
                refine zz_callVr F (ρ := [0]) (so := fun q26 => [zi q26]) (Mo := fun q26 => [s0]) (zfTu_mayStart i v1 q2 hi s0) dX5_settle_122 wcRX5_91 wy_yX5_mayStart rfl ⟨rel3, rfl, rfl, Nat.le_of_ble_eq_true rfl, Nat.le_of_ble_eq_true rfl, Nat.le_of_ble_eq_true rfl⟩ (⟨zlb rfl, zlb rfl, hi⟩) rfl rfl rfl (fun _ => rfl) (fun _ => rfl) fun q26 => ?_
                refine zz_if_eq F (tgt := 133) dX5_settle_125 (by decide) (fun h => zz_t h ?_) (fun h => zz_f h ?_)
                · exact zz_return F dX5_settle_133 rfl (hκ _)
                · refine zz_aload_n F (i := 0) dX5_settle_128 rfl rfl ?_
                  refine zz_iconst F (v := (1 : Int32)) dX5_settle_129 (by decide) ?_
                  refine zz_bind ?_
                  refine zz_callVr F (ρ := [0]) (so := fun q27 => []) (Mo := fun q27 => [q27]) (zfTu_become i (1 : Int32) hi s0) dX5_settle_130 wcRX5_69 wy_yX5_become rfl ⟨rel3, rfl, rfl, Nat.le_of_ble_eq_true rfl, Nat.le_of_ble_eq_true rfl, Nat.le_of_ble_eq_true rfl⟩ (⟨zlb rfl, zlb rfl, hi⟩) rfl rfl rfl (fun _ => rfl) (fun _ => rfl) fun q27 => ?_
                  exact zz_return F dX5_settle_133 rfl (hκ _)
            · refine zz_aload_n F (i := 0) dX5_settle_103 rfl rfl ?_
              refine zz_iconst F (v := (2 : Int32)) dX5_settle_104 (by decide) ?_
              refine zz_bind ?_
              refine zz_callVr F (ρ := [0]) (so := fun q28 => []) (Mo := fun q28 => [q28]) (zfTu_become i (2 : Int32) hi s0) dX5_settle_105 wcRX5_69 wy_yX5_become rfl ⟨rel3, rfl, rfl, Nat.le_of_ble_eq_true rfl, Nat.le_of_ble_eq_true rfl, Nat.le_of_ble_eq_true rfl⟩ (⟨zlb rfl, zlb rfl, hi⟩) rfl rfl rfl (fun _ => rfl) (fun _ => rfl) fun q28 => ?_
              refine zz_goto F (tgt := 133) dX5_settle_108 (by decide) ?_
              exact zz_return F dX5_settle_133 rfl (hκ _)
          · refine zz_aload_n F (i := 0) dX5_settle_76 rfl rfl ?_
            refine zz_bind ?_
            refine zz_callVr F (ρ := [0]) (so := fun q29 => [zi q29]) (Mo := fun q29 => [s0]) (zfTu_wornPart i hi s0) dX5_settle_77 wcRX5_84 wy_yX5_wornPart rfl ⟨rel3, rfl, rfl, Nat.le_of_ble_eq_true rfl, Nat.le_of_ble_eq_true rfl, Nat.le_of_ble_eq_true rfl⟩ (⟨zlb rfl, zlb rfl, hi⟩) rfl rfl rfl (fun _ => rfl) (fun _ => rfl) fun q29 => ?_
            refine zz_iconst F (v := (-1 : Int32)) dX5_settle_80 (by decide) ?_
            refine zz_icmp_eq F (tgt := 95) dX5_settle_81 (by decide) (fun h => zz_t h ?_) (fun h => zz_f h ?_)
            · refine zz_aload_n F (i := 0) dX5_settle_95 rfl rfl ?_
              refine zz_getf F dX5_settle_96 wfRX5_9 zCl_5 rfl (⟨zlb rfl, zlb rfl, hi⟩) rfl (by decide) rfl rfl ?_
              refine zz_iconst F (v := (1 : Int32)) dX5_settle_99 (by decide) ?_
              refine zz_icmp_ne F (tgt := 111) dX5_settle_100 (by decide) (fun h => zz_f h ?_) (fun h => zz_t h ?_)
              · refine zz_aload_n F (i := 0) dX5_settle_111 rfl rfl ?_
                refine zz_getf F dX5_settle_112 wfRX5_9 zCl_5 rfl (⟨zlb rfl, zlb rfl, hi⟩) rfl (by decide) rfl rfl ?_
                refine zz_if_ne F (tgt := 133) dX5_settle_115 (by decide) (fun h => zz_f h ?_) (fun h => zz_t h ?_)
                · exact zz_return F dX5_settle_133 rfl (hκ _)
                · refine zz_aload_n F (i := 0) dX5_settle_118 rfl rfl ?_
                  refine zz_iload_n F (i := 3) dX5_settle_119 rfl rfl ?_
                  refine zz_iload F (i := 4) dX5_settle_120 rfl ?_
                  refine zz_bind ?_
                  refine zz_callVr F (ρ := [0]) (so := fun q30 => [zi q30]) (Mo := fun q30 => [s0]) (zfTu_mayStart i v1 q2 hi s0) dX5_settle_122 wcRX5_91 wy_yX5_mayStart rfl ⟨rel3, rfl, rfl, Nat.le_of_ble_eq_true rfl, Nat.le_of_ble_eq_true rfl, Nat.le_of_ble_eq_true rfl⟩ (⟨zlb rfl, zlb rfl, hi⟩) rfl rfl rfl (fun _ => rfl) (fun _ => rfl) fun q30 => ?_
                  refine zz_if_eq F (tgt := 133) dX5_settle_125 (by decide) (fun h => zz_t h ?_) (fun h => zz_f h ?_)
                  · exact zz_return F dX5_settle_133 rfl (hκ _)
                  · refine zz_aload_n F (i := 0) dX5_settle_128 rfl rfl ?_
                    refine zz_iconst F (v := (1 : Int32)) dX5_settle_129 (by decide) ?_
                    refine zz_bind ?_
                    refine zz_callVr F (ρ := [0]) (so := fun q31 => []) (Mo := fun q31 => [q31]) (zfTu_become i (1 : Int32) hi s0) dX5_settle_130 wcRX5_69 wy_yX5_become rfl ⟨rel3, rfl, rfl, Nat.le_of_ble_eq_true rfl, Nat.le_of_ble_eq_true rfl, Nat.le_of_ble_eq_true rfl⟩ (⟨zlb rfl, zlb rfl, hi⟩) rfl rfl rfl (fun _ => rfl) (fun _ => rfl) fun q31 => ?_
                    exact zz_return F dX5_settle_133 rfl (hκ _)
              · refine zz_aload_n F (i := 0) dX5_settle_103 rfl rfl ?_
                refine zz_iconst F (v := (2 : Int32)) dX5_settle_104 (by decide) ?_
                refine zz_bind ?_
                refine zz_callVr F (ρ := [0]) (so := fun q32 => []) (Mo := fun q32 => [q32]) (zfTu_become i (2 : Int32) hi s0) dX5_settle_105 wcRX5_69 wy_yX5_become rfl ⟨rel3, rfl, rfl, Nat.le_of_ble_eq_true rfl, Nat.le_of_ble_eq_true rfl, Nat.le_of_ble_eq_true rfl⟩ (⟨zlb rfl, zlb rfl, hi⟩) rfl rfl rfl (fun _ => rfl) (fun _ => rfl) fun q32 => ?_
                refine zz_goto F (tgt := 133) dX5_settle_108 (by decide) ?_
                exact zz_return F dX5_settle_133 rfl (hκ _)
            · refine zz_aload_n F (i := 0) dX5_settle_84 rfl rfl ?_
              refine zz_aload_n F (i := 0) dX5_settle_85 rfl rfl ?_
              refine zz_bind ?_
              refine zz_callVr F (ρ := [0]) (so := fun q33 => [zi q33, zr 0 7 i]) (Mo := fun q33 => [s0]) (zfTu_wornPart i hi s0) dX5_settle_86 wcRX5_84 wy_yX5_wornPart rfl ⟨rel3, rfl, rfl, Nat.le_of_ble_eq_true rfl, Nat.le_of_ble_eq_true rfl, Nat.le_of_ble_eq_true rfl⟩ (⟨zlb rfl, zlb rfl, hi⟩) rfl rfl rfl (fun _ => rfl) (fun _ => rfl) fun q33 => ?_
              refine zz_bind ?_
              refine zz_callVr F (ρ := [0]) (so := fun q34 => []) (Mo := fun q34 => [q34]) (zfTu_fault i q33 hi s0) dX5_settle_89 wcRX5_88 wy_yX5_fault rfl ⟨rel3, rfl, rfl, Nat.le_of_ble_eq_true rfl, Nat.le_of_ble_eq_true rfl, Nat.le_of_ble_eq_true rfl⟩ (⟨zlb rfl, zlb rfl, hi⟩) rfl rfl rfl (fun _ => rfl) (fun _ => rfl) fun q34 => ?_
              refine zz_goto F (tgt := 133) dX5_settle_92 (by decide) ?_
              exact zz_return F dX5_settle_133 rfl (hκ _)
        · refine zz_iload_n F (i := 3) dX5_settle_49 rfl rfl ?_
          refine zz_iconst F (v := (3 : Int32)) dX5_settle_50 (by decide) ?_
          refine zz_icmp_lt F (tgt := 60) dX5_settle_51 (by decide) (fun h => zz_t h ?_) (fun h => zz_f h ?_)
          · refine zz_aload_n F (i := 0) dX5_settle_60 rfl rfl ?_
            refine zz_iconst F (v := (0 : Int32)) dX5_settle_61 (by decide) ?_
            refine zz_bind ?_
            refine zz_callVr F (ρ := [0]) (so := fun q35 => []) (Mo := fun q35 => [q35]) (zfTu_stop i (0 : Int32) hi s0) dX5_settle_62 wcRX5_81 wy_yX5_stop rfl ⟨rel3, rfl, rfl, Nat.le_of_ble_eq_true rfl, Nat.le_of_ble_eq_true rfl, Nat.le_of_ble_eq_true rfl⟩ (⟨zlb rfl, zlb rfl, hi⟩) rfl rfl rfl (fun _ => rfl) (fun _ => rfl) fun q35 => ?_
            refine zz_goto F (tgt := 133) dX5_settle_65 (by decide) ?_
            exact zz_return F dX5_settle_133 rfl (hκ _)
          · refine zz_iload_n F (i := 3) dX5_settle_54 rfl rfl ?_
            refine zz_bipush F (v := (25 : Int32)) dX5_settle_55 (by decide) ?_
            refine zz_icmp_le F (tgt := 68) dX5_settle_57 (by decide) (fun h => zz_t h ?_) (fun h => zz_f h ?_)
            · refine zz_aload_n F (i := 0) dX5_settle_68 rfl rfl ?_
              refine zz_getf F dX5_settle_69 wfRX5_9 zCl_5 rfl (⟨zlb rfl, zlb rfl, hi⟩) rfl (by decide) rfl rfl ?_
              refine zz_iconst F (v := (2 : Int32)) dX5_settle_72 (by decide) ?_
              refine zz_icmp_ne F (tgt := 95) dX5_settle_73 (by decide) (fun h => zz_f h ?_) (fun h => zz_t h ?_)
              · refine zz_aload_n F (i := 0) dX5_settle_95 rfl rfl ?_
                refine zz_getf F dX5_settle_96 wfRX5_9 zCl_5 rfl (⟨zlb rfl, zlb rfl, hi⟩) rfl (by decide) rfl rfl ?_
                refine zz_iconst F (v := (1 : Int32)) dX5_settle_99 (by decide) ?_
                refine zz_icmp_ne F (tgt := 111) dX5_settle_100 (by decide) (fun h => zz_f h ?_) (fun h => zz_t h ?_)
                · refine zz_aload_n F (i := 0) dX5_settle_111 rfl rfl ?_
                  refine zz_getf F dX5_settle_112 wfRX5_9 zCl_5 rfl (⟨zlb rfl, zlb rfl, hi⟩) rfl (by decide) rfl rfl ?_
                  refine zz_if_ne F (tgt := 133) dX5_settle_115 (by decide) (fun h => zz_f h ?_) (fun h => zz_t h ?_)
                  · exact zz_return F dX5_settle_133 rfl (hκ _)
                  · refine zz_aload_n F (i := 0) dX5_settle_118 rfl rfl ?_
                    refine zz_iload_n F (i := 3) dX5_settle_119 rfl rfl ?_
                    refine zz_iload F (i := 4) dX5_settle_120 rfl ?_
                    refine zz_bind ?_
                    refine zz_callVr F (ρ := [0]) (so := fun q36 => [zi q36]) (Mo := fun q36 => [s0]) (zfTu_mayStart i v1 q2 hi s0) dX5_settle_122 wcRX5_91 wy_yX5_mayStart rfl ⟨rel3, rfl, rfl, Nat.le_of_ble_eq_true rfl, Nat.le_of_ble_eq_true rfl, Nat.le_of_ble_eq_true rfl⟩ (⟨zlb rfl, zlb rfl, hi⟩) rfl rfl rfl (fun _ => rfl) (fun _ => rfl) fun q36 => ?_
                    refine zz_if_eq F (tgt := 133) dX5_settle_125 (by decide) (fun h => zz_t h ?_) (fun h => zz_f h ?_)
                    · exact zz_return F dX5_settle_133 rfl (hκ _)
                    · refine zz_aload_n F (i := 0) dX5_settle_128 rfl rfl ?_
                      refine zz_iconst F (v := (1 : Int32)) dX5_settle_129 (by decide) ?_
                      refine zz_bind ?_
                      refine zz_callVr F (ρ := [0]) (so := fun q37 => []) (Mo := fun q37 => [q37]) (zfTu_become i (1 : Int32) hi s0) dX5_settle_130 wcRX5_69 wy_yX5_become rfl ⟨rel3, rfl, rfl, Nat.le_of_ble_eq_true rfl, Nat.le_of_ble_eq_true rfl, Nat.le_of_ble_eq_true rfl⟩ (⟨zlb rfl, zlb rfl, hi⟩) rfl rfl rfl (fun _ => rfl) (fun _ => rfl) fun q37 => ?_
                      exact zz_return F dX5_settle_133 rfl (hκ _)
                · refine zz_aload_n F (i := 0) dX5_settle_103 rfl rfl ?_
                  refine zz_iconst F (v := (2 : Int32)) dX5_settle_104 (by decide) ?_
                  refine zz_bind ?_
                  refine zz_callVr F (ρ := [0]) (so := fun q38 => []) (Mo := fun q38 => [q38]) (zfTu_become i (2 : Int32) hi s0) dX5_settle_105 wcRX5_69 wy_yX5_become rfl ⟨rel3, rfl, rfl, Nat.le_of_ble_eq_true rfl, Nat.le_of_ble_eq_true rfl, Nat.le_of_ble_eq_true rfl⟩ (⟨zlb rfl, zlb rfl, hi⟩) rfl rfl rfl (fun _ => rfl) (fun _ => rfl) fun q38 => ?_
                  refine zz_goto F (tgt := 133) dX5_settle_108 (by decide) ?_
                  exact zz_return F dX5_settle_133 rfl (hκ _)
              · refine zz_aload_n F (i := 0) dX5_settle_76 rfl rfl ?_
                refine zz_bind ?_
                refine zz_callVr F (ρ := [0]) (so := fun q39 => [zi q39]) (Mo := fun q39 => [s0]) (zfTu_wornPart i hi s0) dX5_settle_77 wcRX5_84 wy_yX5_wornPart rfl ⟨rel3, rfl, rfl, Nat.le_of_ble_eq_true rfl, Nat.le_of_ble_eq_true rfl, Nat.le_of_ble_eq_true rfl⟩ (⟨zlb rfl, zlb rfl, hi⟩) rfl rfl rfl (fun _ => rfl) (fun _ => rfl) fun q39 => ?_
                refine zz_iconst F (v := (-1 : Int32)) dX5_settle_80 (by decide) ?_
                refine zz_icmp_eq F (tgt := 95) dX5_settle_81 (by decide) (fun h => zz_t h ?_) (fun h => zz_f h ?_)
                · refine zz_aload_n F (i := 0) dX5_settle_95 rfl rfl ?_
                  refine zz_getf F dX5_settle_96 wfRX5_9 zCl_5 rfl (⟨zlb rfl, zlb rfl, hi⟩) rfl (by decide) rfl rfl ?_
                  refine zz_iconst F (v := (1 : Int32)) dX5_settle_99 (by decide) ?_
                  refine zz_icmp_ne F (tgt := 111) dX5_settle_100 (by decide) (fun h => zz_f h ?_) (fun h => zz_t h ?_)
                  · refine zz_aload_n F (i := 0) dX5_settle_111 rfl rfl ?_
                    refine zz_getf F dX5_settle_112 wfRX5_9 zCl_5 rfl (⟨zlb rfl, zlb rfl, hi⟩) rfl (by decide) rfl rfl ?_
                    refine zz_if_ne F (tgt := 133) dX5_settle_115 (by decide) (fun h => zz_f h ?_) (fun h => zz_t h ?_)
                    · exact zz_return F dX5_settle_133 rfl (hκ _)
                    · refine zz_aload_n F (i := 0) dX5_settle_118 rfl rfl ?_
                      refine zz_iload_n F (i := 3) dX5_settle_119 rfl rfl ?_
                      refine zz_iload F (i := 4) dX5_settle_120 rfl ?_
                      refine zz_bind ?_
                      refine zz_callVr F (ρ := [0]) (so := fun q40 => [zi q40]) (Mo := fun q40 => [s0]) (zfTu_mayStart i v1 q2 hi s0) dX5_settle_122 wcRX5_91 wy_yX5_mayStart rfl ⟨rel3, rfl, rfl, Nat.le_of_ble_eq_true rfl, Nat.le_of_ble_eq_true rfl, Nat.le_of_ble_eq_true rfl⟩ (⟨zlb rfl, zlb rfl, hi⟩) rfl rfl rfl (fun _ => rfl) (fun _ => rfl) fun q40 => ?_
                      refine zz_if_eq F (tgt := 133) dX5_settle_125 (by decide) (fun h => zz_t h ?_) (fun h => zz_f h ?_)
                      · exact zz_return F dX5_settle_133 rfl (hκ _)
                      · refine zz_aload_n F (i := 0) dX5_settle_128 rfl rfl ?_
                        refine zz_iconst F (v := (1 : Int32)) dX5_settle_129 (by decide) ?_
                        refine zz_bind ?_
                        refine zz_callVr F (ρ := [0]) (so := fun q41 => []) (Mo := fun q41 => [q41]) (zfTu_become i (1 : Int32) hi s0) dX5_settle_130 wcRX5_69 wy_yX5_become rfl ⟨rel3, rfl, rfl, Nat.le_of_ble_eq_true rfl, Nat.le_of_ble_eq_true rfl, Nat.le_of_ble_eq_true rfl⟩ (⟨zlb rfl, zlb rfl, hi⟩) rfl rfl rfl (fun _ => rfl) (fun _ => rfl) fun q41 => ?_
                        exact zz_return F dX5_settle_133 rfl (hκ _)
                  · refine zz_aload_n F (i := 0) dX5_settle_103 rfl rfl ?_
                    refine zz_iconst F (v := (2 : Int32)) dX5_settle_104 (by decide) ?_
                    refine zz_bind ?_
                    refine zz_callVr F (ρ := [0]) (so := fun q42 => []) (Mo := fun q42 => [q42]) (zfTu_become i (2 : Int32) hi s0) dX5_settle_105 wcRX5_69 wy_yX5_become rfl ⟨rel3, rfl, rfl, Nat.le_of_ble_eq_true rfl, Nat.le_of_ble_eq_true rfl, Nat.le_of_ble_eq_true rfl⟩ (⟨zlb rfl, zlb rfl, hi⟩) rfl rfl rfl (fun _ => rfl) (fun _ => rfl) fun q42 => ?_
                    refine zz_goto F (tgt := 133) dX5_settle_108 (by decide) ?_
                    exact zz_return F dX5_settle_133 rfl (hκ _)
                · refine zz_aload_n F (i := 0) dX5_settle_84 rfl rfl ?_
                  refine zz_aload_n F (i := 0) dX5_settle_85 rfl rfl ?_
                  refine zz_bind ?_
                  refine zz_callVr F (ρ := [0]) (so := fun q43 => [zi q43, zr 0 7 i]) (Mo := fun q43 => [s0]) (zfTu_wornPart i hi s0) dX5_settle_86 wcRX5_84 wy_yX5_wornPart rfl ⟨rel3, rfl, rfl, Nat.le_of_ble_eq_true rfl, Nat.le_of_ble_eq_true rfl, Nat.le_of_ble_eq_true rfl⟩ (⟨zlb rfl, zlb rfl, hi⟩) rfl rfl rfl (fun _ => rfl) (fun _ => rfl) fun q43 => ?_
                  refine zz_bind ?_
                  refine zz_callVr F (ρ := [0]) (so := fun q44 => []) (Mo := fun q44 => [q44]) (zfTu_fault i q43 hi s0) dX5_settle_89 wcRX5_88 wy_yX5_fault rfl ⟨rel3, rfl, rfl, Nat.le_of_ble_eq_true rfl, Nat.le_of_ble_eq_true rfl, Nat.le_of_ble_eq_true rfl⟩ (⟨zlb rfl, zlb rfl, hi⟩) rfl rfl rfl (fun _ => rfl) (fun _ => rfl) fun q44 => ?_
                  refine zz_goto F (tgt := 133) dX5_settle_92 (by decide) ?_
                  exact zz_return F dX5_settle_133 rfl (hκ _)
            · refine zz_aload_n F (i := 0) dX5_settle_60 rfl rfl ?_
              refine zz_iconst F (v := (0 : Int32)) dX5_settle_61 (by decide) ?_
              refine zz_bind ?_
              refine zz_callVr F (ρ := [0]) (so := fun q45 => []) (Mo := fun q45 => [q45]) (zfTu_stop i (0 : Int32) hi s0) dX5_settle_62 wcRX5_81 wy_yX5_stop rfl ⟨rel3, rfl, rfl, Nat.le_of_ble_eq_true rfl, Nat.le_of_ble_eq_true rfl, Nat.le_of_ble_eq_true rfl⟩ (⟨zlb rfl, zlb rfl, hi⟩) rfl rfl rfl (fun _ => rfl) (fun _ => rfl) fun q45 => ?_
              refine zz_goto F (tgt := 133) dX5_settle_65 (by decide) ?_
              exact zz_return F dX5_settle_133 rfl (hκ _)
      · refine zz_aload_n F (i := 0) dX5_settle_33 rfl rfl ?_
        refine zz_iconst F (v := (2 : Int32)) dX5_settle_34 (by decide) ?_
        refine zz_bind ?_
        refine zz_callVr F (ρ := [0]) (so := fun q46 => []) (Mo := fun q46 => [q46]) (zfTu_stop i (2 : Int32) hi s0) dX5_settle_35 wcRX5_81 wy_yX5_stop rfl ⟨rel3, rfl, rfl, Nat.le_of_ble_eq_true rfl, Nat.le_of_ble_eq_true rfl, Nat.le_of_ble_eq_true rfl⟩ (⟨zlb rfl, zlb rfl, hi⟩) rfl rfl rfl (fun _ => rfl) (fun _ => rfl) fun q46 => ?_
        refine zz_goto F (tgt := 133) dX5_settle_38 (by decide) ?_
        exact zz_return F dX5_settle_133 rfl (hκ _)
  · refine zz_icmp_ge F (tgt := 17) dX5_settle_10 (by decide) (fun h => zz_t h ?_) (fun h => zz_f h ?_)
    · refine zz_iconst F (v := (0 : Int32)) dX5_settle_17 (by decide) ?_
      exact zz_sub (zs_k (zs_n (zs_n (zs_k (zs_k zs_z))))) (hj3 (0 : Int32))
    · refine zz_iconst F (v := (1 : Int32)) dX5_settle_13 (by decide) ?_
      refine zz_goto F (tgt := 18) dX5_settle_14 (by decide) ?_
      exact zz_sub (zs_k (zs_n (zs_n (zs_k (zs_k zs_z))))) (hj3 (1 : Int32))
theorem zfTu_settle (i : Nat) (a2 : Int32) (hi : i < 8) (s0 : zM) : ∀ a, fTu_settle i a2 s0 = some a → zMet yX5_settle cX5_settle 5 none 2 42 [(0, [])] [zr 0 7 i, zr 0 4 0, zi a2] [s0] ((fun a => ((.inl ((fun _ => (none : Option zV)) a), (fun q => [q]) a) : zO)) a) := fun a ha => zMet_of (L0 := [some (zr 0 7 i), some (zr 0 4 0), some (zi a2), none, none]) (φ := Option.bind (fTu_settle i a2 s0) (fun a => some ((fun a => ((.inl ((fun _ => (none : Option zV)) a), (fun q => [q]) a) : zO)) a))) (by decide) (fun _ => Nat.le_of_ble_eq_true rfl) (zl0 2 rfl) (fun X F => bfTu_settle F i a2 hi s0 (fun _ => rfl)) (by rw [ha]; rfl)

theorem dX7_power_0 : decode cX7_power 0 = .ok (.iload_n 0, 1) := by decide +kernel
theorem dX7_power_1 : decode cX7_power 1 = .ok (.iconst 4, 1) := by decide +kernel
theorem dX7_power_2 : decode cX7_power 2 = .ok (.if_icmp .lt 9, 3) := by decide +kernel
theorem dX7_power_5 : decode cX7_power 5 = .ok (.iload_n 0, 1) := by decide +kernel
theorem dX7_power_6 : decode cX7_power 6 = .ok (.bipush 25, 2) := by decide +kernel
theorem dX7_power_8 : decode cX7_power 8 = .ok (.if_icmp .le 5, 3) := by decide +kernel
theorem dX7_power_11 : decode cX7_power 11 = .ok (.iconst 0, 1) := by decide +kernel
theorem dX7_power_12 : decode cX7_power 12 = .ok (.ireturn, 1) := by decide +kernel
theorem dX7_power_13 : decode cX7_power 13 = .ok (.sipush 2000, 3) := by decide +kernel
theorem dX7_power_16 : decode cX7_power 16 = .ok (.iload_n 0, 1) := by decide +kernel
theorem dX7_power_17 : decode cX7_power 17 = .ok (.iload_n 0, 1) := by decide +kernel
theorem dX7_power_18 : decode cX7_power 18 = .ok (.imul, 1) := by decide +kernel
theorem dX7_power_19 : decode cX7_power 19 = .ok (.iload_n 0, 1) := by decide +kernel
theorem dX7_power_20 : decode cX7_power 20 = .ok (.imul, 1) := by decide +kernel
theorem dX7_power_21 : decode cX7_power 21 = .ok (.invokestatic 16, 3) := by decide +kernel
theorem dX7_power_24 : decode cX7_power 24 = .ok (.ireturn, 1) := by decide +kernel
theorem wmRX7_16 : Cond.methodLink RX7 16 Lib.Math.min.name ∈ zTg := zm_f 389 (by decide +kernel) rfl
theorem wMath_min : Cond.static Lib.Math.min.name ∈ zTg ∧ Cond.initialized "java/lang/Math" ∈ zTg ∧ Cond.code Lib.Math.min.name Lib.Math.min.code 2 (some .int) ∈ zTg := ⟨zm_f 390 (by decide +kernel) rfl, zm_f 56 (by decide +kernel) rfl, zm_f 391 (by decide +kernel) rfl⟩
def fWa_power (a0 : Int32)  : Option (Int32) :=
  if a0 < (4 : Int32) then
  some (0 : Int32)
else
  if a0 ≤ (25 : Int32) then
    some (zmin (2000 : Int32) ((a0 * a0) * a0))
  else
    some (0 : Int32)
set_option maxHeartbeats 4000000 in
set_option maxRecDepth 20000 in
theorem bfWa_power {X : zX} (F : zFr X cX7_power 1 RX7 (some .int)) (a0 : Int32)   {κ : Int32 → Option zO} (hκ : ∀ a, κ a = some ((fun a => ((.inl ((fun q => some (zi q)) a), (fun _ => []) a) : zO)) a)) : zZ X [] 1 23 1 0 [some (zi a0)] [] [] (Option.bind (fWa_power a0) κ) := by
  unfold fWa_power
  refine zz_iload_n F (i := 0) dX7_power_0 rfl rfl ?_
  refine zz_iconst F (v := (4 : Int32)) dX7_power_1 (by decide) ?_
  refine zz_icmp_lt F (tgt := 11) dX7_power_2 (by decide) (fun h => zz_t h ?_) (fun h => zz_f h ?_)
  · refine zz_iconst F (v := (0 : Int32)) dX7_power_11 (by decide) ?_
    exact zz_ireturn F dX7_power_12 rfl (hκ _)
  · refine zz_iload_n F (i := 0) dX7_power_5 rfl rfl ?_
    refine zz_bipush F (v := (25 : Int32)) dX7_power_6 (by decide) ?_
    refine zz_icmp_le F (tgt := 13) dX7_power_8 (by decide) (fun h => zz_t h ?_) (fun h => zz_f h ?_)
    · refine zz_sipush F (v := (2000 : Int32)) dX7_power_13 (by decide) ?_
      refine zz_iload_n F (i := 0) dX7_power_16 rfl rfl ?_
      refine zz_iload_n F (i := 0) dX7_power_17 rfl rfl ?_
      refine zz_imul F dX7_power_18 ?_
      refine zz_iload_n F (i := 0) dX7_power_19 rfl rfl ?_
      refine zz_imul F dX7_power_20 ?_
      refine zz_min F dX7_power_21 wmRX7_16 wMath_min (Nat.le_of_ble_eq_true rfl) (Nat.le_of_ble_eq_true rfl) ?_
      exact zz_ireturn F dX7_power_24 rfl (hκ _)
    · refine zz_iconst F (v := (0 : Int32)) dX7_power_11 (by decide) ?_
      exact zz_ireturn F dX7_power_12 rfl (hκ _)
theorem zfWa_power (a0 : Int32)   : ∀ a, fWa_power a0 = some a → zMet yX7_power cX7_power 1 (some .int) 1 23 [] [zi a0] [] ((fun a => ((.inl ((fun q => some (zi q)) a), (fun _ => []) a) : zO)) a) := fun a ha => zMet_of (L0 := [some (zi a0)]) (φ := Option.bind (fWa_power a0) (fun a => some ((fun a => ((.inl ((fun q => some (zi q)) a), (fun _ => []) a) : zO)) a))) (by decide) (fun _ => Nat.le_of_ble_eq_true rfl) (zl0 0 rfl) (fun X F => bfWa_power F a0 (fun _ => rfl)) (by rw [ha]; rfl)

theorem dX7_deficit_0 : decode cX7_deficit 0 = .ok (.iload_n 3, 1) := by decide +kernel
theorem dX7_deficit_1 : decode cX7_deficit 1 = .ok (.ifCond .lt 9, 3) := by decide +kernel
theorem dX7_deficit_4 : decode cX7_deficit 4 = .ok (.iload_n 3, 1) := by decide +kernel
theorem dX7_deficit_5 : decode cX7_deficit 5 = .ok (.bipush 8, 2) := by decide +kernel
theorem dX7_deficit_7 : decode cX7_deficit 7 = .ok (.if_icmp .lt 5, 3) := by decide +kernel
theorem dX7_deficit_10 : decode cX7_deficit 10 = .ok (.iconst 0, 1) := by decide +kernel
theorem dX7_deficit_11 : decode cX7_deficit 11 = .ok (.ireturn, 1) := by decide +kernel
theorem dX7_deficit_12 : decode cX7_deficit 12 = .ok (.getstatic 9, 3) := by decide +kernel
theorem dX7_deficit_15 : decode cX7_deficit 15 = .ok (.iload_n 3, 1) := by decide +kernel
theorem dX7_deficit_16 : decode cX7_deficit 16 = .ok (.iaload, 1) := by decide +kernel
theorem dX7_deficit_17 : decode cX7_deficit 17 = .ok (.istore 4, 2) := by decide +kernel
theorem dX7_deficit_19 : decode cX7_deficit 19 = .ok (.getstatic 13, 3) := by decide +kernel
theorem dX7_deficit_22 : decode cX7_deficit 22 = .ok (.iload_n 3, 1) := by decide +kernel
theorem dX7_deficit_23 : decode cX7_deficit 23 = .ok (.iaload, 1) := by decide +kernel
theorem dX7_deficit_24 : decode cX7_deficit 24 = .ok (.istore 5, 2) := by decide +kernel
theorem dX7_deficit_26 : decode cX7_deficit 26 = .ok (.iload_n 0, 1) := by decide +kernel
theorem dX7_deficit_27 : decode cX7_deficit 27 = .ok (.iload 4, 2) := by decide +kernel
theorem dX7_deficit_29 : decode cX7_deficit 29 = .ok (.imul, 1) := by decide +kernel
theorem dX7_deficit_30 : decode cX7_deficit 30 = .ok (.iload_n 1, 1) := by decide +kernel
theorem dX7_deficit_31 : decode cX7_deficit 31 = .ok (.iload 5, 2) := by decide +kernel
theorem dX7_deficit_33 : decode cX7_deficit 33 = .ok (.imul, 1) := by decide +kernel
theorem dX7_deficit_34 : decode cX7_deficit 34 = .ok (.iadd, 1) := by decide +kernel
theorem dX7_deficit_35 : decode cX7_deficit 35 = .ok (.istore 6, 2) := by decide +kernel
theorem dX7_deficit_37 : decode cX7_deficit 37 = .ok (.iload 6, 2) := by decide +kernel
theorem dX7_deficit_39 : decode cX7_deficit 39 = .ok (.iconst 1, 1) := by decide +kernel
theorem dX7_deficit_40 : decode cX7_deficit 40 = .ok (.if_icmp .lt 10, 3) := by decide +kernel
theorem dX7_deficit_43 : decode cX7_deficit 43 = .ok (.iload 6, 2) := by decide +kernel
theorem dX7_deficit_45 : decode cX7_deficit 45 = .ok (.bipush 12, 2) := by decide +kernel
theorem dX7_deficit_47 : decode cX7_deficit 47 = .ok (.if_icmp .le 5, 3) := by decide +kernel
theorem dX7_deficit_50 : decode cX7_deficit 50 = .ok (.iconst 0, 1) := by decide +kernel
theorem dX7_deficit_51 : decode cX7_deficit 51 = .ok (.ireturn, 1) := by decide +kernel
theorem dX7_deficit_52 : decode cX7_deficit 52 = .ok (.iload_n 0, 1) := by decide +kernel
theorem dX7_deficit_53 : decode cX7_deficit 53 = .ok (.iload 5, 2) := by decide +kernel
theorem dX7_deficit_55 : decode cX7_deficit 55 = .ok (.imul, 1) := by decide +kernel
theorem dX7_deficit_56 : decode cX7_deficit 56 = .ok (.iload_n 1, 1) := by decide +kernel
theorem dX7_deficit_57 : decode cX7_deficit 57 = .ok (.iload 4, 2) := by decide +kernel
theorem dX7_deficit_59 : decode cX7_deficit 59 = .ok (.imul, 1) := by decide +kernel
theorem dX7_deficit_60 : decode cX7_deficit 60 = .ok (.isub, 1) := by decide +kernel
theorem dX7_deficit_61 : decode cX7_deficit 61 = .ok (.iload_n 2, 1) := by decide +kernel
theorem dX7_deficit_62 : decode cX7_deficit 62 = .ok (.isub, 1) := by decide +kernel
theorem dX7_deficit_63 : decode cX7_deficit 63 = .ok (.istore 7, 2) := by decide +kernel
theorem dX7_deficit_65 : decode cX7_deficit 65 = .ok (.iconst 1, 1) := by decide +kernel
theorem dX7_deficit_66 : decode cX7_deficit 66 = .ok (.iload 6, 2) := by decide +kernel
theorem dX7_deficit_68 : decode cX7_deficit 68 = .ok (.iconst 4, 1) := by decide +kernel
theorem dX7_deficit_69 : decode cX7_deficit 69 = .ok (.idiv, 1) := by decide +kernel
theorem dX7_deficit_70 : decode cX7_deficit 70 = .ok (.iadd, 1) := by decide +kernel
theorem dX7_deficit_71 : decode cX7_deficit 71 = .ok (.istore 8, 2) := by decide +kernel
theorem dX7_deficit_73 : decode cX7_deficit 73 = .ok (.iload 7, 2) := by decide +kernel
theorem dX7_deficit_75 : decode cX7_deficit 75 = .ok (.iload 8, 2) := by decide +kernel
theorem dX7_deficit_77 : decode cX7_deficit 77 = .ok (.ineg, 1) := by decide +kernel
theorem dX7_deficit_78 : decode cX7_deficit 78 = .ok (.if_icmp .lt 10, 3) := by decide +kernel
theorem dX7_deficit_81 : decode cX7_deficit 81 = .ok (.iload 7, 2) := by decide +kernel
theorem dX7_deficit_83 : decode cX7_deficit 83 = .ok (.iload 8, 2) := by decide +kernel
theorem dX7_deficit_85 : decode cX7_deficit 85 = .ok (.if_icmp .le 7, 3) := by decide +kernel
theorem dX7_deficit_88 : decode cX7_deficit 88 = .ok (.iconst 0, 1) := by decide +kernel
theorem dX7_deficit_89 : decode cX7_deficit 89 = .ok (.goto 10, 3) := by decide +kernel
theorem dX7_deficit_92 : decode cX7_deficit 92 = .ok (.bipush 42, 2) := by decide +kernel
theorem dX7_deficit_94 : decode cX7_deficit 94 = .ok (.iconst 3, 1) := by decide +kernel
theorem dX7_deficit_95 : decode cX7_deficit 95 = .ok (.iload 6, 2) := by decide +kernel
theorem dX7_deficit_97 : decode cX7_deficit 97 = .ok (.imul, 1) := by decide +kernel
theorem dX7_deficit_98 : decode cX7_deficit 98 = .ok (.isub, 1) := by decide +kernel
theorem dX7_deficit_99 : decode cX7_deficit 99 = .ok (.ireturn, 1) := by decide +kernel
theorem wgRX7_9 : Cond.fieldLinkNest RX7 9 "WakeBanks" "WIND_P" "[I" "WakeBanks" ∈ zNws := by decide +kernel
theorem wgRX7_13 : Cond.fieldLinkNest RX7 13 "WakeBanks" "WIND_Q" "[I" "WakeBanks" ∈ zNws := by decide +kernel
def fWa_deficit (a0 : Int32) (a1 : Int32) (a2 : Int32) (a3 : Int32)  : Option (Int32) :=
  if a3 < 0 then
  some (0 : Int32)
else
  if a3 < (8 : Int32) then
    zix a3 8 fun j1 =>
      zlet ((zk0.getD j1 0)) fun v2 =>
      zix a3 8 fun j3 =>
      zlet ((zk1.getD j3 0)) fun v4 =>
      zlet (((a0 * v2) + (a1 * v4))) fun v5 =>
      if v5 < (1 : Int32) then
      some (0 : Int32)
    else
      if v5 ≤ (12 : Int32) then
        zlet ((((a0 * v4) - (a1 * v2)) - a2)) fun v6 =>
          zlet (((1 : Int32) + (v5 / (4 : Int32)))) fun v7 =>
          if v6 < (-v7) then
          some (0 : Int32)
        else
          if v6 ≤ v7 then
            some ((42 : Int32) - ((3 : Int32) * v5))
          else
            some (0 : Int32)
      else
        some (0 : Int32)
  else
    some (0 : Int32)
set_option maxHeartbeats 4000000 in
set_option maxRecDepth 20000 in
theorem bfWa_deficit {X : zX} (F : zFr X cX7_deficit 9 RX7 (some .int)) (a0 : Int32) (a1 : Int32) (a2 : Int32) (a3 : Int32)   {κ : Int32 → Option zO} (hκ : ∀ a, κ a = some ((fun a => ((.inl ((fun q => some (zi q)) a), (fun _ => []) a) : zO)) a)) : zZ X [] 0 0 9 0 [some (zi a0), some (zi a1), some (zi a2), some (zi a3), none, none, none, none, none] [] [] (Option.bind (fWa_deficit a0 a1 a2 a3) κ) := by
  unfold fWa_deficit
  refine zz_iload_n F (i := 3) dX7_deficit_0 rfl rfl ?_
  refine zz_if_lt F (tgt := 10) dX7_deficit_1 (by decide) (fun h => zz_t h ?_) (fun h => zz_f h ?_)
  · refine zz_iconst F (v := (0 : Int32)) dX7_deficit_10 (by decide) ?_
    exact zz_ireturn F dX7_deficit_11 rfl (hκ _)
  · refine zz_iload_n F (i := 3) dX7_deficit_4 rfl rfl ?_
    refine zz_bipush F (v := (8 : Int32)) dX7_deficit_5 (by decide) ?_
    refine zz_icmp_lt F (tgt := 12) dX7_deficit_7 (by decide) (fun h => zz_t h ?_) (fun h => zz_f h ?_)
    · refine zz_getsN F (j := 0) (q := zst0) dX7_deficit_12 rfl wgRX7_9 ?_
      refine zz_iload_n F (i := 3) dX7_deficit_15 rfl rfl ?_
      refine zz_ix fun j1 hj1 hinj1 hej1 => zz_tld F (j := 0) (q := zst0) dX7_deficit_16 rfl rfl hinj1 hej1 ?_
      refine zz_istore F (i := 4) (L' := [some (zi a0), some (zi a1), some (zi a2), some (zi a3), some (zi (zk0.getD j1 0)), none, none, none, none]) dX7_deficit_17 (by decide) rfl rfl ?_
      refine zz_letl (Lf := fun v2 => [some (zi a0), some (zi a1), some (zi a2), some (zi a3), some (zi v2), none, none, none, none]) fun v2 => ?_
      refine zz_getsN F (j := 1) (q := zst1) dX7_deficit_19 rfl wgRX7_13 ?_
      refine zz_iload_n F (i := 3) dX7_deficit_22 rfl rfl ?_
      refine zz_ix fun j3 hj3 hinj3 hej3 => zz_tld F (j := 1) (q := zst1) dX7_deficit_23 rfl rfl hinj3 hej3 ?_
      refine zz_istore F (i := 5) (L' := [some (zi a0), some (zi a1), some (zi a2), some (zi a3), some (zi v2), some (zi (zk1.getD j3 0)), none, none, none]) dX7_deficit_24 (by decide) rfl rfl ?_
      refine zz_letl (Lf := fun v4 => [some (zi a0), some (zi a1), some (zi a2), some (zi a3), some (zi v2), some (zi v4), none, none, none]) fun v4 => ?_
      refine zz_iload_n F (i := 0) dX7_deficit_26 rfl rfl ?_
      refine zz_iload F (i := 4) dX7_deficit_27 rfl ?_
      refine zz_imul F dX7_deficit_29 ?_
      refine zz_iload_n F (i := 1) dX7_deficit_30 rfl rfl ?_
      refine zz_iload F (i := 5) dX7_deficit_31 rfl ?_
      refine zz_imul F dX7_deficit_33 ?_
      refine zz_iadd F dX7_deficit_34 ?_
      refine zz_istore F (i := 6) (L' := [some (zi a0), some (zi a1), some (zi a2), some (zi a3), some (zi v2), some (zi v4), some (zi ((a0 * v2) + (a1 * v4))), none, none]) dX7_deficit_35 (by decide) rfl rfl ?_
      refine zz_letl (Lf := fun v5 => [some (zi a0), some (zi a1), some (zi a2), some (zi a3), some (zi v2), some (zi v4), some (zi v5), none, none]) fun v5 => ?_
      refine zz_iload F (i := 6) dX7_deficit_37 rfl ?_
      refine zz_iconst F (v := (1 : Int32)) dX7_deficit_39 (by decide) ?_
      refine zz_icmp_lt F (tgt := 50) dX7_deficit_40 (by decide) (fun h => zz_t h ?_) (fun h => zz_f h ?_)
      · refine zz_iconst F (v := (0 : Int32)) dX7_deficit_50 (by decide) ?_
        exact zz_ireturn F dX7_deficit_51 rfl (hκ _)
      · refine zz_iload F (i := 6) dX7_deficit_43 rfl ?_
        refine zz_bipush F (v := (12 : Int32)) dX7_deficit_45 (by decide) ?_
        refine zz_icmp_le F (tgt := 52) dX7_deficit_47 (by decide) (fun h => zz_t h ?_) (fun h => zz_f h ?_)
        · refine zz_iload_n F (i := 0) dX7_deficit_52 rfl rfl ?_
          refine zz_iload F (i := 5) dX7_deficit_53 rfl ?_
          refine zz_imul F dX7_deficit_55 ?_
          refine zz_iload_n F (i := 1) dX7_deficit_56 rfl rfl ?_
          refine zz_iload F (i := 4) dX7_deficit_57 rfl ?_
          refine zz_imul F dX7_deficit_59 ?_
          refine zz_isub F dX7_deficit_60 ?_
          refine zz_iload_n F (i := 2) dX7_deficit_61 rfl rfl ?_
          refine zz_isub F dX7_deficit_62 ?_
          refine zz_istore F (i := 7) (L' := [some (zi a0), some (zi a1), some (zi a2), some (zi a3), some (zi v2), some (zi v4), some (zi v5), some (zi (((a0 * v4) - (a1 * v2)) - a2)), none]) dX7_deficit_63 (by decide) rfl rfl ?_
          refine zz_letl (Lf := fun v6 => [some (zi a0), some (zi a1), some (zi a2), some (zi a3), some (zi v2), some (zi v4), some (zi v5), some (zi v6), none]) fun v6 => ?_
          refine zz_iconst F (v := (1 : Int32)) dX7_deficit_65 (by decide) ?_
          refine zz_iload F (i := 6) dX7_deficit_66 rfl ?_
          refine zz_iconst F (v := (4 : Int32)) dX7_deficit_68 (by decide) ?_
          refine zz_idiv F dX7_deficit_69 (by decide) ?_
          refine zz_iadd F dX7_deficit_70 ?_
          refine zz_istore F (i := 8) (L' := [some (zi a0), some (zi a1), some (zi a2), some (zi a3), some (zi v2), some (zi v4), some (zi v5), some (zi v6), some (zi ((1 : Int32) + (v5 / (4 : Int32))))]) dX7_deficit_71 (by decide) rfl rfl ?_
          refine zz_letl (Lf := fun v7 => [some (zi a0), some (zi a1), some (zi a2), some (zi a3), some (zi v2), some (zi v4), some (zi v5), some (zi v6), some (zi v7)]) fun v7 => ?_
          refine zz_iload F (i := 7) dX7_deficit_73 rfl ?_
          refine zz_iload F (i := 8) dX7_deficit_75 rfl ?_
          refine zz_ineg F dX7_deficit_77 ?_
          refine zz_icmp_lt F (tgt := 88) dX7_deficit_78 (by decide) (fun h => zz_t h ?_) (fun h => zz_f h ?_)
          · refine zz_iconst F (v := (0 : Int32)) dX7_deficit_88 (by decide) ?_
            refine zz_goto F (tgt := 99) dX7_deficit_89 (by decide) ?_
            exact zz_ireturn F dX7_deficit_99 rfl (hκ _)
          · refine zz_iload F (i := 7) dX7_deficit_81 rfl ?_
            refine zz_iload F (i := 8) dX7_deficit_83 rfl ?_
            refine zz_icmp_le F (tgt := 92) dX7_deficit_85 (by decide) (fun h => zz_t h ?_) (fun h => zz_f h ?_)
            · refine zz_bipush F (v := (42 : Int32)) dX7_deficit_92 (by decide) ?_
              refine zz_iconst F (v := (3 : Int32)) dX7_deficit_94 (by decide) ?_
              refine zz_iload F (i := 6) dX7_deficit_95 rfl ?_
              refine zz_imul F dX7_deficit_97 ?_
              refine zz_isub F dX7_deficit_98 ?_
              exact zz_ireturn F dX7_deficit_99 rfl (hκ _)
            · refine zz_iconst F (v := (0 : Int32)) dX7_deficit_88 (by decide) ?_
              refine zz_goto F (tgt := 99) dX7_deficit_89 (by decide) ?_
              exact zz_ireturn F dX7_deficit_99 rfl (hκ _)
        · refine zz_iconst F (v := (0 : Int32)) dX7_deficit_50 (by decide) ?_
          exact zz_ireturn F dX7_deficit_51 rfl (hκ _)
    · refine zz_iconst F (v := (0 : Int32)) dX7_deficit_10 (by decide) ?_
      exact zz_ireturn F dX7_deficit_11 rfl (hκ _)
theorem zfWa_deficit (a0 : Int32) (a1 : Int32) (a2 : Int32) (a3 : Int32)   : ∀ a, fWa_deficit a0 a1 a2 a3 = some a → zMet yX7_deficit cX7_deficit 9 (some .int) 0 0 [] [zi a0, zi a1, zi a2, zi a3] [] ((fun a => ((.inl ((fun q => some (zi q)) a), (fun _ => []) a) : zO)) a) := fun a ha => zMet_of (L0 := [some (zi a0), some (zi a1), some (zi a2), some (zi a3), none, none, none, none, none]) (φ := Option.bind (fWa_deficit a0 a1 a2 a3) (fun a => some ((fun a => ((.inl ((fun q => some (zi q)) a), (fun _ => []) a) : zO)) a))) (by decide) (fun _ => Nat.le_of_ble_eq_true rfl) (zl0 5 rfl) (fun X F => bfWa_deficit F a0 a1 a2 a3 (fun _ => rfl)) (by rw [ha]; rfl)

theorem dX3_deficitBy_0 : decode cX3_deficitBy 0 = .ok (.aload_n 0, 1) := by decide +kernel
theorem dX3_deficitBy_1 : decode cX3_deficitBy 1 = .ok (.getfield 11, 3) := by decide +kernel
theorem dX3_deficitBy_4 : decode cX3_deficitBy 4 = .ok (.iload_n 1, 1) := by decide +kernel
theorem dX3_deficitBy_5 : decode cX3_deficitBy 5 = .ok (.aaload, 1) := by decide +kernel
theorem dX3_deficitBy_6 : decode cX3_deficitBy 6 = .ok (.astore_n 3, 1) := by decide +kernel
theorem dX3_deficitBy_7 : decode cX3_deficitBy 7 = .ok (.aload_n 0, 1) := by decide +kernel
theorem dX3_deficitBy_8 : decode cX3_deficitBy 8 = .ok (.getfield 11, 3) := by decide +kernel
theorem dX3_deficitBy_11 : decode cX3_deficitBy 11 = .ok (.iload_n 2, 1) := by decide +kernel
theorem dX3_deficitBy_12 : decode cX3_deficitBy 12 = .ok (.aaload, 1) := by decide +kernel
theorem dX3_deficitBy_13 : decode cX3_deficitBy 13 = .ok (.astore 4, 2) := by decide +kernel
theorem dX3_deficitBy_15 : decode cX3_deficitBy 15 = .ok (.iload_n 1, 1) := by decide +kernel
theorem dX3_deficitBy_16 : decode cX3_deficitBy 16 = .ok (.iload_n 2, 1) := by decide +kernel
theorem dX3_deficitBy_17 : decode cX3_deficitBy 17 = .ok (.if_icmp .eq 11, 3) := by decide +kernel
theorem dX3_deficitBy_20 : decode cX3_deficitBy 20 = .ok (.aload_n 3, 1) := by decide +kernel
theorem dX3_deficitBy_21 : decode cX3_deficitBy 21 = .ok (.getfield 99, 3) := by decide +kernel
theorem dX3_deficitBy_24 : decode cX3_deficitBy 24 = .ok (.iconst 2, 1) := by decide +kernel
theorem dX3_deficitBy_25 : decode cX3_deficitBy 25 = .ok (.if_icmp .eq 5, 3) := by decide +kernel
theorem dX3_deficitBy_28 : decode cX3_deficitBy 28 = .ok (.iconst 0, 1) := by decide +kernel
theorem dX3_deficitBy_29 : decode cX3_deficitBy 29 = .ok (.ireturn, 1) := by decide +kernel
theorem dX3_deficitBy_30 : decode cX3_deficitBy 30 = .ok (.aload 4, 2) := by decide +kernel
theorem dX3_deficitBy_32 : decode cX3_deficitBy 32 = .ok (.getfield 59, 3) := by decide +kernel
theorem dX3_deficitBy_35 : decode cX3_deficitBy 35 = .ok (.aload_n 3, 1) := by decide +kernel
theorem dX3_deficitBy_36 : decode cX3_deficitBy 36 = .ok (.getfield 59, 3) := by decide +kernel
theorem dX3_deficitBy_39 : decode cX3_deficitBy 39 = .ok (.isub, 1) := by decide +kernel
theorem dX3_deficitBy_40 : decode cX3_deficitBy 40 = .ok (.aload 4, 2) := by decide +kernel
theorem dX3_deficitBy_42 : decode cX3_deficitBy 42 = .ok (.getfield 62, 3) := by decide +kernel
theorem dX3_deficitBy_45 : decode cX3_deficitBy 45 = .ok (.aload_n 3, 1) := by decide +kernel
theorem dX3_deficitBy_46 : decode cX3_deficitBy 46 = .ok (.getfield 62, 3) := by decide +kernel
theorem dX3_deficitBy_49 : decode cX3_deficitBy 49 = .ok (.isub, 1) := by decide +kernel
theorem dX3_deficitBy_50 : decode cX3_deficitBy 50 = .ok (.aload_n 3, 1) := by decide +kernel
theorem dX3_deficitBy_51 : decode cX3_deficitBy 51 = .ok (.getfield 111, 3) := by decide +kernel
theorem dX3_deficitBy_54 : decode cX3_deficitBy 54 = .ok (.aload_n 0, 1) := by decide +kernel
theorem dX3_deficitBy_55 : decode cX3_deficitBy 55 = .ok (.getfield 32, 3) := by decide +kernel
theorem dX3_deficitBy_58 : decode cX3_deficitBy 58 = .ok (.getfield 114, 3) := by decide +kernel
theorem dX3_deficitBy_61 : decode cX3_deficitBy 61 = .ok (.invokestatic 117, 3) := by decide +kernel
theorem dX3_deficitBy_64 : decode cX3_deficitBy 64 = .ok (.ireturn, 1) := by decide +kernel
theorem wfRX3_99 : zFl RX3 99 5 3 := ⟨_, rfl, by decide, zm_f 172 (by decide +kernel) rfl⟩
theorem wfRX3_111 : zFl RX3 111 5 7 := ⟨_, rfl, by decide, zm_f 181 (by decide +kernel) rfl⟩
theorem wfRX3_32 : zFl RX3 32 3 3 := ⟨_, rfl, by decide, zm_f 286 (by decide +kernel) rfl⟩
theorem wfRX3_114 : zFl RX3 114 7 0 := ⟨_, rfl, by decide, zm_f 84 (by decide +kernel) rfl⟩
theorem wcRX3_117 : Cond.methodLink RX3 117 yX7_deficit ∈ zTg ∧ Cond.static yX7_deficit ∈ zTg ∧ Cond.initialized yX7_deficit.cls ∈ zTg ∧ Cond.code yX7_deficit cX7_deficit 9 (some .int) ∈ zTg := ⟨zm_f 528 (by decide +kernel) rfl, zm_f 366 (by decide +kernel) rfl, zm_f 55 (by decide +kernel) rfl, zm_f 367 (by decide +kernel) rfl⟩
theorem wy_yX7_deficit : yX7_deficit.cls ≠ "java/lang/invoke/MethodHandle" ∧ yX7_deficit.cls ≠ "java/lang/invoke/VarHandle" ∧ (parseMethodDescriptor yX7_deficit.desc).map (fun d => d.parameters.length) = some 4 := by decide +kernel
theorem rel4 : zRel [] [(0, [])] [] := by unfold zRel; decide
def fSe_deficitBy (a1 : Int32) (a2 : Int32) (s0 : zM) : Option (Int32) :=
  zix a1 8 fun j1 =>
  zix a2 8 fun j2 =>
  if a1 = a2 then
  some (0 : Int32)
else
  if (s0 7 j1 3) = (2 : Int32) then
    Option.bind (fWa_deficit ((s0 7 j2 0) - (s0 7 j1 0)) ((s0 7 j2 1) - (s0 7 j1 1)) (s0 7 j1 7) (s0 4 0 0)) fun q3 =>
      some q3
  else
    some (0 : Int32)
set_option maxHeartbeats 4000000 in
set_option maxRecDepth 20000 in
theorem bfSe_deficitBy {X : zX} (F : zFr X cX3_deficitBy 5 RX3 (some .int)) (a1 : Int32) (a2 : Int32)  (s0 : zM) {κ : Int32 → Option zO} (hκ : ∀ a, κ a = some ((fun a => ((.inl ((fun q => some (zi q)) a), (fun _ => [s0]) a) : zO)) a)) : zZ X [(0, [])] 1 28 5 0 [some (zr 0 0 0), some (zi a1), some (zi a2), none, none] [] [s0] (Option.bind (fSe_deficitBy a1 a2 s0) κ) := by
  unfold fSe_deficitBy
  refine zz_aload_n F (i := 0) dX3_deficitBy_0 rfl rfl ?_
  refine zz_getr F dX3_deficitBy_1 wfRX3_11 zCl_3 rfl (⟨zlb rfl, zlb rfl, zlb rfl⟩) rfl (by decide) rfl (r' := 0) (by decide) ?_
  refine zz_iload_n F (i := 1) dX3_deficitBy_4 rfl rfl ?_
  refine zz_ix fun j1 hj1 hinj1 hej1 => zz_aal F dX3_deficitBy_5 rfl (⟨zlb rfl, zlb rfl, zlb rfl⟩) rfl (by decide) rfl hinj1 hej1 rfl ?_
  refine zz_astore_n F (i := 3) (L' := [some (zr 0 0 0), some (zi a1), some (zi a2), some (zr 0 7 j1), none]) dX3_deficitBy_6 rfl (by decide) rfl rfl ?_
  refine zz_aload_n F (i := 0) dX3_deficitBy_7 rfl rfl ?_
  refine zz_getr F dX3_deficitBy_8 wfRX3_11 zCl_3 rfl (⟨zlb rfl, zlb rfl, zlb rfl⟩) rfl (by decide) rfl (r' := 0) (by decide) ?_
  refine zz_iload_n F (i := 2) dX3_deficitBy_11 rfl rfl ?_
  refine zz_ix fun j2 hj2 hinj2 hej2 => zz_aal F dX3_deficitBy_12 rfl (⟨zlb rfl, zlb rfl, zlb rfl⟩) rfl (by decide) rfl hinj2 hej2 rfl ?_
  refine zz_astore F (i := 4) (L' := [some (zr 0 0 0), some (zi a1), some (zi a2), some (zr 0 7 j1), some (zr 0 7 j2)]) dX3_deficitBy_13 (by decide) rfl rfl ?_
  refine zz_iload_n F (i := 1) dX3_deficitBy_15 rfl rfl ?_
  refine zz_iload_n F (i := 2) dX3_deficitBy_16 rfl rfl ?_
  refine zz_icmp_eq F (tgt := 28) dX3_deficitBy_17 (by decide) (fun h => zz_t h ?_) (fun h => zz_f h ?_)
  · refine zz_iconst F (v := (0 : Int32)) dX3_deficitBy_28 (by decide) ?_
    exact zz_ireturn F dX3_deficitBy_29 rfl (hκ _)
  · refine zz_aload_n F (i := 3) dX3_deficitBy_20 rfl rfl ?_
    refine zz_getf F dX3_deficitBy_21 wfRX3_99 zCl_5 rfl (⟨zlb rfl, zlb rfl, hj1⟩) rfl (by decide) rfl rfl ?_
    refine zz_iconst F (v := (2 : Int32)) dX3_deficitBy_24 (by decide) ?_
    refine zz_icmp_eq F (tgt := 30) dX3_deficitBy_25 (by decide) (fun h => zz_t h ?_) (fun h => zz_f h ?_)
    · refine zz_aload F (i := 4) dX3_deficitBy_30 rfl ?_
      refine zz_getf F dX3_deficitBy_32 wfRX3_59 zCl_5 rfl (⟨zlb rfl, zlb rfl, hj2⟩) rfl (by decide) rfl rfl ?_
      refine zz_aload_n F (i := 3) dX3_deficitBy_35 rfl rfl ?_
      refine zz_getf F dX3_deficitBy_36 wfRX3_59 zCl_5 rfl (⟨zlb rfl, zlb rfl, hj1⟩) rfl (by decide) rfl rfl ?_
      refine zz_isub F dX3_deficitBy_39 ?_
      refine zz_aload F (i := 4) dX3_deficitBy_40 rfl ?_
      refine zz_getf F dX3_deficitBy_42 wfRX3_62 zCl_5 rfl (⟨zlb rfl, zlb rfl, hj2⟩) rfl (by decide) rfl rfl ?_
      refine zz_aload_n F (i := 3) dX3_deficitBy_45 rfl rfl ?_
      refine zz_getf F dX3_deficitBy_46 wfRX3_62 zCl_5 rfl (⟨zlb rfl, zlb rfl, hj1⟩) rfl (by decide) rfl rfl ?_
      refine zz_isub F dX3_deficitBy_49 ?_
      refine zz_aload_n F (i := 3) dX3_deficitBy_50 rfl rfl ?_
      refine zz_getf F dX3_deficitBy_51 wfRX3_111 zCl_5 rfl (⟨zlb rfl, zlb rfl, hj1⟩) rfl (by decide) rfl rfl ?_
      refine zz_aload_n F (i := 0) dX3_deficitBy_54 rfl rfl ?_
      refine zz_getr F dX3_deficitBy_55 wfRX3_32 zCl_3 rfl (⟨zlb rfl, zlb rfl, zlb rfl⟩) rfl (by decide) rfl (r' := 0) (by decide) ?_
      refine zz_getf F dX3_deficitBy_58 wfRX3_114 zCl_7 rfl (⟨zlb rfl, zlb rfl, zlb rfl⟩) rfl (by decide) rfl rfl ?_
      refine zz_bind ?_
      refine zz_callSr F (ρ := []) (so := fun q3 => [zi q3]) (Mo := fun q3 => [s0]) (zfWa_deficit ((s0 7 j2 0) - (s0 7 j1 0)) ((s0 7 j2 1) - (s0 7 j1 1)) (s0 7 j1 7) (s0 4 0 0)) dX3_deficitBy_61 wcRX3_117 wy_yX7_deficit rfl ⟨rel4, rfl, rfl, Nat.le_of_ble_eq_true rfl, Nat.le_of_ble_eq_true rfl, Nat.le_of_ble_eq_true rfl⟩ rfl (fun _ => rfl) (fun _ => rfl) fun q3 => ?_
      exact zz_ireturn F dX3_deficitBy_64 rfl (hκ _)
    · refine zz_iconst F (v := (0 : Int32)) dX3_deficitBy_28 (by decide) ?_
      exact zz_ireturn F dX3_deficitBy_29 rfl (hκ _)
theorem zfSe_deficitBy (a1 : Int32) (a2 : Int32)  (s0 : zM) : ∀ a, fSe_deficitBy a1 a2 s0 = some a → zMet yX3_deficitBy cX3_deficitBy 5 (some .int) 1 28 [(0, [])] [zr 0 0 0, zi a1, zi a2] [s0] ((fun a => ((.inl ((fun q => some (zi q)) a), (fun _ => [s0]) a) : zO)) a) := fun a ha => zMet_of (L0 := [some (zr 0 0 0), some (zi a1), some (zi a2), none, none]) (φ := Option.bind (fSe_deficitBy a1 a2 s0) (fun a => some ((fun a => ((.inl ((fun q => some (zi q)) a), (fun _ => [s0]) a) : zO)) a))) (by decide) (fun _ => Nat.le_of_ble_eq_true rfl) (zl0 2 rfl) (fun X F => bfSe_deficitBy F a1 a2 s0 (fun _ => rfl)) (by rw [ha]; rfl)
