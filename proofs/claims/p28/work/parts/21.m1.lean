theorem dX7_power_0 : decode cX7_power 0 = .ok (.iload_n 0, 1) := by decide +kernel
theorem dX7_power_1 : decode cX7_power 1 = .ok (.iconst 4, 1) := by decide +kernel
theorem dX7_power_2 : decode cX7_power 2 = .ok (.if_icmp .lt 9, 3) := by decide +kernel
theorem dX7_power_5 : decode cX7_power 5 = .ok (.iload_n 0, 1) := by decide +kernel
theorem dX7_power_6 : decode cX7_power 6 = .ok (.bipush 25, 2) := by decide +kernel
theorem dX7_power_8 : decode cX7_power 8 = .ok (.if_icmp .le 5, 3) := by decide +kernel
theorem dX7_power_11 : decode cX7_power 11 = .ok (.iconst 0, 1) := by decide +kernel
theorem dX7_power_12 : decode cX7_power 12 = .ok (.ireturn, 1) := by decide +kernel
theorem dX7_power_13 : decode cX7_power 13 = .ok (.sipush 2000, 3) := by decide +kernel
theorem dX7_power_16 : decode cX7_power 16 = .ok (.iload_n 0, 1) := by decide +kernel
theorem dX7_power_17 : decode cX7_power 17 = .ok (.iload_n 0, 1) := by decide +kernel
theorem dX7_power_18 : decode cX7_power 18 = .ok (.imul, 1) := by decide +kernel
theorem dX7_power_19 : decode cX7_power 19 = .ok (.iload_n 0, 1) := by decide +kernel
theorem dX7_power_20 : decode cX7_power 20 = .ok (.imul, 1) := by decide +kernel
theorem dX7_power_21 : decode cX7_power 21 = .ok (.invokestatic 16, 3) := by decide +kernel
theorem dX7_power_24 : decode cX7_power 24 = .ok (.ireturn, 1) := by decide +kernel
theorem wmRX7_16 : Cond.methodLink RX7 16 Lib.Math.min.name ∈ zTg := zm_f 158 (by decide +kernel) rfl
theorem wMath_min : Cond.static Lib.Math.min.name ∈ zTg ∧ Cond.initialized "java/lang/Math" ∈ zTg ∧ Cond.code Lib.Math.min.name Lib.Math.min.code 2 (some .int) ∈ zTg := ⟨zm_f 159 (by decide +kernel) rfl, zm_f 37 (by decide +kernel) rfl, zm_f 160 (by decide +kernel) rfl⟩
def fWa_power (a0 : Int32)  : Option (Int32) :=
  if a0 < (4 : Int32) then
  some (0 : Int32)
else
  if a0 ≤ (25 : Int32) then
    some (zmin (2000 : Int32) ((a0 * a0) * a0))
  else
    some (0 : Int32)
set_option maxHeartbeats 4000000 in
set_option maxRecDepth 20000 in
theorem bfWa_power {X : zX} (F : zFr X cX7_power 1 RX7 (some .int)) (a0 : Int32)   {κ : Int32 → Option zO} (hκ : ∀ a, κ a = some ((fun a => ((.inl ((fun q => some (zi q)) a), (fun _ => []) a) : zO)) a)) : zZ X [] 1 23 1 0 [some (zi a0)] [] [] (Option.bind (fWa_power a0) κ) := by
  unfold fWa_power
  refine zz_iload_n F (i := 0) dX7_power_0 rfl rfl ?_
  refine zz_iconst F (v := (4 : Int32)) dX7_power_1 (by decide) ?_
  refine zz_icmp_lt F (tgt := 11) dX7_power_2 (by decide) (fun h => zz_t h ?_) (fun h => zz_f h ?_)
  · refine zz_iconst F (v := (0 : Int32)) dX7_power_11 (by decide) ?_
    exact zz_ireturn F dX7_power_12 rfl (hκ _)
  · refine zz_iload_n F (i := 0) dX7_power_5 rfl rfl ?_
    refine zz_bipush F (v := (25 : Int32)) dX7_power_6 (by decide) ?_
    refine zz_icmp_le F (tgt := 13) dX7_power_8 (by decide) (fun h => zz_t h ?_) (fun h => zz_f h ?_)
    · refine zz_sipush F (v := (2000 : Int32)) dX7_power_13 (by decide) ?_
      refine zz_iload_n F (i := 0) dX7_power_16 rfl rfl ?_
      refine zz_iload_n F (i := 0) dX7_power_17 rfl rfl ?_
      refine zz_imul F dX7_power_18 ?_
      refine zz_iload_n F (i := 0) dX7_power_19 rfl rfl ?_
      refine zz_imul F dX7_power_20 ?_
      refine zz_min F dX7_power_21 wmRX7_16 wMath_min (Nat.le_of_ble_eq_true rfl) (Nat.le_of_ble_eq_true rfl) ?_
      exact zz_ireturn F dX7_power_24 rfl (hκ _)
    · refine zz_iconst F (v := (0 : Int32)) dX7_power_11 (by decide) ?_
      exact zz_ireturn F dX7_power_12 rfl (hκ _)
theorem zfWa_power (a0 : Int32)   : ∀ a, fWa_power a0 = some a → zMet yX7_power cX7_power 1 (some .int) 1 23 [] [zi a0] [] ((fun a => ((.inl ((fun q => some (zi q)) a), (fun _ => []) a) : zO)) a) := fun a ha => zMet_of (L0 := [some (zi a0)]) (φ := Option.bind (fWa_power a0) (fun a => some ((fun a => ((.inl ((fun q => some (zi q)) a), (fun _ => []) a) : zO)) a))) (by decide) (fun _ => Nat.le_of_ble_eq_true rfl) (zl0 0 rfl) (fun X F => bfWa_power F a0 (fun _ => rfl)) (by rw [ha]; rfl)

theorem dX7_deficit_0 : decode cX7_deficit 0 = .ok (.iload_n 3, 1) := by decide +kernel
theorem dX7_deficit_1 : decode cX7_deficit 1 = .ok (.ifCond .lt 9, 3) := by decide +kernel
theorem dX7_deficit_4 : decode cX7_deficit 4 = .ok (.iload_n 3, 1) := by decide +kernel
theorem dX7_deficit_5 : decode cX7_deficit 5 = .ok (.bipush 8, 2) := by decide +kernel
theorem dX7_deficit_7 : decode cX7_deficit 7 = .ok (.if_icmp .lt 5, 3) := by decide +kernel
theorem dX7_deficit_10 : decode cX7_deficit 10 = .ok (.iconst 0, 1) := by decide +kernel
theorem dX7_deficit_11 : decode cX7_deficit 11 = .ok (.ireturn, 1) := by decide +kernel
theorem dX7_deficit_12 : decode cX7_deficit 12 = .ok (.getstatic 9, 3) := by decide +kernel
theorem dX7_deficit_15 : decode cX7_deficit 15 = .ok (.iload_n 3, 1) := by decide +kernel
theorem dX7_deficit_16 : decode cX7_deficit 16 = .ok (.iaload, 1) := by decide +kernel
theorem dX7_deficit_17 : decode cX7_deficit 17 = .ok (.istore 4, 2) := by decide +kernel
theorem dX7_deficit_19 : decode cX7_deficit 19 = .ok (.getstatic 13, 3) := by decide +kernel
theorem dX7_deficit_22 : decode cX7_deficit 22 = .ok (.iload_n 3, 1) := by decide +kernel
theorem dX7_deficit_23 : decode cX7_deficit 23 = .ok (.iaload, 1) := by decide +kernel
theorem dX7_deficit_24 : decode cX7_deficit 24 = .ok (.istore 5, 2) := by decide +kernel
theorem dX7_deficit_26 : decode cX7_deficit 26 = .ok (.iload_n 0, 1) := by decide +kernel
theorem dX7_deficit_27 : decode cX7_deficit 27 = .ok (.iload 4, 2) := by decide +kernel
theorem dX7_deficit_29 : decode cX7_deficit 29 = .ok (.imul, 1) := by decide +kernel
theorem dX7_deficit_30 : decode cX7_deficit 30 = .ok (.iload_n 1, 1) := by decide +kernel
theorem dX7_deficit_31 : decode cX7_deficit 31 = .ok (.iload 5, 2) := by decide +kernel
theorem dX7_deficit_33 : decode cX7_deficit 33 = .ok (.imul, 1) := by decide +kernel
theorem dX7_deficit_34 : decode cX7_deficit 34 = .ok (.iadd, 1) := by decide +kernel
theorem dX7_deficit_35 : decode cX7_deficit 35 = .ok (.istore 6, 2) := by decide +kernel
theorem dX7_deficit_37 : decode cX7_deficit 37 = .ok (.iload 6, 2) := by decide +kernel
theorem dX7_deficit_39 : decode cX7_deficit 39 = .ok (.iconst 1, 1) := by decide +kernel
theorem dX7_deficit_40 : decode cX7_deficit 40 = .ok (.if_icmp .lt 10, 3) := by decide +kernel
theorem dX7_deficit_43 : decode cX7_deficit 43 = .ok (.iload 6, 2) := by decide +kernel
theorem dX7_deficit_45 : decode cX7_deficit 45 = .ok (.bipush 12, 2) := by decide +kernel
theorem dX7_deficit_47 : decode cX7_deficit 47 = .ok (.if_icmp .le 5, 3) := by decide +kernel
theorem dX7_deficit_50 : decode cX7_deficit 50 = .ok (.iconst 0, 1) := by decide +kernel
theorem dX7_deficit_51 : decode cX7_deficit 51 = .ok (.ireturn, 1) := by decide +kernel
theorem dX7_deficit_52 : decode cX7_deficit 52 = .ok (.iload_n 0, 1) := by decide +kernel
theorem dX7_deficit_53 : decode cX7_deficit 53 = .ok (.iload 5, 2) := by decide +kernel
theorem dX7_deficit_55 : decode cX7_deficit 55 = .ok (.imul, 1) := by decide +kernel
theorem dX7_deficit_56 : decode cX7_deficit 56 = .ok (.iload_n 1, 1) := by decide +kernel
theorem dX7_deficit_57 : decode cX7_deficit 57 = .ok (.iload 4, 2) := by decide +kernel
theorem dX7_deficit_59 : decode cX7_deficit 59 = .ok (.imul, 1) := by decide +kernel
theorem dX7_deficit_60 : decode cX7_deficit 60 = .ok (.isub, 1) := by decide +kernel
theorem dX7_deficit_61 : decode cX7_deficit 61 = .ok (.iload_n 2, 1) := by decide +kernel
theorem dX7_deficit_62 : decode cX7_deficit 62 = .ok (.isub, 1) := by decide +kernel
theorem dX7_deficit_63 : decode cX7_deficit 63 = .ok (.istore 7, 2) := by decide +kernel
theorem dX7_deficit_65 : decode cX7_deficit 65 = .ok (.iconst 1, 1) := by decide +kernel
theorem dX7_deficit_66 : decode cX7_deficit 66 = .ok (.iload 6, 2) := by decide +kernel
theorem dX7_deficit_68 : decode cX7_deficit 68 = .ok (.iconst 4, 1) := by decide +kernel
theorem dX7_deficit_69 : decode cX7_deficit 69 = .ok (.idiv, 1) := by decide +kernel
theorem dX7_deficit_70 : decode cX7_deficit 70 = .ok (.iadd, 1) := by decide +kernel
theorem dX7_deficit_71 : decode cX7_deficit 71 = .ok (.istore 8, 2) := by decide +kernel
theorem dX7_deficit_73 : decode cX7_deficit 73 = .ok (.iload 7, 2) := by decide +kernel
theorem dX7_deficit_75 : decode cX7_deficit 75 = .ok (.iload 8, 2) := by decide +kernel
theorem dX7_deficit_77 : decode cX7_deficit 77 = .ok (.ineg, 1) := by decide +kernel
theorem dX7_deficit_78 : decode cX7_deficit 78 = .ok (.if_icmp .lt 10, 3) := by decide +kernel
theorem dX7_deficit_81 : decode cX7_deficit 81 = .ok (.iload 7, 2) := by decide +kernel
theorem dX7_deficit_83 : decode cX7_deficit 83 = .ok (.iload 8, 2) := by decide +kernel
theorem dX7_deficit_85 : decode cX7_deficit 85 = .ok (.if_icmp .le 7, 3) := by decide +kernel
theorem dX7_deficit_88 : decode cX7_deficit 88 = .ok (.iconst 0, 1) := by decide +kernel
theorem dX7_deficit_89 : decode cX7_deficit 89 = .ok (.goto 10, 3) := by decide +kernel
theorem dX7_deficit_92 : decode cX7_deficit 92 = .ok (.bipush 42, 2) := by decide +kernel
theorem dX7_deficit_94 : decode cX7_deficit 94 = .ok (.iconst 3, 1) := by decide +kernel
theorem dX7_deficit_95 : decode cX7_deficit 95 = .ok (.iload 6, 2) := by decide +kernel
theorem dX7_deficit_97 : decode cX7_deficit 97 = .ok (.imul, 1) := by decide +kernel
theorem dX7_deficit_98 : decode cX7_deficit 98 = .ok (.isub, 1) := by decide +kernel
theorem dX7_deficit_99 : decode cX7_deficit 99 = .ok (.ireturn, 1) := by decide +kernel
theorem wgRX7_9 : Cond.fieldLinkNest RX7 9 "WakeBanks" "WIND_P" "[I" "WakeBanks" ∈ zNws := by decide +kernel
theorem wgRX7_13 : Cond.fieldLinkNest RX7 13 "WakeBanks" "WIND_Q" "[I" "WakeBanks" ∈ zNws := by decide +kernel
def fWa_deficit (a0 : Int32) (a1 : Int32) (a2 : Int32) (a3 : Int32)  : Option (Int32) :=
  if a3 < 0 then
  some (0 : Int32)
else
  if a3 < (8 : Int32) then
    zix a3 8 fun j1 =>
      zlet ((zk0.getD j1 0)) fun v2 =>
      zix a3 8 fun j3 =>
      zlet ((zk1.getD j3 0)) fun v4 =>
      zlet (((a0 * v2) + (a1 * v4))) fun v5 =>
      if v5 < (1 : Int32) then
      some (0 : Int32)
    else
      if v5 ≤ (12 : Int32) then
        zlet ((((a0 * v4) - (a1 * v2)) - a2)) fun v6 =>
          zlet (((1 : Int32) + (v5 / (4 : Int32)))) fun v7 =>
          if v6 < (-v7) then
          some (0 : Int32)
        else
          if v6 ≤ v7 then
            some ((42 : Int32) - ((3 : Int32) * v5))
          else
            some (0 : Int32)
      else
        some (0 : Int32)
  else
    some (0 : Int32)
set_option maxHeartbeats 4000000 in
set_option maxRecDepth 20000 in
theorem bfWa_deficit {X : zX} (F : zFr X cX7_deficit 9 RX7 (some .int)) (a0 : Int32) (a1 : Int32) (a2 : Int32) (a3 : Int32)   {κ : Int32 → Option zO} (hκ : ∀ a, κ a = some ((fun a => ((.inl ((fun q => some (zi q)) a), (fun _ => []) a) : zO)) a)) : zZ X [] 0 0 9 0 [some (zi a0), some (zi a1), some (zi a2), some (zi a3), none, none, none, none, none] [] [] (Option.bind (fWa_deficit a0 a1 a2 a3) κ) := by
  unfold fWa_deficit
  refine zz_iload_n F (i := 3) dX7_deficit_0 rfl rfl ?_
  refine zz_if_lt F (tgt := 10) dX7_deficit_1 (by decide) (fun h => zz_t h ?_) (fun h => zz_f h ?_)
  · refine zz_iconst F (v := (0 : Int32)) dX7_deficit_10 (by decide) ?_
    exact zz_ireturn F dX7_deficit_11 rfl (hκ _)
  · refine zz_iload_n F (i := 3) dX7_deficit_4 rfl rfl ?_
    refine zz_bipush F (v := (8 : Int32)) dX7_deficit_5 (by decide) ?_
    refine zz_icmp_lt F (tgt := 12) dX7_deficit_7 (by decide) (fun h => zz_t h ?_) (fun h => zz_f h ?_)
    · refine zz_getsN F (j := 0) (q := zst0) dX7_deficit_12 rfl wgRX7_9 ?_
      refine zz_iload_n F (i := 3) dX7_deficit_15 rfl rfl ?_
      refine zz_ix fun j1 hj1 hinj1 hej1 => zz_tld F (j := 0) (q := zst0) dX7_deficit_16 rfl rfl hinj1 hej1 ?_
      refine zz_istore F (i := 4) (L' := [some (zi a0), some (zi a1), some (zi a2), some (zi a3), some (zi (zk0.getD j1 0)), none, none, none, none]) dX7_deficit_17 (by decide) rfl rfl ?_
      refine zz_letl (Lf := fun v2 => [some (zi a0), some (zi a1), some (zi a2), some (zi a3), some (zi v2), none, none, none, none]) fun v2 => ?_
      refine zz_getsN F (j := 1) (q := zst1) dX7_deficit_19 rfl wgRX7_13 ?_
      refine zz_iload_n F (i := 3) dX7_deficit_22 rfl rfl ?_
      refine zz_ix fun j3 hj3 hinj3 hej3 => zz_tld F (j := 1) (q := zst1) dX7_deficit_23 rfl rfl hinj3 hej3 ?_
      refine zz_istore F (i := 5) (L' := [some (zi a0), some (zi a1), some (zi a2), some (zi a3), some (zi v2), some (zi (zk1.getD j3 0)), none, none, none]) dX7_deficit_24 (by decide) rfl rfl ?_
      refine zz_letl (Lf := fun v4 => [some (zi a0), some (zi a1), some (zi a2), some (zi a3), some (zi v2), some (zi v4), none, none, none]) fun v4 => ?_
      refine zz_iload_n F (i := 0) dX7_deficit_26 rfl rfl ?_
      refine zz_iload F (i := 4) dX7_deficit_27 rfl ?_
      refine zz_imul F dX7_deficit_29 ?_
      refine zz_iload_n F (i := 1) dX7_deficit_30 rfl rfl ?_
      refine zz_iload F (i := 5) dX7_deficit_31 rfl ?_
      refine zz_imul F dX7_deficit_33 ?_
      refine zz_iadd F dX7_deficit_34 ?_
      refine zz_istore F (i := 6) (L' := [some (zi a0), some (zi a1), some (zi a2), some (zi a3), some (zi v2), some (zi v4), some (zi ((a0 * v2) + (a1 * v4))), none, none]) dX7_deficit_35 (by decide) rfl rfl ?_
      refine zz_letl (Lf := fun v5 => [some (zi a0), some (zi a1), some (zi a2), some (zi a3), some (zi v2), some (zi v4), some (zi v5), none, none]) fun v5 => ?_
      refine zz_iload F (i := 6) dX7_deficit_37 rfl ?_
      refine zz_iconst F (v := (1 : Int32)) dX7_deficit_39 (by decide) ?_
      refine zz_icmp_lt F (tgt := 50) dX7_deficit_40 (by decide) (fun h => zz_t h ?_) (fun h => zz_f h ?_)
      · refine zz_iconst F (v := (0 : Int32)) dX7_deficit_50 (by decide) ?_
        exact zz_ireturn F dX7_deficit_51 rfl (hκ _)
      · refine zz_iload F (i := 6) dX7_deficit_43 rfl ?_
        refine zz_bipush F (v := (12 : Int32)) dX7_deficit_45 (by decide) ?_
        refine zz_icmp_le F (tgt := 52) dX7_deficit_47 (by decide) (fun h => zz_t h ?_) (fun h => zz_f h ?_)
        · refine zz_iload_n F (i := 0) dX7_deficit_52 rfl rfl ?_
          refine zz_iload F (i := 5) dX7_deficit_53 rfl ?_
          refine zz_imul F dX7_deficit_55 ?_
          refine zz_iload_n F (i := 1) dX7_deficit_56 rfl rfl ?_
          refine zz_iload F (i := 4) dX7_deficit_57 rfl ?_
          refine zz_imul F dX7_deficit_59 ?_
          refine zz_isub F dX7_deficit_60 ?_
          refine zz_iload_n F (i := 2) dX7_deficit_61 rfl rfl ?_
          refine zz_isub F dX7_deficit_62 ?_
          refine zz_istore F (i := 7) (L' := [some (zi a0), some (zi a1), some (zi a2), some (zi a3), some (zi v2), some (zi v4), some (zi v5), some (zi (((a0 * v4) - (a1 * v2)) - a2)), none]) dX7_deficit_63 (by decide) rfl rfl ?_
          refine zz_letl (Lf := fun v6 => [some (zi a0), some (zi a1), some (zi a2), some (zi a3), some (zi v2), some (zi v4), some (zi v5), some (zi v6), none]) fun v6 => ?_
          refine zz_iconst F (v := (1 : Int32)) dX7_deficit_65 (by decide) ?_
          refine zz_iload F (i := 6) dX7_deficit_66 rfl ?_
          refine zz_iconst F (v := (4 : Int32)) dX7_deficit_68 (by decide) ?_
          refine zz_idiv F dX7_deficit_69 (by decide) ?_
          refine zz_iadd F dX7_deficit_70 ?_
          refine zz_istore F (i := 8) (L' := [some (zi a0), some (zi a1), some (zi a2), some (zi a3), some (zi v2), some (zi v4), some (zi v5), some (zi v6), some (zi ((1 : Int32) + (v5 / (4 : Int32))))]) dX7_deficit_71 (by decide) rfl rfl ?_
          refine zz_letl (Lf := fun v7 => [some (zi a0), some (zi a1), some (zi a2), some (zi a3), some (zi v2), some (zi v4), some (zi v5), some (zi v6), some (zi v7)]) fun v7 => ?_
          refine zz_iload F (i := 7) dX7_deficit_73 rfl ?_
          refine zz_iload F (i := 8) dX7_deficit_75 rfl ?_
          refine zz_ineg F dX7_deficit_77 ?_
          refine zz_icmp_lt F (tgt := 88) dX7_deficit_78 (by decide) (fun h => zz_t h ?_) (fun h => zz_f h ?_)
          · refine zz_iconst F (v := (0 : Int32)) dX7_deficit_88 (by decide) ?_
            refine zz_goto F (tgt := 99) dX7_deficit_89 (by decide) ?_
            exact zz_ireturn F dX7_deficit_99 rfl (hκ _)
          · refine zz_iload F (i := 7) dX7_deficit_81 rfl ?_
            refine zz_iload F (i := 8) dX7_deficit_83 rfl ?_
            refine zz_icmp_le F (tgt := 92) dX7_deficit_85 (by decide) (fun h => zz_t h ?_) (fun h => zz_f h ?_)
            · refine zz_bipush F (v := (42 : Int32)) dX7_deficit_92 (by decide) ?_
              refine zz_iconst F (v := (3 : Int32)) dX7_deficit_94 (by decide) ?_
              refine zz_iload F (i := 6) dX7_deficit_95 rfl ?_
              refine zz_imul F dX7_deficit_97 ?_
              refine zz_isub F dX7_deficit_98 ?_
              exact zz_ireturn F dX7_deficit_99 rfl (hκ _)
            · refine zz_iconst F (v := (0 : Int32)) dX7_deficit_88 (by decide) ?_
              refine zz_goto F (tgt := 99) dX7_deficit_89 (by decide) ?_
              exact zz_ireturn F dX7_deficit_99 rfl (hκ _)
        · refine zz_iconst F (v := (0 : Int32)) dX7_deficit_50 (by decide) ?_
          exact zz_ireturn F dX7_deficit_51 rfl (hκ _)
    · refine zz_iconst F (v := (0 : Int32)) dX7_deficit_10 (by decide) ?_
      exact zz_ireturn F dX7_deficit_11 rfl (hκ _)
theorem zfWa_deficit (a0 : Int32) (a1 : Int32) (a2 : Int32) (a3 : Int32)   : ∀ a, fWa_deficit a0 a1 a2 a3 = some a → zMet yX7_deficit cX7_deficit 9 (some .int) 0 0 [] [zi a0, zi a1, zi a2, zi a3] [] ((fun a => ((.inl ((fun q => some (zi q)) a), (fun _ => []) a) : zO)) a) := fun a ha => zMet_of (L0 := [some (zi a0), some (zi a1), some (zi a2), some (zi a3), none, none, none, none, none]) (φ := Option.bind (fWa_deficit a0 a1 a2 a3) (fun a => some ((fun a => ((.inl ((fun q => some (zi q)) a), (fun _ => []) a) : zO)) a))) (by decide) (fun _ => Nat.le_of_ble_eq_true rfl) (zl0 5 rfl) (fun X F => bfWa_deficit F a0 a1 a2 a3 (fun _ => rfl)) (by rw [ha]; rfl)

theorem dX3_deficitBy_0 : decode cX3_deficitBy 0 = .ok (.aload_n 0, 1) := by decide +kernel
theorem dX3_deficitBy_1 : decode cX3_deficitBy 1 = .ok (.getfield 11, 3) := by decide +kernel
theorem dX3_deficitBy_4 : decode cX3_deficitBy 4 = .ok (.iload_n 1, 1) := by decide +kernel
theorem dX3_deficitBy_5 : decode cX3_deficitBy 5 = .ok (.aaload, 1) := by decide +kernel
theorem dX3_deficitBy_6 : decode cX3_deficitBy 6 = .ok (.astore_n 3, 1) := by decide +kernel
theorem dX3_deficitBy_7 : decode cX3_deficitBy 7 = .ok (.aload_n 0, 1) := by decide +kernel
theorem dX3_deficitBy_8 : decode cX3_deficitBy 8 = .ok (.getfield 11, 3) := by decide +kernel
theorem dX3_deficitBy_11 : decode cX3_deficitBy 11 = .ok (.iload_n 2, 1) := by decide +kernel
theorem dX3_deficitBy_12 : decode cX3_deficitBy 12 = .ok (.aaload, 1) := by decide +kernel
theorem dX3_deficitBy_13 : decode cX3_deficitBy 13 = .ok (.astore 4, 2) := by decide +kernel
theorem dX3_deficitBy_15 : decode cX3_deficitBy 15 = .ok (.iload_n 1, 1) := by decide +kernel
theorem dX3_deficitBy_16 : decode cX3_deficitBy 16 = .ok (.iload_n 2, 1) := by decide +kernel
theorem dX3_deficitBy_17 : decode cX3_deficitBy 17 = .ok (.if_icmp .eq 11, 3) := by decide +kernel
theorem dX3_deficitBy_20 : decode cX3_deficitBy 20 = .ok (.aload_n 3, 1) := by decide +kernel
theorem dX3_deficitBy_21 : decode cX3_deficitBy 21 = .ok (.getfield 99, 3) := by decide +kernel
theorem dX3_deficitBy_24 : decode cX3_deficitBy 24 = .ok (.iconst 2, 1) := by decide +kernel
theorem dX3_deficitBy_25 : decode cX3_deficitBy 25 = .ok (.if_icmp .eq 5, 3) := by decide +kernel
theorem dX3_deficitBy_28 : decode cX3_deficitBy 28 = .ok (.iconst 0, 1) := by decide +kernel
theorem dX3_deficitBy_29 : decode cX3_deficitBy 29 = .ok (.ireturn, 1) := by decide +kernel
theorem dX3_deficitBy_30 : decode cX3_deficitBy 30 = .ok (.aload 4, 2) := by decide +kernel
theorem dX3_deficitBy_32 : decode cX3_deficitBy 32 = .ok (.getfield 59, 3) := by decide +kernel
theorem dX3_deficitBy_35 : decode cX3_deficitBy 35 = .ok (.aload_n 3, 1) := by decide +kernel
theorem dX3_deficitBy_36 : decode cX3_deficitBy 36 = .ok (.getfield 59, 3) := by decide +kernel
theorem dX3_deficitBy_39 : decode cX3_deficitBy 39 = .ok (.isub, 1) := by decide +kernel
theorem dX3_deficitBy_40 : decode cX3_deficitBy 40 = .ok (.aload 4, 2) := by decide +kernel
theorem dX3_deficitBy_42 : decode cX3_deficitBy 42 = .ok (.getfield 62, 3) := by decide +kernel
theorem dX3_deficitBy_45 : decode cX3_deficitBy 45 = .ok (.aload_n 3, 1) := by decide +kernel
theorem dX3_deficitBy_46 : decode cX3_deficitBy 46 = .ok (.getfield 62, 3) := by decide +kernel
theorem dX3_deficitBy_49 : decode cX3_deficitBy 49 = .ok (.isub, 1) := by decide +kernel
theorem dX3_deficitBy_50 : decode cX3_deficitBy 50 = .ok (.aload_n 3, 1) := by decide +kernel
theorem dX3_deficitBy_51 : decode cX3_deficitBy 51 = .ok (.getfield 111, 3) := by decide +kernel
theorem dX3_deficitBy_54 : decode cX3_deficitBy 54 = .ok (.aload_n 0, 1) := by decide +kernel
theorem dX3_deficitBy_55 : decode cX3_deficitBy 55 = .ok (.getfield 32, 3) := by decide +kernel
theorem dX3_deficitBy_58 : decode cX3_deficitBy 58 = .ok (.getfield 114, 3) := by decide +kernel
theorem dX3_deficitBy_61 : decode cX3_deficitBy 61 = .ok (.invokestatic 117, 3) := by decide +kernel
theorem dX3_deficitBy_64 : decode cX3_deficitBy 64 = .ok (.ireturn, 1) := by decide +kernel
theorem wfRX3_99 : zFl RX3 99 5 3 := ⟨_, rfl, by decide, zm_f 537 (by decide +kernel) rfl⟩
theorem wfRX3_111 : zFl RX3 111 5 7 := ⟨_, rfl, by decide, zm_f 547 (by decide +kernel) rfl⟩
theorem wfRX3_32 : zFl RX3 32 3 3 := ⟨_, rfl, by decide, zm_f 651 (by decide +kernel) rfl⟩
theorem wfRX3_114 : zFl RX3 114 7 0 := ⟨_, rfl, by decide, zm_f 454 (by decide +kernel) rfl⟩
theorem wcRX3_117 : Cond.methodLink RX3 117 yX7_deficit ∈ zTg ∧ Cond.static yX7_deficit ∈ zTg ∧ Cond.initialized yX7_deficit.cls ∈ zTg ∧ Cond.code yX7_deficit cX7_deficit 9 (some .int) ∈ zTg := ⟨zm_f 169 (by decide +kernel) rfl, zm_f 170 (by decide +kernel) rfl, zm_f 36 (by decide +kernel) rfl, zm_f 171 (by decide +kernel) rfl⟩
theorem wy_yX7_deficit : yX7_deficit.cls ≠ "java/lang/invoke/MethodHandle" ∧ yX7_deficit.cls ≠ "java/lang/invoke/VarHandle" ∧ (parseMethodDescriptor yX7_deficit.desc).map (fun d => d.parameters.length) = some 4 := by decide +kernel
theorem rel4 : zRel [] [(0, [])] [] := by unfold zRel; decide
def fSe_deficitBy (a1 : Int32) (a2 : Int32) (s0 : zM) : Option (Int32) :=
  zix a1 8 fun j1 =>
  zix a2 8 fun j2 =>
  if a1 = a2 then
  some (0 : Int32)
else
  if (s0 7 j1 3) = (2 : Int32) then
    Option.bind (fWa_deficit ((s0 7 j2 0) - (s0 7 j1 0)) ((s0 7 j2 1) - (s0 7 j1 1)) (s0 7 j1 7) (s0 4 0 0)) fun q3 =>
      some q3
  else
    some (0 : Int32)
set_option maxHeartbeats 4000000 in
set_option maxRecDepth 20000 in
theorem bfSe_deficitBy {X : zX} (F : zFr X cX3_deficitBy 5 RX3 (some .int)) (a1 : Int32) (a2 : Int32)  (s0 : zM) {κ : Int32 → Option zO} (hκ : ∀ a, κ a = some ((fun a => ((.inl ((fun q => some (zi q)) a), (fun _ => [s0]) a) : zO)) a)) : zZ X [(0, [])] 1 28 5 0 [some (zr 0 0 0), some (zi a1), some (zi a2), none, none] [] [s0] (Option.bind (fSe_deficitBy a1 a2 s0) κ) := by
  unfold fSe_deficitBy
  refine zz_aload_n F (i := 0) dX3_deficitBy_0 rfl rfl ?_
  refine zz_getr F dX3_deficitBy_1 wfRX3_11 zCl_3 rfl (⟨zlb rfl, zlb rfl, zlb rfl⟩) rfl (by decide) rfl (r' := 0) (by decide) ?_
  refine zz_iload_n F (i := 1) dX3_deficitBy_4 rfl rfl ?_
  refine zz_ix fun j1 hj1 hinj1 hej1 => zz_aal F dX3_deficitBy_5 rfl (⟨zlb rfl, zlb rfl, zlb rfl⟩) rfl (by decide) rfl hinj1 hej1 rfl ?_
  refine zz_astore_n F (i := 3) (L' := [some (zr 0 0 0), some (zi a1), some (zi a2), some (zr 0 7 j1), none]) dX3_deficitBy_6 rfl (by decide) rfl rfl ?_
  refine zz_aload_n F (i := 0) dX3_deficitBy_7 rfl rfl ?_
  refine zz_getr F dX3_deficitBy_8 wfRX3_11 zCl_3 rfl (⟨zlb rfl, zlb rfl, zlb rfl⟩) rfl (by decide) rfl (r' := 0) (by decide) ?_
  refine zz_iload_n F (i := 2) dX3_deficitBy_11 rfl rfl ?_
  refine zz_ix fun j2 hj2 hinj2 hej2 => zz_aal F dX3_deficitBy_12 rfl (⟨zlb rfl, zlb rfl, zlb rfl⟩) rfl (by decide) rfl hinj2 hej2 rfl ?_
  refine zz_astore F (i := 4) (L' := [some (zr 0 0 0), some (zi a1), some (zi a2), some (zr 0 7 j1), some (zr 0 7 j2)]) dX3_deficitBy_13 (by decide) rfl rfl ?_
  refine zz_iload_n F (i := 1) dX3_deficitBy_15 rfl rfl ?_
  refine zz_iload_n F (i := 2) dX3_deficitBy_16 rfl rfl ?_
  refine zz_icmp_eq F (tgt := 28) dX3_deficitBy_17 (by decide) (fun h => zz_t h ?_) (fun h => zz_f h ?_)
  · refine zz_iconst F (v := (0 : Int32)) dX3_deficitBy_28 (by decide) ?_
    exact zz_ireturn F dX3_deficitBy_29 rfl (hκ _)
  · refine zz_aload_n F (i := 3) dX3_deficitBy_20 rfl rfl ?_
    refine zz_getf F dX3_deficitBy_21 wfRX3_99 zCl_5 rfl (⟨zlb rfl, zlb rfl, hj1⟩) rfl (by decide) rfl rfl ?_
    refine zz_iconst F (v := (2 : Int32)) dX3_deficitBy_24 (by decide) ?_
    refine zz_icmp_eq F (tgt := 30) dX3_deficitBy_25 (by decide) (fun h => zz_t h ?_) (fun h => zz_f h ?_)
    · refine zz_aload F (i := 4) dX3_deficitBy_30 rfl ?_
      refine zz_getf F dX3_deficitBy_32 wfRX3_59 zCl_5 rfl (⟨zlb rfl, zlb rfl, hj2⟩) rfl (by decide) rfl rfl ?_
      refine zz_aload_n F (i := 3) dX3_deficitBy_35 rfl rfl ?_
      refine zz_getf F dX3_deficitBy_36 wfRX3_59 zCl_5 rfl (⟨zlb rfl, zlb rfl, hj1⟩) rfl (by decide) rfl rfl ?_
      refine zz_isub F dX3_deficitBy_39 ?_
      refine zz_aload F (i := 4) dX3_deficitBy_40 rfl ?_
      refine zz_getf F dX3_deficitBy_42 wfRX3_62 zCl_5 rfl (⟨zlb rfl, zlb rfl, hj2⟩) rfl (by decide) rfl rfl ?_
      refine zz_aload_n F (i := 3) dX3_deficitBy_45 rfl rfl ?_
      refine zz_getf F dX3_deficitBy_46 wfRX3_62 zCl_5 rfl (⟨zlb rfl, zlb rfl, hj1⟩) rfl (by decide) rfl rfl ?_
      refine zz_isub F dX3_deficitBy_49 ?_
      refine zz_aload_n F (i := 3) dX3_deficitBy_50 rfl rfl ?_
      refine zz_getf F dX3_deficitBy_51 wfRX3_111 zCl_5 rfl (⟨zlb rfl, zlb rfl, hj1⟩) rfl (by decide) rfl rfl ?_
      refine zz_aload_n F (i := 0) dX3_deficitBy_54 rfl rfl ?_
      refine zz_getr F dX3_deficitBy_55 wfRX3_32 zCl_3 rfl (⟨zlb rfl, zlb rfl, zlb rfl⟩) rfl (by decide) rfl (r' := 0) (by decide) ?_
      refine zz_getf F dX3_deficitBy_58 wfRX3_114 zCl_7 rfl (⟨zlb rfl, zlb rfl, zlb rfl⟩) rfl (by decide) rfl rfl ?_
      refine zz_bind ?_
      refine zz_callSr F (ρ := []) (so := fun q3 => [zi q3]) (Mo := fun q3 => [s0]) (zfWa_deficit ((s0 7 j2 0) - (s0 7 j1 0)) ((s0 7 j2 1) - (s0 7 j1 1)) (s0 7 j1 7) (s0 4 0 0)) dX3_deficitBy_61 wcRX3_117 wy_yX7_deficit rfl ⟨rel4, rfl, rfl, Nat.le_of_ble_eq_true rfl, Nat.le_of_ble_eq_true rfl, Nat.le_of_ble_eq_true rfl⟩ rfl (fun _ => rfl) (fun _ => rfl) fun q3 => ?_
      exact zz_ireturn F dX3_deficitBy_64 rfl (hκ _)
    · refine zz_iconst F (v := (0 : Int32)) dX3_deficitBy_28 (by decide) ?_
      exact zz_ireturn F dX3_deficitBy_29 rfl (hκ _)
theorem zfSe_deficitBy (a1 : Int32) (a2 : Int32)  (s0 : zM) : ∀ a, fSe_deficitBy a1 a2 s0 = some a → zMet yX3_deficitBy cX3_deficitBy 5 (some .int) 1 28 [(0, [])] [zr 0 0 0, zi a1, zi a2] [s0] ((fun a => ((.inl ((fun q => some (zi q)) a), (fun _ => [s0]) a) : zO)) a) := fun a ha => zMet_of (L0 := [some (zr 0 0 0), some (zi a1), some (zi a2), none, none]) (φ := Option.bind (fSe_deficitBy a1 a2 s0) (fun a => some ((fun a => ((.inl ((fun q => some (zi q)) a), (fun _ => [s0]) a) : zO)) a))) (by decide) (fun _ => Nat.le_of_ble_eq_true rfl) (zl0 2 rfl) (fun X F => bfSe_deficitBy F a1 a2 s0 (fun _ => rfl)) (by rw [ha]; rfl)

theorem dX7_together_0 : decode cX7_together 0 = .ok (.bipush 60, 2) := by decide +kernel
theorem dX7_together_2 : decode cX7_together 2 = .ok (.iload_n 0, 1) := by decide +kernel
theorem dX7_together_3 : decode cX7_together 3 = .ok (.iload_n 1, 1) := by decide +kernel
theorem dX7_together_4 : decode cX7_together 4 = .ok (.iload_n 0, 1) := by decide +kernel
theorem dX7_together_5 : decode cX7_together 5 = .ok (.isub, 1) := by decide +kernel
theorem dX7_together_6 : decode cX7_together 6 = .ok (.iconst 2, 1) := by decide +kernel
theorem dX7_together_7 : decode cX7_together 7 = .ok (.idiv, 1) := by decide +kernel
theorem dX7_together_8 : decode cX7_together 8 = .ok (.iadd, 1) := by decide +kernel
theorem dX7_together_9 : decode cX7_together 9 = .ok (.invokestatic 16, 3) := by decide +kernel
theorem dX7_together_12 : decode cX7_together 12 = .ok (.ireturn, 1) := by decide +kernel
def fWa_together (a0 : Int32) (a1 : Int32)  : Option (Int32) :=
  some (zmin (60 : Int32) (a0 + ((a1 - a0) / (2 : Int32))))
set_option maxHeartbeats 4000000 in
set_option maxRecDepth 20000 in
theorem bfWa_together {X : zX} (F : zFr X cX7_together 2 RX7 (some .int)) (a0 : Int32) (a1 : Int32)   {κ : Int32 → Option zO} (hκ : ∀ a, κ a = some ((fun a => ((.inl ((fun q => some (zi q)) a), (fun _ => []) a) : zO)) a)) : zZ X [] 1 23 2 0 [some (zi a0), some (zi a1)] [] [] (Option.bind (fWa_together a0 a1) κ) := by
  unfold fWa_together
  refine zz_bipush F (v := (60 : Int32)) dX7_together_0 (by decide) ?_
  refine zz_iload_n F (i := 0) dX7_together_2 rfl rfl ?_
  refine zz_iload_n F (i := 1) dX7_together_3 rfl rfl ?_
  refine zz_iload_n F (i := 0) dX7_together_4 rfl rfl ?_
  refine zz_isub F dX7_together_5 ?_
  refine zz_iconst F (v := (2 : Int32)) dX7_together_6 (by decide) ?_
  refine zz_idiv F dX7_together_7 (by decide) ?_
  refine zz_iadd F dX7_together_8 ?_
  refine zz_min F dX7_together_9 wmRX7_16 wMath_min (Nat.le_of_ble_eq_true rfl) (Nat.le_of_ble_eq_true rfl) ?_
  exact zz_ireturn F dX7_together_12 rfl (hκ _)
theorem zfWa_together (a0 : Int32) (a1 : Int32)   : ∀ a, fWa_together a0 a1 = some a → zMet yX7_together cX7_together 2 (some .int) 1 23 [] [zi a0, zi a1] [] ((fun a => ((.inl ((fun q => some (zi q)) a), (fun _ => []) a) : zO)) a) := fun a ha => zMet_of (L0 := [some (zi a0), some (zi a1)]) (φ := Option.bind (fWa_together a0 a1) (fun a => some ((fun a => ((.inl ((fun q => some (zi q)) a), (fun _ => []) a) : zO)) a))) (by decide) (fun _ => Nat.le_of_ble_eq_true rfl) (zl0 0 rfl) (fun X F => bfWa_together F a0 a1 (fun _ => rfl)) (by rw [ha]; rfl)

theorem dX3_deficitOf_0 : decode cX3_deficitOf 0 = .ok (.iconst 0, 1) := by decide +kernel
theorem dX3_deficitOf_1 : decode cX3_deficitOf 1 = .ok (.istore_n 2, 1) := by decide +kernel
theorem dX3_deficitOf_2 : decode cX3_deficitOf 2 = .ok (.iconst 0, 1) := by decide +kernel
theorem dX3_deficitOf_3 : decode cX3_deficitOf 3 = .ok (.istore_n 3, 1) := by decide +kernel
theorem dX3_deficitOf_4 : decode cX3_deficitOf 4 = .ok (.iconst 0, 1) := by decide +kernel
theorem dX3_deficitOf_5 : decode cX3_deficitOf 5 = .ok (.istore 4, 2) := by decide +kernel
theorem dX3_deficitOf_7 : decode cX3_deficitOf 7 = .ok (.iload 4, 2) := by decide +kernel
theorem dX3_deficitOf_9 : decode cX3_deficitOf 9 = .ok (.aload_n 0, 1) := by decide +kernel
theorem dX3_deficitOf_10 : decode cX3_deficitOf 10 = .ok (.getfield 56, 3) := by decide +kernel
theorem dX3_deficitOf_13 : decode cX3_deficitOf 13 = .ok (.if_icmp .ge 30, 3) := by decide +kernel
theorem dX3_deficitOf_16 : decode cX3_deficitOf 16 = .ok (.aload_n 0, 1) := by decide +kernel
theorem dX3_deficitOf_17 : decode cX3_deficitOf 17 = .ok (.iload 4, 2) := by decide +kernel
theorem dX3_deficitOf_19 : decode cX3_deficitOf 19 = .ok (.iload_n 1, 1) := by decide +kernel
theorem dX3_deficitOf_20 : decode cX3_deficitOf 20 = .ok (.invokevirtual 123, 3) := by decide +kernel
theorem dX3_deficitOf_23 : decode cX3_deficitOf 23 = .ok (.istore 5, 2) := by decide +kernel
theorem dX3_deficitOf_25 : decode cX3_deficitOf 25 = .ok (.iload_n 2, 1) := by decide +kernel
theorem dX3_deficitOf_26 : decode cX3_deficitOf 26 = .ok (.iload 5, 2) := by decide +kernel
theorem dX3_deficitOf_28 : decode cX3_deficitOf 28 = .ok (.invokestatic 127, 3) := by decide +kernel
theorem dX3_deficitOf_31 : decode cX3_deficitOf 31 = .ok (.istore_n 2, 1) := by decide +kernel
theorem dX3_deficitOf_32 : decode cX3_deficitOf 32 = .ok (.iload_n 3, 1) := by decide +kernel
theorem dX3_deficitOf_33 : decode cX3_deficitOf 33 = .ok (.iload 5, 2) := by decide +kernel
theorem dX3_deficitOf_35 : decode cX3_deficitOf 35 = .ok (.iadd, 1) := by decide +kernel
theorem dX3_deficitOf_36 : decode cX3_deficitOf 36 = .ok (.istore_n 3, 1) := by decide +kernel
theorem dX3_deficitOf_37 : decode cX3_deficitOf 37 = .ok (.iinc 4 1, 3) := by decide +kernel
theorem dX3_deficitOf_40 : decode cX3_deficitOf 40 = .ok (.goto (-33), 3) := by decide +kernel
theorem dX3_deficitOf_43 : decode cX3_deficitOf 43 = .ok (.iload_n 2, 1) := by decide +kernel
theorem dX3_deficitOf_44 : decode cX3_deficitOf 44 = .ok (.iload_n 3, 1) := by decide +kernel
theorem dX3_deficitOf_45 : decode cX3_deficitOf 45 = .ok (.invokestatic 132, 3) := by decide +kernel
theorem dX3_deficitOf_48 : decode cX3_deficitOf 48 = .ok (.ireturn, 1) := by decide +kernel
theorem wcRX3_123 : Cond.methodLink RX3 123 yX3_deficitBy ∈ zTg ∧ Cond.instanceMethod yX3_deficitBy ∈ zTg ∧ Cond.selects RX3 yX3_deficitBy yX3_deficitBy ∈ zTg ∧ Cond.initialized RX3 ∈ zTg ∧ Cond.code yX3_deficitBy cX3_deficitBy 5 (some .int) ∈ zTg := ⟨zm_f 165 (by decide +kernel) rfl, zm_f 166 (by decide +kernel) rfl, zm_f 167 (by decide +kernel) rfl, zm_f 22 (by decide +kernel) rfl, zm_f 168 (by decide +kernel) rfl⟩
theorem wy_yX3_deficitBy : yX3_deficitBy.cls = RX3 ∧ yX3_deficitBy.cls ≠ "java/lang/invoke/MethodHandle" ∧ yX3_deficitBy.cls ≠ "java/lang/invoke/VarHandle" ∧ (parseMethodDescriptor yX3_deficitBy.desc).map (fun d => d.parameters.length) = some 2 := by decide +kernel
theorem wmRX3_127 : Cond.methodLink RX3 127 Lib.Math.max.name ∈ zTg := zm_f 176 (by decide +kernel) rfl
theorem wMath_max : Cond.static Lib.Math.max.name ∈ zTg ∧ Cond.initialized "java/lang/Math" ∈ zTg ∧ Cond.code Lib.Math.max.name Lib.Math.max.code 2 (some .int) ∈ zTg := ⟨zm_f 177 (by decide +kernel) rfl, zm_f 37 (by decide +kernel) rfl, zm_f 178 (by decide +kernel) rfl⟩
theorem wcRX3_132 : Cond.methodLink RX3 132 yX7_together ∈ zTg ∧ Cond.static yX7_together ∈ zTg ∧ Cond.initialized yX7_together.cls ∈ zTg ∧ Cond.code yX7_together cX7_together 2 (some .int) ∈ zTg := ⟨zm_f 179 (by decide +kernel) rfl, zm_f 180 (by decide +kernel) rfl, zm_f 36 (by decide +kernel) rfl, zm_f 181 (by decide +kernel) rfl⟩
theorem wy_yX7_together : yX7_together.cls ≠ "java/lang/invoke/MethodHandle" ∧ yX7_together.cls ≠ "java/lang/invoke/VarHandle" ∧ (parseMethodDescriptor yX7_together.desc).map (fun d => d.parameters.length) = some 2 := by decide +kernel
def fSe_deficitOf_l7 (a1 : Int32) (s0 : zM) (q1 : Int32 × Int32 × Int32) : Option ((Int32 × Int32 × Int32) ⊕ ((Int32 × Int32))) :=
  if (s0 0 0 5) ≤ q1.2.2 then
  some (.inr (q1.1, q1.2.1))
else
  Option.bind (fSe_deficitBy q1.2.2 a1 s0) fun q3 =>
    zlet ((zmax q1.1 q3)) fun v4 =>
    zlet ((q1.2.1 + q3)) fun v5 =>
    zlet (q1.2.2 + 1) fun v6 =>
    some (.inl (v4, v5, v6))
def fSe_deficitOf (a1 : Int32) (s0 : zM) : Option (Int32) :=
  Option.bind (ziter (fSe_deficitOf_l7 a1 s0) 1000 ((0 : Int32), (0 : Int32), (0 : Int32))) fun q2 =>
  Option.bind (fWa_together q2.1 q2.2) fun q7 =>
  some q7
set_option maxHeartbeats 4000000 in
set_option maxRecDepth 20000 in
theorem bfSe_deficitOf_l7 {X : zX} (F : zFr X cX3_deficitOf 6 RX3 (some .int)) (a1 : Int32) (s0 : zM)  {ψ : (Int32 × Int32 × Int32) ⊕ ((Int32 × Int32)) → Option zO} (h1 : ∀ q1 : Int32 × Int32 × Int32, zZ X [(0, [])] 2 52 6 7 [some (zr 0 0 0), some (zi a1), some (zi q1.1), some (zi q1.2.1), some (zi q1.2.2), none] [] [s0] (ψ (.inl q1))) (h2 : ∀ q2 : Int32 × Int32, zZ X [(0, [])] 2 52 6 43 [none, none, some (zi q2.1), some (zi q2.2), none, none] [] [s0] (ψ (.inr q2))) (q1 : Int32 × Int32 × Int32) : zZ X [(0, [])] 2 52 6 7 [some (zr 0 0 0), some (zi a1), some (zi q1.1), some (zi q1.2.1), some (zi q1.2.2), none] [] [s0] (Option.bind (fSe_deficitOf_l7 a1 s0 q1) ψ) := by
  unfold fSe_deficitOf_l7
  refine zz_iload F (i := 4) dX3_deficitOf_7 rfl ?_
  refine zz_aload_n F (i := 0) dX3_deficitOf_9 rfl rfl ?_
  refine zz_getf F dX3_deficitOf_10 wfRX3_56 zCl_3 rfl (⟨zlb rfl, zlb rfl, zlb rfl⟩) rfl (by decide) rfl rfl ?_
  refine zz_icmp_ge F (tgt := 43) dX3_deficitOf_13 (by decide) (fun h => zz_t h ?_) (fun h => zz_f h ?_)
  · exact zz_sub (zs_n (zs_n (zs_k (zs_k (zs_n (zs_k zs_z)))))) (h2 (q1.1, q1.2.1))
  · refine zz_aload_n F (i := 0) dX3_deficitOf_16 rfl rfl ?_
    refine zz_iload F (i := 4) dX3_deficitOf_17 rfl ?_
    refine zz_iload_n F (i := 1) dX3_deficitOf_19 rfl rfl ?_
    refine zz_bind ?_
    refine zz_callVr F (ρ := [0]) (so := fun q3 => [zi q3]) (Mo := fun q3 => [s0]) (zfSe_deficitBy q1.2.2 a1 s0) dX3_deficitOf_20 wcRX3_123 wy_yX3_deficitBy rfl ⟨rel3, rfl, rfl, Nat.le_of_ble_eq_true rfl, Nat.le_of_ble_eq_true rfl, Nat.le_of_ble_eq_true rfl⟩ (⟨zlb rfl, zlb rfl, zlb rfl⟩) rfl rfl rfl (fun _ => rfl) (fun _ => rfl) fun q3 => ?_
    refine zz_istore F (i := 5) (L' := [some (zr 0 0 0), some (zi a1), some (zi q1.1), some (zi q1.2.1), some (zi q1.2.2), some (zi q3)]) dX3_deficitOf_23 (by decide) rfl rfl ?_
    refine zz_iload_n F (i := 2) dX3_deficitOf_25 rfl rfl ?_
    refine zz_iload F (i := 5) dX3_deficitOf_26 rfl ?_
    refine zz_max F dX3_deficitOf_28 wmRX3_127 wMath_max (Nat.le_of_ble_eq_true rfl) (Nat.le_of_ble_eq_true rfl) ?_
    refine zz_istore_n F (i := 2) (L' := [some (zr 0 0 0), some (zi a1), some (zi (zmax q1.1 q3)), some (zi q1.2.1), some (zi q1.2.2), some (zi q3)]) dX3_deficitOf_31 rfl (by decide) rfl rfl ?_
    refine zz_letl (Lf := fun v4 => [some (zr 0 0 0), some (zi a1), some (zi v4), some (zi q1.2.1), some (zi q1.2.2), some (zi q3)]) fun v4 => ?_
    refine zz_iload_n F (i := 3) dX3_deficitOf_32 rfl rfl ?_
    refine zz_iload F (i := 5) dX3_deficitOf_33 rfl ?_
    refine zz_iadd F dX3_deficitOf_35 ?_
    refine zz_istore_n F (i := 3) (L' := [some (zr 0 0 0), some (zi a1), some (zi v4), some (zi (q1.2.1 + q3)), some (zi q1.2.2), some (zi q3)]) dX3_deficitOf_36 rfl (by decide) rfl rfl ?_
    refine zz_letl (Lf := fun v5 => [some (zr 0 0 0), some (zi a1), some (zi v4), some (zi v5), some (zi q1.2.2), some (zi q3)]) fun v5 => ?_
    refine zz_iinc F (i := 4) (v := q1.2.2 + 1) (L' := [some (zr 0 0 0), some (zi a1), some (zi v4), some (zi v5), some (zi (q1.2.2 + 1)), some (zi q3)]) dX3_deficitOf_37 rfl (by first | rfl | decide) (by decide) rfl rfl ?_
    refine zz_letl (Lf := fun v6 => [some (zr 0 0 0), some (zi a1), some (zi v4), some (zi v5), some (zi v6), some (zi q3)]) fun v6 => ?_
    refine zz_goto F (tgt := 7) dX3_deficitOf_40 (by decide) ?_
    exact zz_sub (zs_k (zs_k (zs_k (zs_k (zs_k (zs_n zs_z)))))) (h1 (v4, v5, v6))
set_option maxHeartbeats 4000000 in
set_option maxRecDepth 20000 in
theorem bfSe_deficitOf {X : zX} (F : zFr X cX3_deficitOf 6 RX3 (some .int)) (a1 : Int32)  (s0 : zM) {κ : Int32 → Option zO} (hκ : ∀ a, κ a = some ((fun a => ((.inl ((fun q => some (zi q)) a), (fun _ => [s0]) a) : zO)) a)) : zZ X [(0, [])] 2 52 6 0 [some (zr 0 0 0), some (zi a1), none, none, none, none] [] [s0] (Option.bind (fSe_deficitOf a1 s0) κ) := by
  unfold fSe_deficitOf
  refine zz_iconst F (v := (0 : Int32)) dX3_deficitOf_0 (by decide) ?_
  refine zz_istore_n F (i := 2) (L' := [some (zr 0 0 0), some (zi a1), some (zi (0 : Int32)), none, none, none]) dX3_deficitOf_1 rfl (by decide) rfl rfl ?_
  refine zz_iconst F (v := (0 : Int32)) dX3_deficitOf_2 (by decide) ?_
  refine zz_istore_n F (i := 3) (L' := [some (zr 0 0 0), some (zi a1), some (zi (0 : Int32)), some (zi (0 : Int32)), none, none]) dX3_deficitOf_3 rfl (by decide) rfl rfl ?_
  refine zz_iconst F (v := (0 : Int32)) dX3_deficitOf_4 (by decide) ?_
  refine zz_istore F (i := 4) (L' := [some (zr 0 0 0), some (zi a1), some (zi (0 : Int32)), some (zi (0 : Int32)), some (zi (0 : Int32)), none]) dX3_deficitOf_5 (by decide) rfl rfl ?_
  refine zz_sub (zs_k (zs_k (zs_k (zs_k (zs_k (zs_k zs_z)))))) ?_
  refine zz_bind ?_
  refine zz_iter (Lf := fun q1 => [some (zr 0 0 0), some (zi a1), some (zi q1.1), some (zi q1.2.1), some (zi q1.2.2), none]) (Mf := fun q1 => [s0]) (fun q1 _ e8 e9 => bfSe_deficitOf_l7 F a1 s0  e8 (fun q2 => ?_)  q1) 1000 ((0 : Int32), (0 : Int32), (0 : Int32))
  rw [e9]
  refine zz_iload_n F (i := 2) dX3_deficitOf_43 rfl rfl ?_
  refine zz_iload_n F (i := 3) dX3_deficitOf_44 rfl rfl ?_
  refine zz_bind ?_
  refine zz_callSr F (ρ := []) (so := fun q7 => [zi q7]) (Mo := fun q7 => [s0]) (zfWa_together q2.1 q2.2) dX3_deficitOf_45 wcRX3_132 wy_yX7_together rfl ⟨rel4, rfl, rfl, Nat.le_of_ble_eq_true rfl, Nat.le_of_ble_eq_true rfl, Nat.le_of_ble_eq_true rfl⟩ rfl (fun _ => rfl) (fun _ => rfl) fun q7 => ?_
  exact zz_ireturn F dX3_deficitOf_48 rfl (hκ _)
theorem zfSe_deficitOf (a1 : Int32)  (s0 : zM) : ∀ a, fSe_deficitOf a1 s0 = some a → zMet yX3_deficitOf cX3_deficitOf 6 (some .int) 2 52 [(0, [])] [zr 0 0 0, zi a1] [s0] ((fun a => ((.inl ((fun q => some (zi q)) a), (fun _ => [s0]) a) : zO)) a) := fun a ha => zMet_of (L0 := [some (zr 0 0 0), some (zi a1), none, none, none, none]) (φ := Option.bind (fSe_deficitOf a1 s0) (fun a => some ((fun a => ((.inl ((fun q => some (zi q)) a), (fun _ => [s0]) a) : zO)) a))) (by decide) (fun _ => Nat.le_of_ble_eq_true rfl) (zl0 4 rfl) (fun X F => bfSe_deficitOf F a1 s0 (fun _ => rfl)) (by rw [ha]; rfl)

theorem dX7_wind_0 : decode cX7_wind 0 = .ok (.iload_n 0, 1) := by decide +kernel
theorem dX7_wind_1 : decode cX7_wind 1 = .ok (.bipush 100, 2) := by decide +kernel
theorem dX7_wind_3 : decode cX7_wind 3 = .ok (.iload_n 1, 1) := by decide +kernel
theorem dX7_wind_4 : decode cX7_wind 4 = .ok (.isub, 1) := by decide +kernel
theorem dX7_wind_5 : decode cX7_wind 5 = .ok (.imul, 1) := by decide +kernel
theorem dX7_wind_6 : decode cX7_wind 6 = .ok (.bipush 100, 2) := by decide +kernel
theorem dX7_wind_8 : decode cX7_wind 8 = .ok (.idiv, 1) := by decide +kernel
theorem dX7_wind_9 : decode cX7_wind 9 = .ok (.ireturn, 1) := by decide +kernel
def fWa_wind (a0 : Int32) (a1 : Int32)  : Option (Int32) :=
  some ((a0 * ((100 : Int32) - a1)) / (100 : Int32))
set_option maxHeartbeats 4000000 in
set_option maxRecDepth 20000 in
theorem bfWa_wind {X : zX} (F : zFr X cX7_wind 2 RX7 (some .int)) (a0 : Int32) (a1 : Int32)   {κ : Int32 → Option zO} (hκ : ∀ a, κ a = some ((fun a => ((.inl ((fun q => some (zi q)) a), (fun _ => []) a) : zO)) a)) : zZ X [] 0 0 2 0 [some (zi a0), some (zi a1)] [] [] (Option.bind (fWa_wind a0 a1) κ) := by
  unfold fWa_wind
  refine zz_iload_n F (i := 0) dX7_wind_0 rfl rfl ?_
  refine zz_bipush F (v := (100 : Int32)) dX7_wind_1 (by decide) ?_
  refine zz_iload_n F (i := 1) dX7_wind_3 rfl rfl ?_
  refine zz_isub F dX7_wind_4 ?_
  refine zz_imul F dX7_wind_5 ?_
  refine zz_bipush F (v := (100 : Int32)) dX7_wind_6 (by decide) ?_
  refine zz_idiv F dX7_wind_8 (by decide) ?_
  exact zz_ireturn F dX7_wind_9 rfl (hκ _)
theorem zfWa_wind (a0 : Int32) (a1 : Int32)   : ∀ a, fWa_wind a0 a1 = some a → zMet yX7_wind cX7_wind 2 (some .int) 0 0 [] [zi a0, zi a1] [] ((fun a => ((.inl ((fun q => some (zi q)) a), (fun _ => []) a) : zO)) a) := fun a ha => zMet_of (L0 := [some (zi a0), some (zi a1)]) (φ := Option.bind (fWa_wind a0 a1) (fun a => some ((fun a => ((.inl ((fun q => some (zi q)) a), (fun _ => []) a) : zO)) a))) (by decide) (fun _ => Nat.le_of_ble_eq_true rfl) (zl0 0 rfl) (fun X F => bfWa_wind F a0 a1 (fun _ => rfl)) (by rw [ha]; rfl)

theorem dX5_lose_0 : decode cX5_lose 0 = .ok (.aload_n 0, 1) := by decide +kernel
theorem dX5_lose_1 : decode cX5_lose 1 = .ok (.dup, 1) := by decide +kernel
theorem dX5_lose_2 : decode cX5_lose 2 = .ok (.getfield 56, 3) := by decide +kernel
theorem dX5_lose_5 : decode cX5_lose 5 = .ok (.iload_n 1, 1) := by decide +kernel
theorem dX5_lose_6 : decode cX5_lose 6 = .ok (.isub, 1) := by decide +kernel
theorem dX5_lose_7 : decode cX5_lose 7 = .ok (.putfield 56, 3) := by decide +kernel
theorem dX5_lose_10 : decode cX5_lose 10 = .ok (.iload_n 2, 1) := by decide +kernel
theorem dX5_lose_11 : decode cX5_lose 11 = .ok (.ifCond .lt 19, 3) := by decide +kernel
theorem dX5_lose_14 : decode cX5_lose 14 = .ok (.iload_n 2, 1) := by decide +kernel
theorem dX5_lose_15 : decode cX5_lose 15 = .ok (.bipush 8, 2) := by decide +kernel
theorem dX5_lose_17 : decode cX5_lose 17 = .ok (.if_icmp .ge 13, 3) := by decide +kernel
theorem dX5_lose_20 : decode cX5_lose 20 = .ok (.aload_n 0, 1) := by decide +kernel
theorem dX5_lose_21 : decode cX5_lose 21 = .ok (.getfield 28, 3) := by decide +kernel
theorem dX5_lose_24 : decode cX5_lose 24 = .ok (.iload_n 2, 1) := by decide +kernel
theorem dX5_lose_25 : decode cX5_lose 25 = .ok (.dup2, 1) := by decide +kernel
theorem dX5_lose_26 : decode cX5_lose 26 = .ok (.iaload, 1) := by decide +kernel
theorem dX5_lose_27 : decode cX5_lose 27 = .ok (.iload_n 1, 1) := by decide +kernel
theorem dX5_lose_28 : decode cX5_lose 28 = .ok (.iadd, 1) := by decide +kernel
theorem dX5_lose_29 : decode cX5_lose 29 = .ok (.iastore, 1) := by decide +kernel
theorem dX5_lose_30 : decode cX5_lose 30 = .ok (.return_, 1) := by decide +kernel
theorem wfRX5_56 : zFl RX5 56 5 10 := ⟨_, rfl, by decide, zm_f 551 (by decide +kernel) rfl⟩
theorem wpRX5_56 : zFw RX5 56 5 10 .int := ⟨_, rfl, by decide, zm_f 551 (by decide +kernel) rfl, rfl, by decide +kernel⟩
theorem wfRX5_28 : zFl RX5 28 5 12 := ⟨_, rfl, by decide, zm_f 557 (by decide +kernel) rfl⟩
def fTu_lose (i : Nat) (a1 : Int32) (a2 : Int32) (s0 : zM) : Option (zM) :=
  zlet (zu s0 7 i 10 ((s0 7 i 10) - a1)) fun s0_1 =>
  if a2 < 0 then
  some s0_1
else
  if (8 : Int32) ≤ a2 then
    some s0_1
  else
    zix a2 8 fun j2 =>
      zix a2 8 fun j3 =>
      zlet (zu s0_1 9 i j3 ((s0_1 9 i j2) + a1)) fun s0_4 =>
      some s0_4
set_option maxHeartbeats 4000000 in
set_option maxRecDepth 20000 in
theorem bfTu_lose {X : zX} (F : zFr X cX5_lose 3 RX5 none) (i : Nat) (a1 : Int32) (a2 : Int32) (hi : i < 8) (s0 : zM) {κ : zM → Option zO} (hκ : ∀ a, κ a = some ((fun a => ((.inl ((fun _ => (none : Option zV)) a), (fun q => [q]) a) : zO)) a)) : zZ X [(0, [])] 0 0 3 0 [some (zr 0 7 i), some (zi a1), some (zi a2)] [] [s0] (Option.bind (fTu_lose i a1 a2 s0) κ) := by
  unfold fTu_lose
  refine zz_aload_n F (i := 0) dX5_lose_0 rfl rfl ?_
  refine zz_dup F dX5_lose_1 rfl ?_
  refine zz_getf F dX5_lose_2 wfRX5_56 zCl_5 rfl (⟨zlb rfl, zlb rfl, hi⟩) rfl (by decide) rfl rfl ?_
  refine zz_iload_n F (i := 1) dX5_lose_5 rfl rfl ?_
  refine zz_isub F dX5_lose_6 ?_
  refine zz_put F (Ms' := [(zu s0 7 i 10 ((s0 7 i 10) - a1))]) dX5_lose_7 wpRX5_56 zCl_5 rfl (⟨zlb rfl, zlb rfl, hi⟩) rfl (by decide) rfl rfl rfl ?_
  refine zz_letm (Mf := fun s0_1 => [s0_1]) fun s0_1 => ?_
  refine zz_iload_n F (i := 2) dX5_lose_10 rfl rfl ?_
  refine zz_if_lt F (tgt := 30) dX5_lose_11 (by decide) (fun h => zz_t h ?_) (fun h => zz_f h ?_)
  · exact zz_return F dX5_lose_30 rfl (hκ _)
  · refine zz_iload_n F (i := 2) dX5_lose_14 rfl rfl ?_
    refine zz_bipush F (v := (8 : Int32)) dX5_lose_15 (by decide) ?_
    refine zz_icmp_ge F (tgt := 30) dX5_lose_17 (by decide) (fun h => zz_t h ?_) (fun h => zz_f h ?_)
    · exact zz_return F dX5_lose_30 rfl (hκ _)
    · refine zz_aload_n F (i := 0) dX5_lose_20 rfl rfl ?_
      refine zz_getr F dX5_lose_21 wfRX5_28 zCl_5 rfl (⟨zlb rfl, zlb rfl, hi⟩) rfl (by decide) rfl (r' := 0) (by decide) ?_
      refine zz_iload_n F (i := 2) dX5_lose_24 rfl rfl ?_
      refine zz_dup2 F dX5_lose_25 rfl rfl ?_
      refine zz_ix fun j2 hj2 hinj2 hej2 => zz_ial F dX5_lose_26 rfl (⟨zlb rfl, zlb rfl, hi⟩) rfl hinj2 hej2 ?_
      refine zz_iload_n F (i := 1) dX5_lose_27 rfl rfl ?_
      refine zz_iadd F dX5_lose_28 ?_
      refine zz_ix fun j3 hj3 hinj3 hej3 => zz_ias F (Ms' := [(zu s0_1 9 i j3 ((s0_1 9 i j2) + a1))]) dX5_lose_29 rfl (⟨zlb rfl, zlb rfl, hi⟩) rfl hinj3 hej3 rfl ?_
      refine zz_letm (Mf := fun s0_4 => [s0_4]) fun s0_4 => ?_
      exact zz_return F dX5_lose_30 rfl (hκ _)
theorem zfTu_lose (i : Nat) (a1 : Int32) (a2 : Int32) (hi : i < 8) (s0 : zM) : ∀ a, fTu_lose i a1 a2 s0 = some a → zMet yX5_lose cX5_lose 3 none 0 0 [(0, [])] [zr 0 7 i, zi a1, zi a2] [s0] ((fun a => ((.inl ((fun _ => (none : Option zV)) a), (fun q => [q]) a) : zO)) a) := fun a ha => zMet_of (L0 := [some (zr 0 7 i), some (zi a1), some (zi a2)]) (φ := Option.bind (fTu_lose i a1 a2 s0) (fun a => some ((fun a => ((.inl ((fun _ => (none : Option zV)) a), (fun q => [q]) a) : zO)) a))) (by decide) (fun _ => Nat.le_of_ble_eq_true rfl) (zl0 0 rfl) (fun X F => bfTu_lose F i a1 a2 hi s0 (fun _ => rfl)) (by rw [ha]; rfl)

theorem dX5_causeOfStanding_0 : decode cX5_causeOfStanding 0 = .ok (.aload_n 0, 1) := by decide +kernel
theorem dX5_causeOfStanding_1 : decode cX5_causeOfStanding 1 = .ok (.getfield 9, 3) := by decide +kernel
theorem dX5_causeOfStanding_4 : decode cX5_causeOfStanding 4 = .ok (.iconst 3, 1) := by decide +kernel
theorem dX5_causeOfStanding_5 : decode cX5_causeOfStanding 5 = .ok (.if_icmp .ne 5, 3) := by decide +kernel
theorem dX5_causeOfStanding_8 : decode cX5_causeOfStanding 8 = .ok (.iconst 2, 1) := by decide +kernel
theorem dX5_causeOfStanding_9 : decode cX5_causeOfStanding 9 = .ok (.ireturn, 1) := by decide +kernel
theorem dX5_causeOfStanding_10 : decode cX5_causeOfStanding 10 = .ok (.aload_n 0, 1) := by decide +kernel
theorem dX5_causeOfStanding_11 : decode cX5_causeOfStanding 11 = .ok (.getfield 9, 3) := by decide +kernel
theorem dX5_causeOfStanding_14 : decode cX5_causeOfStanding 14 = .ok (.iconst 4, 1) := by decide +kernel
theorem dX5_causeOfStanding_15 : decode cX5_causeOfStanding 15 = .ok (.if_icmp .ne 5, 3) := by decide +kernel
theorem dX5_causeOfStanding_18 : decode cX5_causeOfStanding 18 = .ok (.iconst 3, 1) := by decide +kernel
theorem dX5_causeOfStanding_19 : decode cX5_causeOfStanding 19 = .ok (.ireturn, 1) := by decide +kernel
theorem dX5_causeOfStanding_20 : decode cX5_causeOfStanding 20 = .ok (.aload_n 0, 1) := by decide +kernel
theorem dX5_causeOfStanding_21 : decode cX5_causeOfStanding 21 = .ok (.getfield 15, 3) := by decide +kernel
theorem dX5_causeOfStanding_24 : decode cX5_causeOfStanding 24 = .ok (.ifCond .ne 7, 3) := by decide +kernel
theorem dX5_causeOfStanding_27 : decode cX5_causeOfStanding 27 = .ok (.iconst 1, 1) := by decide +kernel
theorem dX5_causeOfStanding_28 : decode cX5_causeOfStanding 28 = .ok (.goto 4, 3) := by decide +kernel
theorem dX5_causeOfStanding_31 : decode cX5_causeOfStanding 31 = .ok (.iconst 4, 1) := by decide +kernel
theorem dX5_causeOfStanding_32 : decode cX5_causeOfStanding 32 = .ok (.ireturn, 1) := by decide +kernel
def fTu_causeOfStanding (i : Nat) (s0 : zM) : Option (Int32) :=
  if (s0 7 i 3) = (3 : Int32) then
  some (2 : Int32)
else
  if (s0 7 i 3) = (4 : Int32) then
    some (3 : Int32)
  else
    if (s0 7 i 4) = 0 then
      some (1 : Int32)
    else
      some (4 : Int32)
set_option maxHeartbeats 4000000 in
set_option maxRecDepth 20000 in
theorem bfTu_causeOfStanding {X : zX} (F : zFr X cX5_causeOfStanding 1 RX5 (some .int)) (i : Nat) (hi : i < 8) (s0 : zM) {κ : Int32 → Option zO} (hκ : ∀ a, κ a = some ((fun a => ((.inl ((fun q => some (zi q)) a), (fun _ => [s0]) a) : zO)) a)) : zZ X [(0, [])] 0 0 1 0 [some (zr 0 7 i)] [] [s0] (Option.bind (fTu_causeOfStanding i s0) κ) := by
  unfold fTu_causeOfStanding
  refine zz_aload_n F (i := 0) dX5_causeOfStanding_0 rfl rfl ?_
  refine zz_getf F dX5_causeOfStanding_1 wfRX5_9 zCl_5 rfl (⟨zlb rfl, zlb rfl, hi⟩) rfl (by decide) rfl rfl ?_
  refine zz_iconst F (v := (3 : Int32)) dX5_causeOfStanding_4 (by decide) ?_
  refine zz_icmp_ne F (tgt := 10) dX5_causeOfStanding_5 (by decide) (fun h => zz_f h ?_) (fun h => zz_t h ?_)
  · refine zz_aload_n F (i := 0) dX5_causeOfStanding_10 rfl rfl ?_
    refine zz_getf F dX5_causeOfStanding_11 wfRX5_9 zCl_5 rfl (⟨zlb rfl, zlb rfl, hi⟩) rfl (by decide) rfl rfl ?_
    refine zz_iconst F (v := (4 : Int32)) dX5_causeOfStanding_14 (by decide) ?_
    refine zz_icmp_ne F (tgt := 20) dX5_causeOfStanding_15 (by decide) (fun h => zz_f h ?_) (fun h => zz_t h ?_)
    · refine zz_aload_n F (i := 0) dX5_causeOfStanding_20 rfl rfl ?_
      refine zz_getf F dX5_causeOfStanding_21 wfRX5_15 zCl_5 rfl (⟨zlb rfl, zlb rfl, hi⟩) rfl (by decide) rfl rfl ?_
      refine zz_if_ne F (tgt := 31) dX5_causeOfStanding_24 (by decide) (fun h => zz_f h ?_) (fun h => zz_t h ?_)
      · refine zz_iconst F (v := (4 : Int32)) dX5_causeOfStanding_31 (by decide) ?_
        exact zz_ireturn F dX5_causeOfStanding_32 rfl (hκ _)
      · refine zz_iconst F (v := (1 : Int32)) dX5_causeOfStanding_27 (by decide) ?_
        refine zz_goto F (tgt := 32) dX5_causeOfStanding_28 (by decide) ?_
        exact zz_ireturn F dX5_causeOfStanding_32 rfl (hκ _)
    · refine zz_iconst F (v := (3 : Int32)) dX5_causeOfStanding_18 (by decide) ?_
      exact zz_ireturn F dX5_causeOfStanding_19 rfl (hκ _)
  · refine zz_iconst F (v := (2 : Int32)) dX5_causeOfStanding_8 (by decide) ?_
    exact zz_ireturn F dX5_causeOfStanding_9 rfl (hκ _)
theorem zfTu_causeOfStanding (i : Nat) (hi : i < 8) (s0 : zM) : ∀ a, fTu_causeOfStanding i s0 = some a → zMet yX5_causeOfStanding cX5_causeOfStanding 1 (some .int) 0 0 [(0, [])] [zr 0 7 i] [s0] ((fun a => ((.inl ((fun q => some (zi q)) a), (fun _ => [s0]) a) : zO)) a) := fun a ha => zMet_of (L0 := [some (zr 0 7 i)]) (φ := Option.bind (fTu_causeOfStanding i s0) (fun a => some ((fun a => ((.inl ((fun q => some (zi q)) a), (fun _ => [s0]) a) : zO)) a))) (by decide) (fun _ => Nat.le_of_ble_eq_true rfl) (zl0 0 rfl) (fun X F => bfTu_causeOfStanding F i hi s0 (fun _ => rfl)) (by rw [ha]; rfl)

theorem dX5_take_0 : decode cX5_take 0 = .ok (.aload_n 0, 1) := by decide +kernel
theorem dX5_take_1 : decode cX5_take 1 = .ok (.aload_n 0, 1) := by decide +kernel
theorem dX5_take_2 : decode cX5_take 2 = .ok (.getfield 50, 3) := by decide +kernel
theorem dX5_take_5 : decode cX5_take 5 = .ok (.putfield 53, 3) := by decide +kernel
theorem dX5_take_8 : decode cX5_take 8 = .ok (.aload_n 0, 1) := by decide +kernel
theorem dX5_take_9 : decode cX5_take 9 = .ok (.iload_n 1, 1) := by decide +kernel
theorem dX5_take_10 : decode cX5_take 10 = .ok (.putfield 50, 3) := by decide +kernel
theorem dX5_take_13 : decode cX5_take 13 = .ok (.aload_n 0, 1) := by decide +kernel
theorem dX5_take_14 : decode cX5_take 14 = .ok (.iload_n 2, 1) := by decide +kernel
theorem dX5_take_15 : decode cX5_take 15 = .ok (.putfield 56, 3) := by decide +kernel
theorem dX5_take_18 : decode cX5_take 18 = .ok (.aload_n 0, 1) := by decide +kernel
theorem dX5_take_19 : decode cX5_take 19 = .ok (.iconst 0, 1) := by decide +kernel
theorem dX5_take_20 : decode cX5_take 20 = .ok (.iload_n 2, 1) := by decide +kernel
theorem dX5_take_21 : decode cX5_take 21 = .ok (.iload_n 1, 1) := by decide +kernel
theorem dX5_take_22 : decode cX5_take 22 = .ok (.invokestatic 98, 3) := by decide +kernel
theorem dX5_take_25 : decode cX5_take 25 = .ok (.isub, 1) := by decide +kernel
theorem dX5_take_26 : decode cX5_take 26 = .ok (.invokestatic 104, 3) := by decide +kernel
theorem dX5_take_29 : decode cX5_take 29 = .ok (.iconst 0, 1) := by decide +kernel
theorem dX5_take_30 : decode cX5_take 30 = .ok (.invokevirtual 110, 3) := by decide +kernel
theorem dX5_take_33 : decode cX5_take 33 = .ok (.aload_n 0, 1) := by decide +kernel
theorem dX5_take_34 : decode cX5_take 34 = .ok (.getfield 9, 3) := by decide +kernel
theorem dX5_take_37 : decode cX5_take 37 = .ok (.iconst 2, 1) := by decide +kernel
theorem dX5_take_38 : decode cX5_take 38 = .ok (.if_icmp .ne 30, 3) := by decide +kernel
theorem dX5_take_41 : decode cX5_take 41 = .ok (.aload_n 0, 1) := by decide +kernel
theorem dX5_take_42 : decode cX5_take 42 = .ok (.aload_n 0, 1) := by decide +kernel
theorem dX5_take_43 : decode cX5_take 43 = .ok (.getfield 56, 3) := by decide +kernel
theorem dX5_take_46 : decode cX5_take 46 = .ok (.iconst 3, 1) := by decide +kernel
theorem dX5_take_47 : decode cX5_take 47 = .ok (.aload_n 0, 1) := by decide +kernel
theorem dX5_take_48 : decode cX5_take 48 = .ok (.getfield 47, 3) := by decide +kernel
theorem dX5_take_51 : decode cX5_take 51 = .ok (.imul, 1) := by decide +kernel
theorem dX5_take_52 : decode cX5_take 52 = .ok (.aload_n 0, 1) := by decide +kernel
theorem dX5_take_53 : decode cX5_take 53 = .ok (.getfield 47, 3) := by decide +kernel
theorem dX5_take_56 : decode cX5_take 56 = .ok (.imul, 1) := by decide +kernel
theorem dX5_take_57 : decode cX5_take 57 = .ok (.imul, 1) := by decide +kernel
theorem dX5_take_58 : decode cX5_take 58 = .ok (.bipush 100, 2) := by decide +kernel
theorem dX5_take_60 : decode cX5_take 60 = .ok (.idiv, 1) := by decide +kernel
theorem dX5_take_61 : decode cX5_take 61 = .ok (.iconst 5, 1) := by decide +kernel
theorem dX5_take_62 : decode cX5_take 62 = .ok (.invokevirtual 110, 3) := by decide +kernel
theorem dX5_take_65 : decode cX5_take 65 = .ok (.goto 15, 3) := by decide +kernel
theorem dX5_take_68 : decode cX5_take 68 = .ok (.aload_n 0, 1) := by decide +kernel
theorem dX5_take_69 : decode cX5_take 69 = .ok (.aload_n 0, 1) := by decide +kernel
theorem dX5_take_70 : decode cX5_take 70 = .ok (.getfield 56, 3) := by decide +kernel
theorem dX5_take_73 : decode cX5_take 73 = .ok (.aload_n 0, 1) := by decide +kernel
theorem dX5_take_74 : decode cX5_take 74 = .ok (.invokevirtual 114, 3) := by decide +kernel
theorem dX5_take_77 : decode cX5_take 77 = .ok (.invokevirtual 110, 3) := by decide +kernel
theorem dX5_take_80 : decode cX5_take 80 = .ok (.return_, 1) := by decide +kernel
theorem wfRX5_50 : zFl RX5 50 5 8 := ⟨_, rfl, by decide, zm_f 548 (by decide +kernel) rfl⟩
theorem wpRX5_53 : zFw RX5 53 5 9 .int := ⟨_, rfl, by decide, zm_f 550 (by decide +kernel) rfl, rfl, by decide +kernel⟩
theorem wpRX5_50 : zFw RX5 50 5 8 .int := ⟨_, rfl, by decide, zm_f 548 (by decide +kernel) rfl, rfl, by decide +kernel⟩
theorem wcRX5_98 : Cond.methodLink RX5 98 yX7_power ∈ zTg ∧ Cond.static yX7_power ∈ zTg ∧ Cond.initialized yX7_power.cls ∈ zTg ∧ Cond.code yX7_power cX7_power 1 (some .int) ∈ zTg := ⟨zm_f 189 (by decide +kernel) rfl, zm_f 156 (by decide +kernel) rfl, zm_f 36 (by decide +kernel) rfl, zm_f 157 (by decide +kernel) rfl⟩
theorem wy_yX7_power : yX7_power.cls ≠ "java/lang/invoke/MethodHandle" ∧ yX7_power.cls ≠ "java/lang/invoke/VarHandle" ∧ (parseMethodDescriptor yX7_power.desc).map (fun d => d.parameters.length) = some 1 := by decide +kernel
theorem wmRX5_104 : Cond.methodLink RX5 104 Lib.Math.max.name ∈ zTg := zm_f 190 (by decide +kernel) rfl
theorem wcRX5_110 : Cond.methodLink RX5 110 yX5_lose ∈ zTg ∧ Cond.instanceMethod yX5_lose ∈ zTg ∧ Cond.selects RX5 yX5_lose yX5_lose ∈ zTg ∧ Cond.initialized RX5 ∈ zTg ∧ Cond.code yX5_lose cX5_lose 3 none ∈ zTg := ⟨zm_f 191 (by decide +kernel) rfl, zm_f 192 (by decide +kernel) rfl, zm_f 193 (by decide +kernel) rfl, zm_f 25 (by decide +kernel) rfl, zm_f 194 (by decide +kernel) rfl⟩
theorem wy_yX5_lose : yX5_lose.cls = RX5 ∧ yX5_lose.cls ≠ "java/lang/invoke/MethodHandle" ∧ yX5_lose.cls ≠ "java/lang/invoke/VarHandle" ∧ (parseMethodDescriptor yX5_lose.desc).map (fun d => d.parameters.length) = some 2 := by decide +kernel
theorem wcRX5_114 : Cond.methodLink RX5 114 yX5_causeOfStanding ∈ zTg ∧ Cond.instanceMethod yX5_causeOfStanding ∈ zTg ∧ Cond.selects RX5 yX5_causeOfStanding yX5_causeOfStanding ∈ zTg ∧ Cond.initialized RX5 ∈ zTg ∧ Cond.code yX5_causeOfStanding cX5_causeOfStanding 1 (some .int) ∈ zTg := ⟨zm_f 195 (by decide +kernel) rfl, zm_f 197 (by decide +kernel) rfl, zm_f 3 (by decide +kernel) rfl, zm_f 25 (by decide +kernel) rfl, zm_f 198 (by decide +kernel) rfl⟩
theorem wy_yX5_causeOfStanding : yX5_causeOfStanding.cls = RX5 ∧ yX5_causeOfStanding.cls ≠ "java/lang/invoke/MethodHandle" ∧ yX5_causeOfStanding.cls ≠ "java/lang/invoke/VarHandle" ∧ (parseMethodDescriptor yX5_causeOfStanding.desc).map (fun d => d.parameters.length) = some 0 := by decide +kernel
theorem wfRX5_47 : zFl RX5 47 5 7 := ⟨_, rfl, by decide, zm_f 545 (by decide +kernel) rfl⟩
def fTu_take (i : Nat) (a1 : Int32) (a2 : Int32) (s0 : zM) : Option (zM) :=
  zlet (zu s0 7 i 9 (s0 7 i 8)) fun s0_1 =>
  zlet (zu s0_1 7 i 8 a1) fun s0_2 =>
  zlet (zu s0_2 7 i 10 a2) fun s0_3 =>
  Option.bind (fWa_power a1) fun q4 =>
  Option.bind (fTu_lose i (zmax (0 : Int32) (a2 - q4)) (0 : Int32) s0_3) fun q5 =>
  if (q5 7 i 3) = (2 : Int32) then
  Option.bind (fTu_lose i (((q5 7 i 10) * (((3 : Int32) * (q5 7 i 7)) * (q5 7 i 7))) / (100 : Int32)) (5 : Int32) q5) fun q8 =>
    some q8
else
  Option.bind (fTu_causeOfStanding i q5) fun q6 =>
    Option.bind (fTu_lose i (q5 7 i 10) q6 q5) fun q7 =>
    some q7
set_option maxHeartbeats 4000000 in
set_option maxRecDepth 20000 in
theorem bfTu_take {X : zX} (F : zFr X cX5_take 3 RX5 none) (i : Nat) (a1 : Int32) (a2 : Int32) (hi : i < 8) (s0 : zM) {κ : zM → Option zO} (hκ : ∀ a, κ a = some ((fun a => ((.inl ((fun _ => (none : Option zV)) a), (fun q => [q]) a) : zO)) a)) : zZ X [(0, [])] 2 43 3 0 [some (zr 0 7 i), some (zi a1), some (zi a2)] [] [s0] (Option.bind (fTu_take i a1 a2 s0) κ) := by
  unfold fTu_take
  refine zz_aload_n F (i := 0) dX5_take_0 rfl rfl ?_
  refine zz_aload_n F (i := 0) dX5_take_1 rfl rfl ?_
  refine zz_getf F dX5_take_2 wfRX5_50 zCl_5 rfl (⟨zlb rfl, zlb rfl, hi⟩) rfl (by decide) rfl rfl ?_
  refine zz_put F (Ms' := [(zu s0 7 i 9 (s0 7 i 8))]) dX5_take_5 wpRX5_53 zCl_5 rfl (⟨zlb rfl, zlb rfl, hi⟩) rfl (by decide) rfl rfl rfl ?_
  refine zz_letm (Mf := fun s0_1 => [s0_1]) fun s0_1 => ?_
  refine zz_aload_n F (i := 0) dX5_take_8 rfl rfl ?_
  refine zz_iload_n F (i := 1) dX5_take_9 rfl rfl ?_
  refine zz_put F (Ms' := [(zu s0_1 7 i 8 a1)]) dX5_take_10 wpRX5_50 zCl_5 rfl (⟨zlb rfl, zlb rfl, hi⟩) rfl (by decide) rfl rfl rfl ?_
  refine zz_letm (Mf := fun s0_2 => [s0_2]) fun s0_2 => ?_
  refine zz_aload_n F (i := 0) dX5_take_13 rfl rfl ?_
  refine zz_iload_n F (i := 2) dX5_take_14 rfl rfl ?_
  refine zz_put F (Ms' := [(zu s0_2 7 i 10 a2)]) dX5_take_15 wpRX5_56 zCl_5 rfl (⟨zlb rfl, zlb rfl, hi⟩) rfl (by decide) rfl rfl rfl ?_
  refine zz_letm (Mf := fun s0_3 => [s0_3]) fun s0_3 => ?_
  refine zz_aload_n F (i := 0) dX5_take_18 rfl rfl ?_
  refine zz_iconst F (v := (0 : Int32)) dX5_take_19 (by decide) ?_
  refine zz_iload_n F (i := 2) dX5_take_20 rfl rfl ?_
  refine zz_iload_n F (i := 1) dX5_take_21 rfl rfl ?_
  refine zz_bind ?_
  refine zz_callSr F (ρ := []) (so := fun q4 => [zi q4, zi a2, zi (0 : Int32), zr 0 7 i]) (Mo := fun q4 => [s0_3]) (zfWa_power a1) dX5_take_22 wcRX5_98 wy_yX7_power rfl ⟨rel4, rfl, rfl, Nat.le_of_ble_eq_true rfl, Nat.le_of_ble_eq_true rfl, Nat.le_of_ble_eq_true rfl⟩ rfl (fun _ => rfl) (fun _ => rfl) fun q4 => ?_
  refine zz_isub F dX5_take_25 ?_
  refine zz_max F dX5_take_26 wmRX5_104 wMath_max (Nat.le_of_ble_eq_true rfl) (Nat.le_of_ble_eq_true rfl) ?_
  refine zz_iconst F (v := (0 : Int32)) dX5_take_29 (by decide) ?_
  refine zz_bind ?_
  refine zz_callVr F (ρ := [0]) (so := fun q5 => []) (Mo := fun q5 => [q5]) (zfTu_lose i (zmax (0 : Int32) (a2 - q4)) (0 : Int32) hi s0_3) dX5_take_30 wcRX5_110 wy_yX5_lose rfl ⟨rel3, rfl, rfl, Nat.le_of_ble_eq_true rfl, Nat.le_of_ble_eq_true rfl, Nat.le_of_ble_eq_true rfl⟩ (⟨zlb rfl, zlb rfl, hi⟩) rfl rfl rfl (fun _ => rfl) (fun _ => rfl) fun q5 => ?_
  refine zz_aload_n F (i := 0) dX5_take_33 rfl rfl ?_
  refine zz_getf F dX5_take_34 wfRX5_9 zCl_5 rfl (⟨zlb rfl, zlb rfl, hi⟩) rfl (by decide) rfl rfl ?_
  refine zz_iconst F (v := (2 : Int32)) dX5_take_37 (by decide) ?_
  refine zz_icmp_ne F (tgt := 68) dX5_take_38 (by decide) (fun h => zz_f h ?_) (fun h => zz_t h ?_)
  · refine zz_aload_n F (i := 0) dX5_take_68 rfl rfl ?_
    refine zz_aload_n F (i := 0) dX5_take_69 rfl rfl ?_
    refine zz_getf F dX5_take_70 wfRX5_56 zCl_5 rfl (⟨zlb rfl, zlb rfl, hi⟩) rfl (by decide) rfl rfl ?_
    refine zz_aload_n F (i := 0) dX5_take_73 rfl rfl ?_
    refine zz_bind ?_
    refine zz_callVr F (ρ := [0]) (so := fun q6 => [zi q6, zi (q5 7 i 10), zr 0 7 i]) (Mo := fun q6 => [q5]) (zfTu_causeOfStanding i hi q5) dX5_take_74 wcRX5_114 wy_yX5_causeOfStanding rfl ⟨rel3, rfl, rfl, Nat.le_of_ble_eq_true rfl, Nat.le_of_ble_eq_true rfl, Nat.le_of_ble_eq_true rfl⟩ (⟨zlb rfl, zlb rfl, hi⟩) rfl rfl rfl (fun _ => rfl) (fun _ => rfl) fun q6 => ?_
    refine zz_bind ?_
    refine zz_callVr F (ρ := [0]) (so := fun q7 => []) (Mo := fun q7 => [q7]) (zfTu_lose i (q5 7 i 10) q6 hi q5) dX5_take_77 wcRX5_110 wy_yX5_lose rfl ⟨rel3, rfl, rfl, Nat.le_of_ble_eq_true rfl, Nat.le_of_ble_eq_true rfl, Nat.le_of_ble_eq_true rfl⟩ (⟨zlb rfl, zlb rfl, hi⟩) rfl rfl rfl (fun _ => rfl) (fun _ => rfl) fun q7 => ?_
    exact zz_return F dX5_take_80 rfl (hκ _)
  · refine zz_aload_n F (i := 0) dX5_take_41 rfl rfl ?_
    refine zz_aload_n F (i := 0) dX5_take_42 rfl rfl ?_
    refine zz_getf F dX5_take_43 wfRX5_56 zCl_5 rfl (⟨zlb rfl, zlb rfl, hi⟩) rfl (by decide) rfl rfl ?_
    refine zz_iconst F (v := (3 : Int32)) dX5_take_46 (by decide) ?_
    refine zz_aload_n F (i := 0) dX5_take_47 rfl rfl ?_
    refine zz_getf F dX5_take_48 wfRX5_47 zCl_5 rfl (⟨zlb rfl, zlb rfl, hi⟩) rfl (by decide) rfl rfl ?_
    refine zz_imul F dX5_take_51 ?_
    refine zz_aload_n F (i := 0) dX5_take_52 rfl rfl ?_
    refine zz_getf F dX5_take_53 wfRX5_47 zCl_5 rfl (⟨zlb rfl, zlb rfl, hi⟩) rfl (by decide) rfl rfl ?_
    refine zz_imul F dX5_take_56 ?_
    refine zz_imul F dX5_take_57 ?_
    refine zz_bipush F (v := (100 : Int32)) dX5_take_58 (by decide) ?_
    refine zz_idiv F dX5_take_60 (by decide) ?_
    refine zz_iconst F (v := (5 : Int32)) dX5_take_61 (by decide) ?_
    refine zz_bind ?_
    refine zz_callVr F (ρ := [0]) (so := fun q8 => []) (Mo := fun q8 => [q8]) (zfTu_lose i (((q5 7 i 10) * (((3 : Int32) * (q5 7 i 7)) * (q5 7 i 7))) / (100 : Int32)) (5 : Int32) hi q5) dX5_take_62 wcRX5_110 wy_yX5_lose rfl ⟨rel3, rfl, rfl, Nat.le_of_ble_eq_true rfl, Nat.le_of_ble_eq_true rfl, Nat.le_of_ble_eq_true rfl⟩ (⟨zlb rfl, zlb rfl, hi⟩) rfl rfl rfl (fun _ => rfl) (fun _ => rfl) fun q8 => ?_
    refine zz_goto F (tgt := 80) dX5_take_65 (by decide) ?_
    exact zz_return F dX5_take_80 rfl (hκ _)
theorem zfTu_take (i : Nat) (a1 : Int32) (a2 : Int32) (hi : i < 8) (s0 : zM) : ∀ a, fTu_take i a1 a2 s0 = some a → zMet yX5_take cX5_take 3 none 2 43 [(0, [])] [zr 0 7 i, zi a1, zi a2] [s0] ((fun a => ((.inl ((fun _ => (none : Option zV)) a), (fun q => [q]) a) : zO)) a) := fun a ha => zMet_of (L0 := [some (zr 0 7 i), some (zi a1), some (zi a2)]) (φ := Option.bind (fTu_take i a1 a2 s0) (fun a => some ((fun a => ((.inl ((fun _ => (none : Option zV)) a), (fun q => [q]) a) : zO)) a))) (by decide) (fun _ => Nat.le_of_ble_eq_true rfl) (zl0 0 rfl) (fun X F => bfTu_take F i a1 a2 hi s0 (fun _ => rfl)) (by rw [ha]; rfl)

theorem dX0_limit_0 : decode cX0_limit 0 = .ok (.aload_n 0, 1) := by decide +kernel
theorem dX0_limit_1 : decode cX0_limit 1 = .ok (.getfield 7, 3) := by decide +kernel
theorem dX0_limit_4 : decode cX0_limit 4 = .ok (.aload_n 0, 1) := by decide +kernel
theorem dX0_limit_5 : decode cX0_limit 5 = .ok (.getfield 13, 3) := by decide +kernel
theorem dX0_limit_8 : decode cX0_limit 8 = .ok (.bipush 10, 2) := by decide +kernel
theorem dX0_limit_10 : decode cX0_limit 10 = .ok (.idiv, 1) := by decide +kernel
theorem dX0_limit_11 : decode cX0_limit 11 = .ok (.isub, 1) := by decide +kernel
theorem dX0_limit_12 : decode cX0_limit 12 = .ok (.ireturn, 1) := by decide +kernel
theorem wfRX0_7 : zFl RX0 7 0 0 := ⟨_, rfl, by decide, zm_f 596 (by decide +kernel) rfl⟩
theorem wfRX0_13 : zFl RX0 13 0 1 := ⟨_, rfl, by decide, zm_f 599 (by decide +kernel) rfl⟩
def fCa_limit (i : Nat) (s0 : zM) : Option (Int32) :=
  some ((s0 12 i 0) - ((s0 12 i 1) / (10 : Int32)))
set_option maxHeartbeats 4000000 in
set_option maxRecDepth 20000 in
theorem bfCa_limit {X : zX} (F : zFr X cX0_limit 1 RX0 (some .int)) (i : Nat) (hi : i < 3) (s0 : zM) {κ : Int32 → Option zO} (hκ : ∀ a, κ a = some ((fun a => ((.inl ((fun q => some (zi q)) a), (fun _ => [s0]) a) : zO)) a)) : zZ X [(0, [])] 0 0 1 0 [some (zr 0 12 i)] [] [s0] (Option.bind (fCa_limit i s0) κ) := by
  unfold fCa_limit
  refine zz_aload_n F (i := 0) dX0_limit_0 rfl rfl ?_
  refine zz_getf F dX0_limit_1 wfRX0_7 zCl_0 rfl (⟨zlb rfl, zlb rfl, hi⟩) rfl (by decide) rfl rfl ?_
  refine zz_aload_n F (i := 0) dX0_limit_4 rfl rfl ?_
  refine zz_getf F dX0_limit_5 wfRX0_13 zCl_0 rfl (⟨zlb rfl, zlb rfl, hi⟩) rfl (by decide) rfl rfl ?_
  refine zz_bipush F (v := (10 : Int32)) dX0_limit_8 (by decide) ?_
  refine zz_idiv F dX0_limit_10 (by decide) ?_
  refine zz_isub F dX0_limit_11 ?_
  exact zz_ireturn F dX0_limit_12 rfl (hκ _)
theorem zfCa_limit (i : Nat) (hi : i < 3) (s0 : zM) : ∀ a, fCa_limit i s0 = some a → zMet yX0_limit cX0_limit 1 (some .int) 0 0 [(0, [])] [zr 0 12 i] [s0] ((fun a => ((.inl ((fun q => some (zi q)) a), (fun _ => [s0]) a) : zO)) a) := fun a ha => zMet_of (L0 := [some (zr 0 12 i)]) (φ := Option.bind (fCa_limit i s0) (fun a => some ((fun a => ((.inl ((fun q => some (zi q)) a), (fun _ => [s0]) a) : zO)) a))) (by decide) (fun _ => Nat.le_of_ble_eq_true rfl) (zl0 0 rfl) (fun X F => bfCa_limit F i hi s0 (fun _ => rfl)) (by rw [ha]; rfl)

theorem dX3_isOn_0 : decode cX3_isOn 0 = .ok (.iload_n 2, 1) := by decide +kernel
theorem dX3_isOn_1 : decode cX3_isOn 1 = .ok (.iconst (-1), 1) := by decide +kernel
theorem dX3_isOn_2 : decode cX3_isOn 2 = .ok (.if_icmp .eq 16, 3) := by decide +kernel
theorem dX3_isOn_5 : decode cX3_isOn 5 = .ok (.aload_n 0, 1) := by decide +kernel
theorem dX3_isOn_6 : decode cX3_isOn 6 = .ok (.getfield 11, 3) := by decide +kernel
theorem dX3_isOn_9 : decode cX3_isOn 9 = .ok (.iload_n 1, 1) := by decide +kernel
theorem dX3_isOn_10 : decode cX3_isOn 10 = .ok (.aaload, 1) := by decide +kernel
theorem dX3_isOn_11 : decode cX3_isOn 11 = .ok (.getfield 65, 3) := by decide +kernel
theorem dX3_isOn_14 : decode cX3_isOn 14 = .ok (.iload_n 2, 1) := by decide +kernel
theorem dX3_isOn_15 : decode cX3_isOn 15 = .ok (.if_icmp .ne 7, 3) := by decide +kernel
theorem dX3_isOn_18 : decode cX3_isOn 18 = .ok (.iconst 1, 1) := by decide +kernel
theorem dX3_isOn_19 : decode cX3_isOn 19 = .ok (.goto 4, 3) := by decide +kernel
theorem dX3_isOn_22 : decode cX3_isOn 22 = .ok (.iconst 0, 1) := by decide +kernel
theorem dX3_isOn_23 : decode cX3_isOn 23 = .ok (.ireturn, 1) := by decide +kernel
theorem wfRX3_65 : zFl RX3 65 5 2 := ⟨_, rfl, by decide, zm_f 535 (by decide +kernel) rfl⟩
def fSe_isOn (a1 : Int32) (a2 : Int32) (s0 : zM) : Option (Int32) :=
  if a2 = (-1 : Int32) then
  some (1 : Int32)
else
  zix a1 8 fun j1 =>
    if (s0 7 j1 2) = a2 then
    some (1 : Int32)
  else
    some (0 : Int32)
set_option maxHeartbeats 4000000 in
set_option maxRecDepth 20000 in
theorem bfSe_isOn {X : zX} (F : zFr X cX3_isOn 3 RX3 (some .boolean)) (a1 : Int32) (a2 : Int32)  (s0 : zM) {κ : Int32 → Option zO} (hκ : ∀ a, κ a = some ((fun a => ((.inl ((fun q => some (zi q)) a), (fun _ => [s0]) a) : zO)) a)) : zZ X [(0, [])] 0 0 3 0 [some (zr 0 0 0), some (zi a1), some (zi a2)] [] [s0] (Option.bind (fSe_isOn a1 a2 s0) κ) := by
  unfold fSe_isOn
  refine zz_iload_n F (i := 2) dX3_isOn_0 rfl rfl ?_
  refine zz_iconst F (v := (-1 : Int32)) dX3_isOn_1 (by decide) ?_
  refine zz_icmp_eq F (tgt := 18) dX3_isOn_2 (by decide) (fun h => zz_t h ?_) (fun h => zz_f h ?_)
  · refine zz_iconst F (v := (1 : Int32)) dX3_isOn_18 (by decide) ?_
    refine zz_goto F (tgt := 23) dX3_isOn_19 (by decide) ?_
    exact zz_zreturn F dX3_isOn_23 rfl rfl (hκ _)
  · refine zz_aload_n F (i := 0) dX3_isOn_5 rfl rfl ?_
    refine zz_getr F dX3_isOn_6 wfRX3_11 zCl_3 rfl (⟨zlb rfl, zlb rfl, zlb rfl⟩) rfl (by decide) rfl (r' := 0) (by decide) ?_
    refine zz_iload_n F (i := 1) dX3_isOn_9 rfl rfl ?_
    refine zz_ix fun j1 hj1 hinj1 hej1 => zz_aal F dX3_isOn_10 rfl (⟨zlb rfl, zlb rfl, zlb rfl⟩) rfl (by decide) rfl hinj1 hej1 rfl ?_
    refine zz_getf F dX3_isOn_11 wfRX3_65 zCl_5 rfl (⟨zlb rfl, zlb rfl, hj1⟩) rfl (by decide) rfl rfl ?_
    refine zz_iload_n F (i := 2) dX3_isOn_14 rfl rfl ?_
    refine zz_icmp_ne F (tgt := 22) dX3_isOn_15 (by decide) (fun h => zz_f h ?_) (fun h => zz_t h ?_)
    · refine zz_iconst F (v := (0 : Int32)) dX3_isOn_22 (by decide) ?_
      exact zz_zreturn F dX3_isOn_23 rfl rfl (hκ _)
    · refine zz_iconst F (v := (1 : Int32)) dX3_isOn_18 (by decide) ?_
      refine zz_goto F (tgt := 23) dX3_isOn_19 (by decide) ?_
      exact zz_zreturn F dX3_isOn_23 rfl rfl (hκ _)
theorem zfSe_isOn (a1 : Int32) (a2 : Int32)  (s0 : zM) : ∀ a, fSe_isOn a1 a2 s0 = some a → zMet yX3_isOn cX3_isOn 3 (some .boolean) 0 0 [(0, [])] [zr 0 0 0, zi a1, zi a2] [s0] ((fun a => ((.inl ((fun q => some (zi q)) a), (fun _ => [s0]) a) : zO)) a) := fun a ha => zMet_of (L0 := [some (zr 0 0 0), some (zi a1), some (zi a2)]) (φ := Option.bind (fSe_isOn a1 a2 s0) (fun a => some ((fun a => ((.inl ((fun q => some (zi q)) a), (fun _ => [s0]) a) : zO)) a))) (by decide) (fun _ => Nat.le_of_ble_eq_true rfl) (zl0 0 rfl) (fun X F => bfSe_isOn F a1 a2 s0 (fun _ => rfl)) (by rw [ha]; rfl)
