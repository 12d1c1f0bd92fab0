theorem dX11_lock_0 : decode cX11_lock 0 = .ok (.aload_n 0, 1) := by decide +kernel
theorem dX11_lock_1 : decode cX11_lock 1 = .ok (.iconst 0, 1) := by decide +kernel
theorem dX11_lock_2 : decode cX11_lock 2 = .ok (.putfield 16, 3) := by decide +kernel
theorem dX11_lock_5 : decode cX11_lock 5 = .ok (.aload_n 0, 1) := by decide +kernel
theorem dX11_lock_6 : decode cX11_lock 6 = .ok (.iload_n 1, 1) := by decide +kernel
theorem dX11_lock_7 : decode cX11_lock 7 = .ok (.invokevirtual 110, 3) := by decide +kernel
theorem dX11_lock_10 : decode cX11_lock 10 = .ok (.ifCond .ne 9, 3) := by decide +kernel
theorem dX11_lock_13 : decode cX11_lock 13 = .ok (.aload_n 0, 1) := by decide +kernel
theorem dX11_lock_14 : decode cX11_lock 14 = .ok (.iconst 1, 1) := by decide +kernel
theorem dX11_lock_15 : decode cX11_lock 15 = .ok (.invokevirtual 40, 3) := by decide +kernel
theorem dX11_lock_18 : decode cX11_lock 18 = .ok (.ireturn, 1) := by decide +kernel
theorem dX11_lock_19 : decode cX11_lock 19 = .ok (.aload_n 0, 1) := by decide +kernel
theorem dX11_lock_20 : decode cX11_lock 20 = .ok (.getfield 10, 3) := by decide +kernel
theorem dX11_lock_23 : decode cX11_lock 23 = .ok (.getfield 54, 3) := by decide +kernel
theorem dX11_lock_26 : decode cX11_lock 26 = .ok (.iload_n 1, 1) := by decide +kernel
theorem dX11_lock_27 : decode cX11_lock 27 = .ok (.aaload, 1) := by decide +kernel
theorem dX11_lock_28 : decode cX11_lock 28 = .ok (.astore_n 3, 1) := by decide +kernel
theorem dX11_lock_29 : decode cX11_lock 29 = .ok (.aload_n 3, 1) := by decide +kernel
theorem dX11_lock_30 : decode cX11_lock 30 = .ok (.iconst 1, 1) := by decide +kernel
theorem dX11_lock_31 : decode cX11_lock 31 = .ok (.iaload, 1) := by decide +kernel
theorem dX11_lock_32 : decode cX11_lock 32 = .ok (.iconst (-1), 1) := by decide +kernel
theorem dX11_lock_33 : decode cX11_lock 33 = .ok (.if_icmp .eq 10, 3) := by decide +kernel
theorem dX11_lock_36 : decode cX11_lock 36 = .ok (.aload_n 3, 1) := by decide +kernel
theorem dX11_lock_37 : decode cX11_lock 37 = .ok (.iconst 2, 1) := by decide +kernel
theorem dX11_lock_38 : decode cX11_lock 38 = .ok (.iaload, 1) := by decide +kernel
theorem dX11_lock_39 : decode cX11_lock 39 = .ok (.iconst 1, 1) := by decide +kernel
theorem dX11_lock_40 : decode cX11_lock 40 = .ok (.if_icmp .ne 9, 3) := by decide +kernel
theorem dX11_lock_43 : decode cX11_lock 43 = .ok (.aload_n 0, 1) := by decide +kernel
theorem dX11_lock_44 : decode cX11_lock 44 = .ok (.iconst 2, 1) := by decide +kernel
theorem dX11_lock_45 : decode cX11_lock 45 = .ok (.invokevirtual 40, 3) := by decide +kernel
theorem dX11_lock_48 : decode cX11_lock 48 = .ok (.ireturn, 1) := by decide +kernel
theorem dX11_lock_49 : decode cX11_lock 49 = .ok (.aload_n 0, 1) := by decide +kernel
theorem dX11_lock_50 : decode cX11_lock 50 = .ok (.getfield 10, 3) := by decide +kernel
theorem dX11_lock_53 : decode cX11_lock 53 = .ok (.getfield 36, 3) := by decide +kernel
theorem dX11_lock_56 : decode cX11_lock 56 = .ok (.aload_n 3, 1) := by decide +kernel
theorem dX11_lock_57 : decode cX11_lock 57 = .ok (.iconst 1, 1) := by decide +kernel
theorem dX11_lock_58 : decode cX11_lock 58 = .ok (.iaload, 1) := by decide +kernel
theorem dX11_lock_59 : decode cX11_lock 59 = .ok (.aaload, 1) := by decide +kernel
theorem dX11_lock_60 : decode cX11_lock 60 = .ok (.astore 4, 2) := by decide +kernel
theorem dX11_lock_62 : decode cX11_lock 62 = .ok (.iload_n 2, 1) := by decide +kernel
theorem dX11_lock_63 : decode cX11_lock 63 = .ok (.ifCond .eq 22, 3) := by decide +kernel
theorem dX11_lock_66 : decode cX11_lock 66 = .ok (.aload 4, 2) := by decide +kernel
theorem dX11_lock_68 : decode cX11_lock 68 = .ok (.iconst 3, 1) := by decide +kernel
theorem dX11_lock_69 : decode cX11_lock 69 = .ok (.iaload, 1) := by decide +kernel
theorem dX11_lock_70 : decode cX11_lock 70 = .ok (.iconst 1, 1) := by decide +kernel
theorem dX11_lock_71 : decode cX11_lock 71 = .ok (.if_icmp .eq 31, 3) := by decide +kernel
theorem dX11_lock_74 : decode cX11_lock 74 = .ok (.aload 4, 2) := by decide +kernel
theorem dX11_lock_76 : decode cX11_lock 76 = .ok (.iconst 3, 1) := by decide +kernel
theorem dX11_lock_77 : decode cX11_lock 77 = .ok (.iaload, 1) := by decide +kernel
theorem dX11_lock_78 : decode cX11_lock 78 = .ok (.iconst 4, 1) := by decide +kernel
theorem dX11_lock_79 : decode cX11_lock 79 = .ok (.if_icmp .ne 29, 3) := by decide +kernel
theorem dX11_lock_82 : decode cX11_lock 82 = .ok (.goto 20, 3) := by decide +kernel
theorem dX11_lock_85 : decode cX11_lock 85 = .ok (.aload 4, 2) := by decide +kernel
theorem dX11_lock_87 : decode cX11_lock 87 = .ok (.iconst 3, 1) := by decide +kernel
theorem dX11_lock_88 : decode cX11_lock 88 = .ok (.iaload, 1) := by decide +kernel
theorem dX11_lock_89 : decode cX11_lock 89 = .ok (.iconst 4, 1) := by decide +kernel
theorem dX11_lock_90 : decode cX11_lock 90 = .ok (.if_icmp .ne 12, 3) := by decide +kernel
theorem dX11_lock_93 : decode cX11_lock 93 = .ok (.aload 4, 2) := by decide +kernel
theorem dX11_lock_95 : decode cX11_lock 95 = .ok (.bipush 9, 2) := by decide +kernel
theorem dX11_lock_97 : decode cX11_lock 97 = .ok (.iaload, 1) := by decide +kernel
theorem dX11_lock_98 : decode cX11_lock 98 = .ok (.iload_n 1, 1) := by decide +kernel
theorem dX11_lock_99 : decode cX11_lock 99 = .ok (.if_icmp .eq 9, 3) := by decide +kernel
theorem dX11_lock_102 : decode cX11_lock 102 = .ok (.aload_n 0, 1) := by decide +kernel
theorem dX11_lock_103 : decode cX11_lock 103 = .ok (.iconst 2, 1) := by decide +kernel
theorem dX11_lock_104 : decode cX11_lock 104 = .ok (.invokevirtual 40, 3) := by decide +kernel
theorem dX11_lock_107 : decode cX11_lock 107 = .ok (.ireturn, 1) := by decide +kernel
theorem dX11_lock_108 : decode cX11_lock 108 = .ok (.aload 4, 2) := by decide +kernel
theorem dX11_lock_110 : decode cX11_lock 110 = .ok (.iconst 3, 1) := by decide +kernel
theorem dX11_lock_111 : decode cX11_lock 111 = .ok (.iload_n 2, 1) := by decide +kernel
theorem dX11_lock_112 : decode cX11_lock 112 = .ok (.ifCond .eq 7, 3) := by decide +kernel
theorem dX11_lock_115 : decode cX11_lock 115 = .ok (.iconst 4, 1) := by decide +kernel
theorem dX11_lock_116 : decode cX11_lock 116 = .ok (.goto 4, 3) := by decide +kernel
theorem dX11_lock_119 : decode cX11_lock 119 = .ok (.iconst 0, 1) := by decide +kernel
theorem dX11_lock_120 : decode cX11_lock 120 = .ok (.iastore, 1) := by decide +kernel
theorem dX11_lock_121 : decode cX11_lock 121 = .ok (.aload 4, 2) := by decide +kernel
theorem dX11_lock_123 : decode cX11_lock 123 = .ok (.bipush 10, 2) := by decide +kernel
theorem dX11_lock_125 : decode cX11_lock 125 = .ok (.iconst 0, 1) := by decide +kernel
theorem dX11_lock_126 : decode cX11_lock 126 = .ok (.iastore, 1) := by decide +kernel
theorem dX11_lock_127 : decode cX11_lock 127 = .ok (.aload 4, 2) := by decide +kernel
theorem dX11_lock_129 : decode cX11_lock 129 = .ok (.bipush 8, 2) := by decide +kernel
theorem dX11_lock_131 : decode cX11_lock 131 = .ok (.iconst (-1), 1) := by decide +kernel
theorem dX11_lock_132 : decode cX11_lock 132 = .ok (.iastore, 1) := by decide +kernel
theorem dX11_lock_133 : decode cX11_lock 133 = .ok (.aload 4, 2) := by decide +kernel
theorem dX11_lock_135 : decode cX11_lock 135 = .ok (.bipush 9, 2) := by decide +kernel
theorem dX11_lock_137 : decode cX11_lock 137 = .ok (.iload_n 2, 1) := by decide +kernel
theorem dX11_lock_138 : decode cX11_lock 138 = .ok (.ifCond .eq 7, 3) := by decide +kernel
theorem dX11_lock_141 : decode cX11_lock 141 = .ok (.iload_n 1, 1) := by decide +kernel
theorem dX11_lock_142 : decode cX11_lock 142 = .ok (.goto 4, 3) := by decide +kernel
theorem dX11_lock_145 : decode cX11_lock 145 = .ok (.iconst (-1), 1) := by decide +kernel
theorem dX11_lock_146 : decode cX11_lock 146 = .ok (.iastore, 1) := by decide +kernel
theorem dX11_lock_147 : decode cX11_lock 147 = .ok (.aload_n 3, 1) := by decide +kernel
theorem dX11_lock_148 : decode cX11_lock 148 = .ok (.iconst 1, 1) := by decide +kernel
theorem dX11_lock_149 : decode cX11_lock 149 = .ok (.iaload, 1) := by decide +kernel
theorem dX11_lock_150 : decode cX11_lock 150 = .ok (.ireturn, 1) := by decide +kernel
def fMO_lock (a1 : Int32) (a2 : Int32) (s0 : zM) (s1 : zM) : Option (Int32 × zM × zM) :=
  zlet (zu s0 0 0 0 (0 : Int32)) fun s0_1 =>
  Option.bind (fMO_isVessel a1 s0_1 s1) fun q2 =>
  if q2 = 0 then
  Option.bind (fMO_no (1 : Int32) s0_1 s1) fun q52 =>
    some (q52.1, q52.2, s1)
else
  zix a1 3 fun j3 =>
    zix (1 : Int32) 6 fun j4 =>
    if (s1 11 j3 j4) = (-1 : Int32) then
    Option.bind (fMO_no (2 : Int32) s0_1 s1) fun q5 =>
      some (q5.1, q5.2, s1)
  else
    zix (2 : Int32) 6 fun j6 =>
      if (s1 11 j3 j6) = (1 : Int32) then
      Option.bind (fMO_no (2 : Int32) s0_1 s1) fun q51 =>
        some (q51.1, q51.2, s1)
    else
      zix (1 : Int32) 6 fun j7 =>
        zix (s1 11 j3 j7) 8 fun j8 =>
        if a2 = 0 then
        zix (3 : Int32) 23 fun j9 =>
          if (s1 8 j8 j9) = (4 : Int32) then
          zix (9 : Int32) 23 fun j11 =>
            if (s1 8 j8 j11) = a1 then
            Option.bind (if a2 = 0 then
              some (0 : Int32)
            else
              some (4 : Int32)) fun q12 =>
              zix (3 : Int32) 23 fun j16 =>
              zlet (zu s1 8 j8 j16 q12) fun s1_17 =>
              zix (10 : Int32) 23 fun j18 =>
              zlet (zu s1_17 8 j8 j18 (0 : Int32)) fun s1_19 =>
              zix (8 : Int32) 23 fun j20 =>
              zlet (zu s1_19 8 j8 j20 (-1 : Int32)) fun s1_21 =>
              Option.bind (if a2 = 0 then
              some (-1 : Int32)
            else
              some a1) fun q22 =>
              zix (9 : Int32) 23 fun j26 =>
              zlet (zu s1_21 8 j8 j26 q22) fun s1_27 =>
              zix (1 : Int32) 6 fun j28 =>
              some ((s1_27 11 j3 j28), s0_1, s1_27)
          else
            Option.bind (fMO_no (2 : Int32) s0_1 s1) fun q29 =>
              some (q29.1, q29.2, s1)
        else
          Option.bind (fMO_no (2 : Int32) s0_1 s1) fun q10 =>
            some (q10.1, q10.2, s1)
      else
        zix (3 : Int32) 23 fun j30 =>
          if (s1 8 j8 j30) = (1 : Int32) then
          Option.bind (fMO_no (2 : Int32) s0_1 s1) fun q31 =>
            some (q31.1, q31.2, s1)
        else
          zix (3 : Int32) 23 fun j32 =>
            if (s1 8 j8 j32) = (4 : Int32) then
            Option.bind (fMO_no (2 : Int32) s0_1 s1) fun q50 =>
              some (q50.1, q50.2, s1)
          else
            Option.bind (if a2 = 0 then
              some (0 : Int32)
            else
              some (4 : Int32)) fun q33 =>
              zix (3 : Int32) 23 fun j37 =>
              zlet (zu s1 8 j8 j37 q33) fun s1_38 =>
              zix (10 : Int32) 23 fun j39 =>
              zlet (zu s1_38 8 j8 j39 (0 : Int32)) fun s1_40 =>
              zix (8 : Int32) 23 fun j41 =>
              zlet (zu s1_40 8 j8 j41 (-1 : Int32)) fun s1_42 =>
              Option.bind (if a2 = 0 then
              some (-1 : Int32)
            else
              some a1) fun q43 =>
              zix (9 : Int32) 23 fun j47 =>
              zlet (zu s1_42 8 j8 j47 q43) fun s1_48 =>
              zix (1 : Int32) 6 fun j49 =>
              some ((s1_48 11 j3 j49), s0_1, s1_48)
set_option maxHeartbeats 4000000 in
set_option maxRecDepth 20000 in
theorem bfMO_lock {X : zX} (F : zFr X cX11_lock 5 RX11 (some .int)) (a1 : Int32) (a2 : Int32)  (s0 : zM) (s1 : zM) {κ : Int32 × zM × zM → Option zO} (hκ : ∀ a, κ a = some ((fun a => ((.inl ((fun q => some (zi q.1)) a), (fun q => [q.2.1, q.2.2]) a) : zO)) a)) : zZ X [(4, [1]), (3, [])] 2 43 5 0 [some (zr 0 0 0), some (zi a1), some (zi a2), none, none] [] [s0, s1] (Option.bind (fMO_lock a1 a2 s0 s1) κ) := by
  unfold fMO_lock
  refine zz_aload_n F (i := 0) dX11_lock_0 rfl rfl ?_
  refine zz_iconst F (v := (0 : Int32)) dX11_lock_1 (by decide) ?_
  refine zz_put F (Ms' := [(zu s0 0 0 0 (0 : Int32)), s1]) dX11_lock_2 wpRX11_16 zCl_10 rfl (⟨zlb rfl, zlb rfl, zlb rfl⟩) rfl (by decide) rfl rfl rfl ?_
  refine zz_letm (Mf := fun s0_1 => [s0_1, s1]) fun s0_1 => ?_
  refine zz_aload_n F (i := 0) dX11_lock_5 rfl rfl ?_
  refine zz_iload_n F (i := 1) dX11_lock_6 rfl rfl ?_
  refine zz_bind ?_
  refine zz_callVr F (ρ := [0, 1]) (so := fun q2 => [zi q2]) (Mo := fun q2 => [s0_1, s1]) (zfMO_isVessel a1 s0_1 s1) dX11_lock_7 wcRX11_110 wy_yX11_isVessel rfl ⟨rel15, rfl, rfl, Nat.le_of_ble_eq_true rfl, Nat.le_of_ble_eq_true rfl, Nat.le_of_ble_eq_true rfl⟩ (⟨zlb rfl, zlb rfl, zlb rfl⟩) rfl rfl rfl (fun _ => rfl) (fun _ => rfl) fun q2 => ?_
  refine zz_if_ne F (tgt := 19) dX11_lock_10 (by decide) (fun h => zz_f h ?_) (fun h => zz_t h ?_)
  · refine zz_aload_n F (i := 0) dX11_lock_19 rfl rfl ?_
    refine zz_getr F dX11_lock_20 wfRX11_10 zCl_10 rfl (⟨zlb rfl, zlb rfl, zlb rfl⟩) rfl (by decide) rfl (r' := 1) (by decide) ?_
    refine zz_getr F dX11_lock_23 wfRX11_54 zCl_9 rfl (⟨zlb rfl, zlb rfl, zlb rfl⟩) rfl (by decide) rfl (r' := 1) (by decide) ?_
    refine zz_iload_n F (i := 1) dX11_lock_26 rfl rfl ?_
    refine zz_ix fun j3 hj3 hinj3 hej3 => zz_aal F dX11_lock_27 rfl (⟨zlb rfl, zlb rfl, zlb rfl⟩) rfl (by decide) rfl hinj3 hej3 rfl ?_
    refine zz_astore_n F (i := 3) (L' := [some (zr 0 0 0), some (zi a1), some (zi a2), some (zr 1 11 j3), none]) dX11_lock_28 rfl (by decide) rfl rfl ?_
    refine zz_aload_n F (i := 3) dX11_lock_29 rfl rfl ?_
    refine zz_iconst F (v := (1 : Int32)) dX11_lock_30 (by decide) ?_
    refine zz_ix fun j4 hj4 hinj4 hej4 => zz_ial F dX11_lock_31 rfl (⟨zlb rfl, zlb rfl, hj3⟩) rfl hinj4 hej4 ?_
    refine zz_iconst F (v := (-1 : Int32)) dX11_lock_32 (by decide) ?_
    refine zz_icmp_eq F (tgt := 43) dX11_lock_33 (by decide) (fun h => zz_t h ?_) (fun h => zz_f h ?_)
    · refine zz_aload_n F (i := 0) dX11_lock_43 rfl rfl ?_
      refine zz_iconst F (v := (2 : Int32)) dX11_lock_44 (by decide) ?_
      refine zz_bind ?_
      refine zz_callVr F (ρ := [0, 1]) (so := fun q5 => [zi q5.1]) (Mo := fun q5 => [q5.2, s1]) (zfMO_no (2 : Int32) s0_1 s1) dX11_lock_45 wcRX11_40 wy_yX11_no rfl ⟨rel15, rfl, rfl, Nat.le_of_ble_eq_true rfl, Nat.le_of_ble_eq_true rfl, Nat.le_of_ble_eq_true rfl⟩ (⟨zlb rfl, zlb rfl, zlb rfl⟩) rfl rfl rfl (fun _ => rfl) (fun _ => rfl) fun q5 => ?_
      exact zz_ireturn F dX11_lock_48 rfl (hκ _)
    · refine zz_aload_n F (i := 3) dX11_lock_36 rfl rfl ?_
      refine zz_iconst F (v := (2 : Int32)) dX11_lock_37 (by decide) ?_
      refine zz_ix fun j6 hj6 hinj6 hej6 => zz_ial F dX11_lock_38 rfl (⟨zlb rfl, zlb rfl, hj3⟩) rfl hinj6 hej6 ?_
      refine zz_iconst F (v := (1 : Int32)) dX11_lock_39 (by decide) ?_
      refine zz_icmp_ne F (tgt := 49) dX11_lock_40 (by decide) (fun h => zz_f h ?_) (fun h => zz_t h ?_)
      · refine zz_aload_n F (i := 0) dX11_lock_49 rfl rfl ?_
        refine zz_getr F dX11_lock_50 wfRX11_10 zCl_10 rfl (⟨zlb rfl, zlb rfl, zlb rfl⟩) rfl (by decide) rfl (r' := 1) (by decide) ?_
        refine zz_getr F dX11_lock_53 wfRX11_36 zCl_9 rfl (⟨zlb rfl, zlb rfl, zlb rfl⟩) rfl (by decide) rfl (r' := 1) (by decide) ?_
        refine zz_aload_n F (i := 3) dX11_lock_56 rfl rfl ?_
        refine zz_iconst F (v := (1 : Int32)) dX11_lock_57 (by decide) ?_
        refine zz_ix fun j7 hj7 hinj7 hej7 => zz_ial F dX11_lock_58 rfl (⟨zlb rfl, zlb rfl, hj3⟩) rfl hinj7 hej7 ?_
        refine zz_ix fun j8 hj8 hinj8 hej8 => zz_aal F dX11_lock_59 rfl (⟨zlb rfl, zlb rfl, zlb rfl⟩) rfl (by decide) rfl hinj8 hej8 rfl ?_
        refine zz_astore F (i := 4) (L' := [some (zr 0 0 0), some (zi a1), some (zi a2), some (zr 1 11 j3), some (zr 1 8 j8)]) dX11_lock_60 (by decide) rfl rfl ?_
        refine zz_iload_n F (i := 2) dX11_lock_62 rfl rfl ?_
        refine zz_if_eq F (tgt := 85) dX11_lock_63 (by decide) (fun h => zz_t h ?_) (fun h => zz_f h ?_)
        · refine zz_aload F (i := 4) dX11_lock_85 rfl ?_
          refine zz_iconst F (v := (3 : Int32)) dX11_lock_87 (by decide) ?_
          refine zz_ix fun j9 hj9 hinj9 hej9 => zz_ial F dX11_lock_88 rfl (⟨zlb rfl, zlb rfl, hj8⟩) rfl hinj9 hej9 ?_
          refine zz_iconst F (v := (4 : Int32)) dX11_lock_89 (by decide) ?_
          refine zz_icmp_ne F (tgt := 102) dX11_lock_90 (by decide) (fun h => zz_f h ?_) (fun h => zz_t h ?_)
          · refine zz_aload_n F (i := 0) dX11_lock_102 rfl rfl ?_
            refine zz_iconst F (v := (2 : Int32)) dX11_lock_103 (by decide) ?_
            refine zz_bind ?_
            refine zz_callVr F (ρ := [0, 1]) (so := fun q10 => [zi q10.1]) (Mo := fun q10 => [q10.2, s1]) (zfMO_no (2 : Int32) s0_1 s1) dX11_lock_104 wcRX11_40 wy_yX11_no rfl ⟨rel15, rfl, rfl, Nat.le_of_ble_eq_true rfl, Nat.le_of_ble_eq_true rfl, Nat.le_of_ble_eq_true rfl⟩ (⟨zlb rfl, zlb rfl, zlb rfl⟩) rfl rfl rfl (fun _ => rfl) (fun _ => rfl) fun q10 => ?_
            exact zz_ireturn F dX11_lock_107 rfl (hκ _)
          · refine zz_aload F (i := 4) dX11_lock_93 rfl ?_
            refine zz_bipush F (v := (9 : Int32)) dX11_lock_95 (by decide) ?_
            refine zz_ix fun j11 hj11 hinj11 hej11 => zz_ial F dX11_lock_97 rfl (⟨zlb rfl, zlb rfl, hj8⟩) rfl hinj11 hej11 ?_
            refine zz_iload_n F (i := 1) dX11_lock_98 rfl rfl ?_
            refine zz_icmp_eq F (tgt := 108) dX11_lock_99 (by decide) (fun h => zz_t h ?_) (fun h => zz_f h ?_)
            · refine zz_aload F (i := 4) dX11_lock_108 rfl ?_
              refine zz_iconst F (v := (3 : Int32)) dX11_lock_110 (by decide) ?_
              refine zz_iload_n F (i := 2) dX11_lock_111 rfl rfl ?_
              refine zz_join (pj := 120) (Lj := fun q12 => [none, some (zi a1), some (zi a2), some (zr 1 11 j3), some (zr 1 8 j8)]) (Sj := fun q12 => [zi q12, zi (3 : Int32), zr 1 8 j8]) (Mj := fun q12 => [s0_1, s1]) (fun q12 => ?_) (fun κ14 hj13 => ?_)
              · refine zz_ix fun j16 hj16 hinj16 hej16 => zz_ias F (Ms' := [s0_1, (zu s1 8 j8 j16 q12)]) dX11_lock_120 rfl (⟨zlb rfl, zlb rfl, hj8⟩) rfl hinj16 hej16 rfl ?_
                refine zz_letm (Mf := fun s1_17 => [s0_1, s1_17]) fun s1_17 => ?_
                refine zz_aload F (i := 4) dX11_lock_121 rfl ?_
                refine zz_bipush F (v := (10 : Int32)) dX11_lock_123 (by decide) ?_
                refine zz_iconst F (v := (0 : Int32)) dX11_lock_125 (by decide) ?_
                refine zz_ix fun j18 hj18 hinj18 hej18 => zz_ias F (Ms' := [s0_1, (zu s1_17 8 j8 j18 (0 : Int32))]) dX11_lock_126 rfl (⟨zlb rfl, zlb rfl, hj8⟩) rfl hinj18 hej18 rfl ?_
                refine zz_letm (Mf := fun s1_19 => [s0_1, s1_19]) fun s1_19 => ?_
                refine zz_aload F (i := 4) dX11_lock_127 rfl ?_
                refine zz_bipush F (v := (8 : Int32)) dX11_lock_129 (by decide) ?_
                refine zz_iconst F (v := (-1 : Int32)) dX11_lock_131 (by decide) ?_
                refine zz_ix fun j20 hj20 hinj20 hej20 => zz_ias F (Ms' := [s0_1, (zu s1_19 8 j8 j20 (-1 : Int32))]) dX11_lock_132 rfl (⟨zlb rfl, zlb rfl, hj8⟩) rfl hinj20 hej20 rfl ?_
                refine zz_letm (Mf := fun s1_21 => [s0_1, s1_21]) fun s1_21 => ?_
                refine zz_aload F (i := 4) dX11_lock_133 rfl ?_
                refine zz_bipush F (v := (9 : Int32)) dX11_lock_135 (by decide) ?_
                refine zz_iload_n F (i := 2) dX11_lock_137 rfl rfl ?_
                refine zz_join (pj := 146) (Lj := fun q22 => [none, none, none, some (zr 1 11 j3), none]) (Sj := fun q22 => [zi q22, zi (9 : Int32), zr 1 8 j8]) (Mj := fun q22 => [s0_1, s1_21]) (fun q22 => ?_) (fun κ24 hj23 => ?_)
                · refine zz_ix fun j26 hj26 hinj26 hej26 => zz_ias F (Ms' := [s0_1, (zu s1_21 8 j8 j26 q22)]) dX11_lock_146 rfl (⟨zlb rfl, zlb rfl, hj8⟩) rfl hinj26 hej26 rfl ?_
                  refine zz_letm (Mf := fun s1_27 => [s0_1, s1_27]) fun s1_27 => ?_
                  refine zz_aload_n F (i := 3) dX11_lock_147 rfl rfl ?_
                  refine zz_iconst F (v := (1 : Int32)) dX11_lock_148 (by decide) ?_
                  refine zz_ix fun j28 hj28 hinj28 hej28 => zz_ial F dX11_lock_149 rfl (⟨zlb rfl, zlb rfl, hj3⟩) rfl hinj28 hej28 ?_
                  exact zz_ireturn F dX11_lock_150 rfl (hκ _)
                · refine zz_if_eq F (tgt := 145) dX11_lock_138 (by decide) (fun h => zz_t h ?_) (fun h => zz_f h ?_)
                  · refine zz_iconst F (v := (-1 : Int32)) dX11_lock_145 (by decide) ?_
                    exact zz_sub (zs_k (zs_n (zs_n (zs_k (zs_n zs_z))))) (hj23 (-1 : Int32))
                  · refine zz_iload_n F (i := 1) dX11_lock_141 rfl rfl ?_
                    refine zz_goto F (tgt := 146) dX11_lock_142 (by decide) ?_
                    exact zz_sub (zs_k (zs_n (zs_n (zs_k (zs_n zs_z))))) (hj23 a1)
              · refine zz_if_eq F (tgt := 119) dX11_lock_112 (by decide) (fun h => zz_t h ?_) (fun h => zz_f h ?_)
                · refine zz_iconst F (v := (0 : Int32)) dX11_lock_119 (by decide) ?_
                  exact zz_sub (zs_n (zs_k (zs_k (zs_k (zs_k zs_z))))) (hj13 (0 : Int32))
                · refine zz_iconst F (v := (4 : Int32)) dX11_lock_115 (by decide) ?_
                  refine zz_goto F (tgt := 120) dX11_lock_116 (by decide) ?_
                  exact zz_sub (zs_n (zs_k (zs_k (zs_k (zs_k zs_z))))) (hj13 (4 : Int32))
            · refine zz_aload_n F (i := 0) dX11_lock_102 rfl rfl ?_
              refine zz_iconst F (v := (2 : Int32)) dX11_lock_103 (by decide) ?_
              refine zz_bind ?_
              refine zz_callVr F (ρ := [0, 1]) (so := fun q29 => [zi q29.1]) (Mo := fun q29 => [q29.2, s1]) (zfMO_no (2 : Int32) s0_1 s1) dX11_lock_104 wcRX11_40 wy_yX11_no rfl ⟨rel15, rfl, rfl, Nat.le_of_ble_eq_true rfl, Nat.le_of_ble_eq_true rfl, Nat.le_of_ble_eq_true rfl⟩ (⟨zlb rfl, zlb rfl, zlb rfl⟩) rfl rfl rfl (fun _ => rfl) (fun _ => rfl) fun q29 => ?_
              exact zz_ireturn F dX11_lock_107 rfl (hκ _)
        · refine zz_aload F (i := 4) dX11_lock_66 rfl ?_
          refine zz_iconst F (v := (3 : Int32)) dX11_lock_68 (by decide) ?_
          refine zz_ix fun j30 hj30 hinj30 hej30 => zz_ial F dX11_lock_69 rfl (⟨zlb rfl, zlb rfl, hj8⟩) rfl hinj30 hej30 ?_
          refine zz_iconst F (v := (1 : Int32)) dX11_lock_70 (by decide) ?_
          refine zz_icmp_eq F (tgt := 102) dX11_lock_71 (by decide) (fun h => zz_t h ?_) (fun h => zz_f h ?_)
          · refine zz_aload_n F (i := 0) dX11_lock_102 rfl rfl ?_
            refine zz_iconst F (v := (2 : Int32)) dX11_lock_103 (by decide) ?_
            refine zz_bind ?_
            refine zz_callVr F (ρ := [0, 1]) (so := fun q31 => [zi q31.1]) (Mo := fun q31 => [q31.2, s1]) (zfMO_no (2 : Int32) s0_1 s1) dX11_lock_104 wcRX11_40 wy_yX11_no rfl ⟨rel15, rfl, rfl, Nat.le_of_ble_eq_true rfl, Nat.le_of_ble_eq_true rfl, Nat.le_of_ble_eq_true rfl⟩ (⟨zlb rfl, zlb rfl, zlb rfl⟩) rfl rfl rfl (fun _ => rfl) (fun _ => rfl) fun q31 => ?_
            exact zz_ireturn F dX11_lock_107 rfl (hκ _)
          · refine zz_aload F (i := 4) dX11_lock_74 rfl ?_
            refine zz_iconst F (v := (3 : Int32)) dX11_lock_76 (by decide) ?_
            refine zz_ix fun j32 hj32 hinj32 hej32 => zz_ial F dX11_lock_77 rfl (⟨zlb rfl, zlb rfl, hj8⟩) rfl hinj32 hej32 ?_
            refine zz_iconst F (v := (4 : Int32)) dX11_lock_78 (by decide) ?_
            refine zz_icmp_ne F (tgt := 108) dX11_lock_79 (by decide) (fun h => zz_f h ?_) (fun h => zz_t h ?_)
            · refine zz_aload F (i := 4) dX11_lock_108 rfl ?_
              refine zz_iconst F (v := (3 : Int32)) dX11_lock_110 (by decide) ?_
              refine zz_iload_n F (i := 2) dX11_lock_111 rfl rfl ?_
              refine zz_join (pj := 120) (Lj := fun q33 => [none, some (zi a1), some (zi a2), some (zr 1 11 j3), some (zr 1 8 j8)]) (Sj := fun q33 => [zi q33, zi (3 : Int32), zr 1 8 j8]) (Mj := fun q33 => [s0_1, s1]) (fun q33 => ?_) (fun κ35 hj34 => ?_)
              · refine zz_ix fun j37 hj37 hinj37 hej37 => zz_ias F (Ms' := [s0_1, (zu s1 8 j8 j37 q33)]) dX11_lock_120 rfl (⟨zlb rfl, zlb rfl, hj8⟩) rfl hinj37 hej37 rfl ?_
                refine zz_letm (Mf := fun s1_38 => [s0_1, s1_38]) fun s1_38 => ?_
                refine zz_aload F (i := 4) dX11_lock_121 rfl ?_
                refine zz_bipush F (v := (10 : Int32)) dX11_lock_123 (by decide) ?_
                refine zz_iconst F (v := (0 : Int32)) dX11_lock_125 (by decide) ?_
                refine zz_ix fun j39 hj39 hinj39 hej39 => zz_ias F (Ms' := [s0_1, (zu s1_38 8 j8 j39 (0 : Int32))]) dX11_lock_126 rfl (⟨zlb rfl, zlb rfl, hj8⟩) rfl hinj39 hej39 rfl ?_
                refine zz_letm (Mf := fun s1_40 => [s0_1, s1_40]) fun s1_40 => ?_
                refine zz_aload F (i := 4) dX11_lock_127 rfl ?_
                refine zz_bipush F (v := (8 : Int32)) dX11_lock_129 (by decide) ?_
                refine zz_iconst F (v := (-1 : Int32)) dX11_lock_131 (by decide) ?_
                refine zz_ix fun j41 hj41 hinj41 hej41 => zz_ias F (Ms' := [s0_1, (zu s1_40 8 j8 j41 (-1 : Int32))]) dX11_lock_132 rfl (⟨zlb rfl, zlb rfl, hj8⟩) rfl hinj41 hej41 rfl ?_
                refine zz_letm (Mf := fun s1_42 => [s0_1, s1_42]) fun s1_42 => ?_
                refine zz_aload F (i := 4) dX11_lock_133 rfl ?_
                refine zz_bipush F (v := (9 : Int32)) dX11_lock_135 (by decide) ?_
                refine zz_iload_n F (i := 2) dX11_lock_137 rfl rfl ?_
                refine zz_join (pj := 146) (Lj := fun q43 => [none, none, none, some (zr 1 11 j3), none]) (Sj := fun q43 => [zi q43, zi (9 : Int32), zr 1 8 j8]) (Mj := fun q43 => [s0_1, s1_42]) (fun q43 => ?_) (fun κ45 hj44 => ?_)
                · refine zz_ix fun j47 hj47 hinj47 hej47 => zz_ias F (Ms' := [s0_1, (zu s1_42 8 j8 j47 q43)]) dX11_lock_146 rfl (⟨zlb rfl, zlb rfl, hj8⟩) rfl hinj47 hej47 rfl ?_
                  refine zz_letm (Mf := fun s1_48 => [s0_1, s1_48]) fun s1_48 => ?_
                  refine zz_aload_n F (i := 3) dX11_lock_147 rfl rfl ?_
                  refine zz_iconst F (v := (1 : Int32)) dX11_lock_148 (by decide) ?_
                  refine zz_ix fun j49 hj49 hinj49 hej49 => zz_ial F dX11_lock_149 rfl (⟨zlb rfl, zlb rfl, hj3⟩) rfl hinj49 hej49 ?_
                  exact zz_ireturn F dX11_lock_150 rfl (hκ _)
                · refine zz_if_eq F (tgt := 145) dX11_lock_138 (by decide) (fun h => zz_t h ?_) (fun h => zz_f h ?_)
                  · refine zz_iconst F (v := (-1 : Int32)) dX11_lock_145 (by decide) ?_
                    exact zz_sub (zs_k (zs_n (zs_n (zs_k (zs_n zs_z))))) (hj44 (-1 : Int32))
                  · refine zz_iload_n F (i := 1) dX11_lock_141 rfl rfl ?_
                    refine zz_goto F (tgt := 146) dX11_lock_142 (by decide) ?_
                    exact zz_sub (zs_k (zs_n (zs_n (zs_k (zs_n zs_z))))) (hj44 a1)
              · refine zz_if_eq F (tgt := 119) dX11_lock_112 (by decide) (fun h => zz_t h ?_) (fun h => zz_f h ?_)
                · refine zz_iconst F (v := (0 : Int32)) dX11_lock_119 (by decide) ?_
                  exact zz_sub (zs_n (zs_k (zs_k (zs_k (zs_k zs_z))))) (hj34 (0 : Int32))
                · refine zz_iconst F (v := (4 : Int32)) dX11_lock_115 (by decide) ?_
                  refine zz_goto F (tgt := 120) dX11_lock_116 (by decide) ?_
                  exact zz_sub (zs_n (zs_k (zs_k (zs_k (zs_k zs_z))))) (hj34 (4 : Int32))
            · refine zz_goto F (tgt := 102) dX11_lock_82 (by decide) ?_
              refine zz_aload_n F (i := 0) dX11_lock_102 rfl rfl ?_
              refine zz_iconst F (v := (2 : Int32)) dX11_lock_103 (by decide) ?_
              refine zz_bind ?_
              refine zz_callVr F (ρ := [0, 1]) (so := fun q50 => [zi q50.1]) (Mo := fun q50 => [q50.2, s1]) (zfMO_no (2 : Int32) s0_1 s1) dX11_lock_104 wcRX11_40 wy_yX11_no rfl ⟨rel15, rfl, rfl, Nat.le_of_ble_eq_true rfl, Nat.le_of_ble_eq_true rfl, Nat.le_of_ble_eq_true rfl⟩ (⟨zlb rfl, zlb rfl, zlb rfl⟩) rfl rfl rfl (fun _ => rfl) (fun _ => rfl) fun q50 => ?_
              exact zz_ireturn F dX11_lock_107 rfl (hκ _)
      · refine zz_aload_n F (i := 0) dX11_lock_43 rfl rfl ?_
        refine zz_iconst F (v := (2 : Int32)) dX11_lock_44 (by decide) ?_
        refine zz_bind ?_
        refine zz_callVr F (ρ := [0, 1]) (so := fun q51 => [zi q51.1]) (Mo := fun q51 => [q51.2, s1]) (zfMO_no (2 : Int32) s0_1 s1) dX11_lock_45 wcRX11_40 wy_yX11_no rfl ⟨rel15, rfl, rfl, Nat.le_of_ble_eq_true rfl, Nat.le_of_ble_eq_true rfl, Nat.le_of_ble_eq_true rfl⟩ (⟨zlb rfl, zlb rfl, zlb rfl⟩) rfl rfl rfl (fun _ => rfl) (fun _ => rfl) fun q51 => ?_
        exact zz_ireturn F dX11_lock_48 rfl (hκ _)
  · refine zz_aload_n F (i := 0) dX11_lock_13 rfl rfl ?_
    refine zz_iconst F (v := (1 : Int32)) dX11_lock_14 (by decide) ?_
    refine zz_bind ?_
    refine zz_callVr F (ρ := [0, 1]) (so := fun q52 => [zi q52.1]) (Mo := fun q52 => [q52.2, s1]) (zfMO_no (1 : Int32) s0_1 s1) dX11_lock_15 wcRX11_40 wy_yX11_no rfl ⟨rel15, rfl, rfl, Nat.le_of_ble_eq_true rfl, Nat.le_of_ble_eq_true rfl, Nat.le_of_ble_eq_true rfl⟩ (⟨zlb rfl, zlb rfl, zlb rfl⟩) rfl rfl rfl (fun _ => rfl) (fun _ => rfl) fun q52 => ?_
    exact zz_ireturn F dX11_lock_18 rfl (hκ _)
theorem zfMO_lock (a1 : Int32) (a2 : Int32)  (s0 : zM) (s1 : zM) : ∀ a, fMO_lock a1 a2 s0 s1 = some a → zMet yX11_lock cX11_lock 5 (some .int) 2 43 [(4, [1]), (3, [])] [zr 0 0 0, zi a1, zi a2] [s0, s1] ((fun a => ((.inl ((fun q => some (zi q.1)) a), (fun q => [q.2.1, q.2.2]) a) : zO)) a) := fun a ha => zMet_of (L0 := [some (zr 0 0 0), some (zi a1), some (zi a2), none, none]) (φ := Option.bind (fMO_lock a1 a2 s0 s1) (fun a => some ((fun a => ((.inl ((fun q => some (zi q.1)) a), (fun q => [q.2.1, q.2.2]) a) : zO)) a))) (by decide) (fun _ => Nat.le_of_ble_eq_true rfl) (zl0 2 rfl) (fun X F => bfMO_lock F a1 a2 s0 s1 (fun _ => rfl)) (by rw [ha]; rfl)

theorem dX11_climb_0 : decode cX11_climb 0 = .ok (.aload_n 0, 1) := by decide +kernel
theorem dX11_climb_1 : decode cX11_climb 1 = .ok (.iconst 0, 1) := by decide +kernel
theorem dX11_climb_2 : decode cX11_climb 2 = .ok (.putfield 16, 3) := by decide +kernel
theorem dX11_climb_5 : decode cX11_climb 5 = .ok (.aload_n 0, 1) := by decide +kernel
theorem dX11_climb_6 : decode cX11_climb 6 = .ok (.iload_n 1, 1) := by decide +kernel
theorem dX11_climb_7 : decode cX11_climb 7 = .ok (.invokevirtual 110, 3) := by decide +kernel
theorem dX11_climb_10 : decode cX11_climb 10 = .ok (.ifCond .eq 12, 3) := by decide +kernel
theorem dX11_climb_13 : decode cX11_climb 13 = .ok (.iload_n 2, 1) := by decide +kernel
theorem dX11_climb_14 : decode cX11_climb 14 = .ok (.iconst 0, 1) := by decide +kernel
theorem dX11_climb_15 : decode cX11_climb 15 = .ok (.iconst 2, 1) := by decide +kernel
theorem dX11_climb_16 : decode cX11_climb 16 = .ok (.invokestatic 20, 3) := by decide +kernel
theorem dX11_climb_19 : decode cX11_climb 19 = .ok (.ifCond .ne 9, 3) := by decide +kernel
theorem dX11_climb_22 : decode cX11_climb 22 = .ok (.aload_n 0, 1) := by decide +kernel
theorem dX11_climb_23 : decode cX11_climb 23 = .ok (.iconst 1, 1) := by decide +kernel
theorem dX11_climb_24 : decode cX11_climb 24 = .ok (.invokevirtual 40, 3) := by decide +kernel
theorem dX11_climb_27 : decode cX11_climb 27 = .ok (.ireturn, 1) := by decide +kernel
theorem dX11_climb_28 : decode cX11_climb 28 = .ok (.aload_n 0, 1) := by decide +kernel
theorem dX11_climb_29 : decode cX11_climb 29 = .ok (.getfield 10, 3) := by decide +kernel
theorem dX11_climb_32 : decode cX11_climb 32 = .ok (.getfield 54, 3) := by decide +kernel
theorem dX11_climb_35 : decode cX11_climb 35 = .ok (.iload_n 1, 1) := by decide +kernel
theorem dX11_climb_36 : decode cX11_climb 36 = .ok (.aaload, 1) := by decide +kernel
theorem dX11_climb_37 : decode cX11_climb 37 = .ok (.astore_n 3, 1) := by decide +kernel
theorem dX11_climb_38 : decode cX11_climb 38 = .ok (.aload_n 3, 1) := by decide +kernel
theorem dX11_climb_39 : decode cX11_climb 39 = .ok (.iconst 1, 1) := by decide +kernel
theorem dX11_climb_40 : decode cX11_climb 40 = .ok (.iaload, 1) := by decide +kernel
theorem dX11_climb_41 : decode cX11_climb 41 = .ok (.iconst (-1), 1) := by decide +kernel
theorem dX11_climb_42 : decode cX11_climb 42 = .ok (.if_icmp .ne 5, 3) := by decide +kernel
theorem dX11_climb_45 : decode cX11_climb 45 = .ok (.iconst 1, 1) := by decide +kernel
theorem dX11_climb_46 : decode cX11_climb 46 = .ok (.ireturn, 1) := by decide +kernel
theorem dX11_climb_47 : decode cX11_climb 47 = .ok (.aload_n 3, 1) := by decide +kernel
theorem dX11_climb_48 : decode cX11_climb 48 = .ok (.iconst 2, 1) := by decide +kernel
theorem dX11_climb_49 : decode cX11_climb 49 = .ok (.iaload, 1) := by decide +kernel
theorem dX11_climb_50 : decode cX11_climb 50 = .ok (.iconst 1, 1) := by decide +kernel
theorem dX11_climb_51 : decode cX11_climb 51 = .ok (.if_icmp .ne 5, 3) := by decide +kernel
theorem dX11_climb_54 : decode cX11_climb 54 = .ok (.iconst 2, 1) := by decide +kernel
theorem dX11_climb_55 : decode cX11_climb 55 = .ok (.ireturn, 1) := by decide +kernel
theorem dX11_climb_56 : decode cX11_climb 56 = .ok (.aload_n 0, 1) := by decide +kernel
theorem dX11_climb_57 : decode cX11_climb 57 = .ok (.getfield 10, 3) := by decide +kernel
theorem dX11_climb_60 : decode cX11_climb 60 = .ok (.getfield 36, 3) := by decide +kernel
theorem dX11_climb_63 : decode cX11_climb 63 = .ok (.aload_n 3, 1) := by decide +kernel
theorem dX11_climb_64 : decode cX11_climb 64 = .ok (.iconst 1, 1) := by decide +kernel
theorem dX11_climb_65 : decode cX11_climb 65 = .ok (.iaload, 1) := by decide +kernel
theorem dX11_climb_66 : decode cX11_climb 66 = .ok (.aaload, 1) := by decide +kernel
theorem dX11_climb_67 : decode cX11_climb 67 = .ok (.bipush 9, 2) := by decide +kernel
theorem dX11_climb_69 : decode cX11_climb 69 = .ok (.iaload, 1) := by decide +kernel
theorem dX11_climb_70 : decode cX11_climb 70 = .ok (.iload_n 1, 1) := by decide +kernel
theorem dX11_climb_71 : decode cX11_climb 71 = .ok (.if_icmp .eq 5, 3) := by decide +kernel
theorem dX11_climb_74 : decode cX11_climb 74 = .ok (.iconst 3, 1) := by decide +kernel
theorem dX11_climb_75 : decode cX11_climb 75 = .ok (.ireturn, 1) := by decide +kernel
theorem dX11_climb_76 : decode cX11_climb 76 = .ok (.aload_n 0, 1) := by decide +kernel
theorem dX11_climb_77 : decode cX11_climb 77 = .ok (.getfield 10, 3) := by decide +kernel
theorem dX11_climb_80 : decode cX11_climb 80 = .ok (.getfield 83, 3) := by decide +kernel
theorem dX11_climb_83 : decode cX11_climb 83 = .ok (.aload_n 3, 1) := by decide +kernel
theorem dX11_climb_84 : decode cX11_climb 84 = .ok (.iconst 0, 1) := by decide +kernel
theorem dX11_climb_85 : decode cX11_climb 85 = .ok (.iaload, 1) := by decide +kernel
theorem dX11_climb_86 : decode cX11_climb 86 = .ok (.if_icmp .le 5, 3) := by decide +kernel
theorem dX11_climb_89 : decode cX11_climb 89 = .ok (.iconst 4, 1) := by decide +kernel
theorem dX11_climb_90 : decode cX11_climb 90 = .ok (.ireturn, 1) := by decide +kernel
theorem dX11_climb_91 : decode cX11_climb 91 = .ok (.aload_n 0, 1) := by decide +kernel
theorem dX11_climb_92 : decode cX11_climb 92 = .ok (.getfield 10, 3) := by decide +kernel
theorem dX11_climb_95 : decode cX11_climb 95 = .ok (.getfield 63, 3) := by decide +kernel
theorem dX11_climb_98 : decode cX11_climb 98 = .ok (.bipush 24, 2) := by decide +kernel
theorem dX11_climb_100 : decode cX11_climb 100 = .ok (.irem, 1) := by decide +kernel
theorem dX11_climb_101 : decode cX11_climb 101 = .ok (.bipush 7, 2) := by decide +kernel
theorem dX11_climb_103 : decode cX11_climb 103 = .ok (.bipush 18, 2) := by decide +kernel
theorem dX11_climb_105 : decode cX11_climb 105 = .ok (.invokestatic 20, 3) := by decide +kernel
theorem dX11_climb_108 : decode cX11_climb 108 = .ok (.ifCond .ne 5, 3) := by decide +kernel
theorem dX11_climb_111 : decode cX11_climb 111 = .ok (.iconst 5, 1) := by decide +kernel
theorem dX11_climb_112 : decode cX11_climb 112 = .ok (.ireturn, 1) := by decide +kernel
theorem dX11_climb_113 : decode cX11_climb 113 = .ok (.aload_n 3, 1) := by decide +kernel
theorem dX11_climb_114 : decode cX11_climb 114 = .ok (.iconst 2, 1) := by decide +kernel
theorem dX11_climb_115 : decode cX11_climb 115 = .ok (.iconst 1, 1) := by decide +kernel
theorem dX11_climb_116 : decode cX11_climb 116 = .ok (.iastore, 1) := by decide +kernel
theorem dX11_climb_117 : decode cX11_climb 117 = .ok (.aload_n 3, 1) := by decide +kernel
theorem dX11_climb_118 : decode cX11_climb 118 = .ok (.iconst 3, 1) := by decide +kernel
theorem dX11_climb_119 : decode cX11_climb 119 = .ok (.iload_n 2, 1) := by decide +kernel
theorem dX11_climb_120 : decode cX11_climb 120 = .ok (.iastore, 1) := by decide +kernel
theorem dX11_climb_121 : decode cX11_climb 121 = .ok (.aload_n 3, 1) := by decide +kernel
theorem dX11_climb_122 : decode cX11_climb 122 = .ok (.iconst 4, 1) := by decide +kernel
theorem dX11_climb_123 : decode cX11_climb 123 = .ok (.iload_n 2, 1) := by decide +kernel
theorem dX11_climb_124 : decode cX11_climb 124 = .ok (.ifCond .ne 7, 3) := by decide +kernel
theorem dX11_climb_127 : decode cX11_climb 127 = .ok (.iconst 4, 1) := by decide +kernel
theorem dX11_climb_128 : decode cX11_climb 128 = .ok (.goto 14, 3) := by decide +kernel
theorem dX11_climb_131 : decode cX11_climb 131 = .ok (.iload_n 2, 1) := by decide +kernel
theorem dX11_climb_132 : decode cX11_climb 132 = .ok (.iconst 1, 1) := by decide +kernel
theorem dX11_climb_133 : decode cX11_climb 133 = .ok (.if_icmp .ne 7, 3) := by decide +kernel
theorem dX11_climb_136 : decode cX11_climb 136 = .ok (.iconst 2, 1) := by decide +kernel
theorem dX11_climb_137 : decode cX11_climb 137 = .ok (.goto 5, 3) := by decide +kernel
theorem dX11_climb_140 : decode cX11_climb 140 = .ok (.bipush 6, 2) := by decide +kernel
theorem dX11_climb_142 : decode cX11_climb 142 = .ok (.iastore, 1) := by decide +kernel
theorem dX11_climb_143 : decode cX11_climb 143 = .ok (.iconst 0, 1) := by decide +kernel
theorem dX11_climb_144 : decode cX11_climb 144 = .ok (.ireturn, 1) := by decide +kernel
theorem wfRX11_83 : zFl RX11 83 9 13 := ⟨_, rfl, by decide, zm_f 994 (by decide +kernel) rfl⟩
def fMO_climb (a1 : Int32) (a2 : Int32) (s0 : zM) (s1 : zM) : Option (Int32 × zM × zM) :=
  zlet (zu s0 0 0 0 (0 : Int32)) fun s0_1 =>
  Option.bind (fMO_isVessel a1 s0_1 s1) fun q2 =>
  if q2 = 0 then
  Option.bind (fMO_no (1 : Int32) s0_1 s1) fun q3 =>
    some (q3.1, q3.2, s1)
else
  Option.bind (fMO_in a2 (0 : Int32) (2 : Int32)) fun q4 =>
    if q4 = 0 then
    Option.bind (fMO_no (1 : Int32) s0_1 s1) fun q23 =>
      some (q23.1, q23.2, s1)
  else
    zix a1 3 fun j5 =>
      zix (1 : Int32) 6 fun j6 =>
      if (s1 11 j5 j6) = (-1 : Int32) then
      some ((1 : Int32), s0_1, s1)
    else
      zix (2 : Int32) 6 fun j7 =>
        if (s1 11 j5 j7) = (1 : Int32) then
        some ((2 : Int32), s0_1, s1)
      else
        zix (1 : Int32) 6 fun j8 =>
          zix (s1 11 j5 j8) 8 fun j9 =>
          zix (9 : Int32) 23 fun j10 =>
          if (s1 8 j9 j10) = a1 then
          zix (0 : Int32) 6 fun j11 =>
            if (s1 0 0 13) ≤ (s1 11 j5 j11) then
            Option.bind (fMO_in ((s1 0 0 10) % (24 : Int32)) (7 : Int32) (18 : Int32)) fun q12 =>
              if q12 = 0 then
              some ((5 : Int32), s0_1, s1)
            else
              zix (2 : Int32) 6 fun j13 =>
                zlet (zu s1 11 j5 j13 (1 : Int32)) fun s1_14 =>
                zix (3 : Int32) 6 fun j15 =>
                zlet (zu s1_14 11 j5 j15 a2) fun s1_16 =>
                Option.bind (if a2 = 0 then
                some (4 : Int32)
              else
                if a2 = (1 : Int32) then
                  some (2 : Int32)
                else
                  some (6 : Int32)) fun q17 =>
                zix (4 : Int32) 6 fun j21 =>
                zlet (zu s1_16 11 j5 j21 q17) fun s1_22 =>
                some ((0 : Int32), s0_1, s1_22)
          else
            some ((4 : Int32), s0_1, s1)
        else
          some ((3 : Int32), s0_1, s1)
set_option maxHeartbeats 4000000 in
set_option maxRecDepth 20000 in
theorem bfMO_climb {X : zX} (F : zFr X cX11_climb 4 RX11 (some .int)) (a1 : Int32) (a2 : Int32)  (s0 : zM) (s1 : zM) {κ : Int32 × zM × zM → Option zO} (hκ : ∀ a, κ a = some ((fun a => ((.inl ((fun q => some (zi q.1)) a), (fun q => [q.2.1, q.2.2]) a) : zO)) a)) : zZ X [(4, [1]), (3, [])] 2 43 4 0 [some (zr 0 0 0), some (zi a1), some (zi a2), none] [] [s0, s1] (Option.bind (fMO_climb a1 a2 s0 s1) κ) := by
  unfold fMO_climb
  refine zz_aload_n F (i := 0) dX11_climb_0 rfl rfl ?_
  refine zz_iconst F (v := (0 : Int32)) dX11_climb_1 (by decide) ?_
  refine zz_put F (Ms' := [(zu s0 0 0 0 (0 : Int32)), s1]) dX11_climb_2 wpRX11_16 zCl_10 rfl (⟨zlb rfl, zlb rfl, zlb rfl⟩) rfl (by decide) rfl rfl rfl ?_
  refine zz_letm (Mf := fun s0_1 => [s0_1, s1]) fun s0_1 => ?_
  refine zz_aload_n F (i := 0) dX11_climb_5 rfl rfl ?_
  refine zz_iload_n F (i := 1) dX11_climb_6 rfl rfl ?_
  refine zz_bind ?_
  refine zz_callVr F (ρ := [0, 1]) (so := fun q2 => [zi q2]) (Mo := fun q2 => [s0_1, s1]) (zfMO_isVessel a1 s0_1 s1) dX11_climb_7 wcRX11_110 wy_yX11_isVessel rfl ⟨rel15, rfl, rfl, Nat.le_of_ble_eq_true rfl, Nat.le_of_ble_eq_true rfl, Nat.le_of_ble_eq_true rfl⟩ (⟨zlb rfl, zlb rfl, zlb rfl⟩) rfl rfl rfl (fun _ => rfl) (fun _ => rfl) fun q2 => ?_
  refine zz_if_eq F (tgt := 22) dX11_climb_10 (by decide) (fun h => zz_t h ?_) (fun h => zz_f h ?_)
  · refine zz_aload_n F (i := 0) dX11_climb_22 rfl rfl ?_
    refine zz_iconst F (v := (1 : Int32)) dX11_climb_23 (by decide) ?_
    refine zz_bind ?_
    refine zz_callVr F (ρ := [0, 1]) (so := fun q3 => [zi q3.1]) (Mo := fun q3 => [q3.2, s1]) (zfMO_no (1 : Int32) s0_1 s1) dX11_climb_24 wcRX11_40 wy_yX11_no rfl ⟨rel15, rfl, rfl, Nat.le_of_ble_eq_true rfl, Nat.le_of_ble_eq_true rfl, Nat.le_of_ble_eq_true rfl⟩ (⟨zlb rfl, zlb rfl, zlb rfl⟩) rfl rfl rfl (fun _ => rfl) (fun _ => rfl) fun q3 => ?_
    exact zz_ireturn F dX11_climb_27 rfl (hκ _)
  · refine zz_iload_n F (i := 2) dX11_climb_13 rfl rfl ?_
    refine zz_iconst F (v := (0 : Int32)) dX11_climb_14 (by decide) ?_
    refine zz_iconst F (v := (2 : Int32)) dX11_climb_15 (by decide) ?_
    refine zz_bind ?_
    refine zz_callSr F (ρ := []) (so := fun q4 => [zi q4]) (Mo := fun q4 => [s0_1, s1]) (zfMO_in a2 (0 : Int32) (2 : Int32)) dX11_climb_16 wcRX11_20 wy_yX11_in rfl ⟨rel14, rfl, rfl, Nat.le_of_ble_eq_true rfl, Nat.le_of_ble_eq_true rfl, Nat.le_of_ble_eq_true rfl⟩ rfl (fun _ => rfl) (fun _ => rfl) fun q4 => ?_
    refine zz_if_ne F (tgt := 28) dX11_climb_19 (by decide) (fun h => zz_f h ?_) (fun h => zz_t h ?_)
    · refine zz_aload_n F (i := 0) dX11_climb_28 rfl rfl ?_
      refine zz_getr F dX11_climb_29 wfRX11_10 zCl_10 rfl (⟨zlb rfl, zlb rfl, zlb rfl⟩) rfl (by decide) rfl (r' := 1) (by decide) ?_
      refine zz_getr F dX11_climb_32 wfRX11_54 zCl_9 rfl (⟨zlb rfl, zlb rfl, zlb rfl⟩) rfl (by decide) rfl (r' := 1) (by decide) ?_
      refine zz_iload_n F (i := 1) dX11_climb_35 rfl rfl ?_
      refine zz_ix fun j5 hj5 hinj5 hej5 => zz_aal F dX11_climb_36 rfl (⟨zlb rfl, zlb rfl, zlb rfl⟩) rfl (by decide) rfl hinj5 hej5 rfl ?_
      refine zz_astore_n F (i := 3) (L' := [some (zr 0 0 0), some (zi a1), some (zi a2), some (zr 1 11 j5)]) dX11_climb_37 rfl (by decide) rfl rfl ?_
      refine zz_aload_n F (i := 3) dX11_climb_38 rfl rfl ?_
      refine zz_iconst F (v := (1 : Int32)) dX11_climb_39 (by decide) ?_
      refine zz_ix fun j6 hj6 hinj6 hej6 => zz_ial F dX11_climb_40 rfl (⟨zlb rfl, zlb rfl, hj5⟩) rfl hinj6 hej6 ?_
      refine zz_iconst F (v := (-1 : Int32)) dX11_climb_41 (by decide) ?_
      refine zz_icmp_ne F (tgt := 47) dX11_climb_42 (by decide) (fun h => zz_f h ?_) (fun h => zz_t h ?_)
      · refine zz_aload_n F (i := 3) dX11_climb_47 rfl rfl ?_
        refine zz_iconst F (v := (2 : Int32)) dX11_climb_48 (by decide) ?_
        refine zz_ix fun j7 hj7 hinj7 hej7 => zz_ial F dX11_climb_49 rfl (⟨zlb rfl, zlb rfl, hj5⟩) rfl hinj7 hej7 ?_
        refine zz_iconst F (v := (1 : Int32)) dX11_climb_50 (by decide) ?_
        refine zz_icmp_ne F (tgt := 56) dX11_climb_51 (by decide) (fun h => zz_f h ?_) (fun h => zz_t h ?_)
        · refine zz_aload_n F (i := 0) dX11_climb_56 rfl rfl ?_
          refine zz_getr F dX11_climb_57 wfRX11_10 zCl_10 rfl (⟨zlb rfl, zlb rfl, zlb rfl⟩) rfl (by decide) rfl (r' := 1) (by decide) ?_
          refine zz_getr F dX11_climb_60 wfRX11_36 zCl_9 rfl (⟨zlb rfl, zlb rfl, zlb rfl⟩) rfl (by decide) rfl (r' := 1) (by decide) ?_
          refine zz_aload_n F (i := 3) dX11_climb_63 rfl rfl ?_
          refine zz_iconst F (v := (1 : Int32)) dX11_climb_64 (by decide) ?_
          refine zz_ix fun j8 hj8 hinj8 hej8 => zz_ial F dX11_climb_65 rfl (⟨zlb rfl, zlb rfl, hj5⟩) rfl hinj8 hej8 ?_
          refine zz_ix fun j9 hj9 hinj9 hej9 => zz_aal F dX11_climb_66 rfl (⟨zlb rfl, zlb rfl, zlb rfl⟩) rfl (by decide) rfl hinj9 hej9 rfl ?_
          refine zz_bipush F (v := (9 : Int32)) dX11_climb_67 (by decide) ?_
          refine zz_ix fun j10 hj10 hinj10 hej10 => zz_ial F dX11_climb_69 rfl (⟨zlb rfl, zlb rfl, hj9⟩) rfl hinj10 hej10 ?_
          refine zz_iload_n F (i := 1) dX11_climb_70 rfl rfl ?_
          refine zz_icmp_eq F (tgt := 76) dX11_climb_71 (by decide) (fun h => zz_t h ?_) (fun h => zz_f h ?_)
          · refine zz_aload_n F (i := 0) dX11_climb_76 rfl rfl ?_
            refine zz_getr F dX11_climb_77 wfRX11_10 zCl_10 rfl (⟨zlb rfl, zlb rfl, zlb rfl⟩) rfl (by decide) rfl (r' := 1) (by decide) ?_
            refine zz_getf F dX11_climb_80 wfRX11_83 zCl_9 rfl (⟨zlb rfl, zlb rfl, zlb rfl⟩) rfl (by decide) rfl rfl ?_
            refine zz_aload_n F (i := 3) dX11_climb_83 rfl rfl ?_
            refine zz_iconst F (v := (0 : Int32)) dX11_climb_84 (by decide) ?_
            refine zz_ix fun j11 hj11 hinj11 hej11 => zz_ial F dX11_climb_85 rfl (⟨zlb rfl, zlb rfl, hj5⟩) rfl hinj11 hej11 ?_
            refine zz_icmp_le F (tgt := 91) dX11_climb_86 (by decide) (fun h => zz_t h ?_) (fun h => zz_f h ?_)
            · refine zz_aload_n F (i := 0) dX11_climb_91 rfl rfl ?_
              refine zz_getr F dX11_climb_92 wfRX11_10 zCl_10 rfl (⟨zlb rfl, zlb rfl, zlb rfl⟩) rfl (by decide) rfl (r' := 1) (by decide) ?_
              refine zz_getf F dX11_climb_95 wfRX11_63 zCl_9 rfl (⟨zlb rfl, zlb rfl, zlb rfl⟩) rfl (by decide) rfl rfl ?_
              refine zz_bipush F (v := (24 : Int32)) dX11_climb_98 (by decide) ?_
              refine zz_irem F dX11_climb_100 (by decide) ?_
              refine zz_bipush F (v := (7 : Int32)) dX11_climb_101 (by decide) ?_
              refine zz_bipush F (v := (18 : Int32)) dX11_climb_103 (by decide) ?_
              refine zz_bind ?_
              refine zz_callSr F (ρ := []) (so := fun q12 => [zi q12]) (Mo := fun q12 => [s0_1, s1]) (zfMO_in ((s1 0 0 10) % (24 : Int32)) (7 : Int32) (18 : Int32)) dX11_climb_105 wcRX11_20 wy_yX11_in rfl ⟨rel14, rfl, rfl, Nat.le_of_ble_eq_true rfl, Nat.le_of_ble_eq_true rfl, Nat.le_of_ble_eq_true rfl⟩ rfl (fun _ => rfl) (fun _ => rfl) fun q12 => ?_
              refine zz_if_ne F (tgt := 113) dX11_climb_108 (by decide) (fun h => zz_f h ?_) (fun h => zz_t h ?_)
              · refine zz_aload_n F (i := 3) dX11_climb_113 rfl rfl ?_
                refine zz_iconst F (v := (2 : Int32)) dX11_climb_114 (by decide) ?_
                refine zz_iconst F (v := (1 : Int32)) dX11_climb_115 (by decide) ?_
                refine zz_ix fun j13 hj13 hinj13 hej13 => zz_ias F (Ms' := [s0_1, (zu s1 11 j5 j13 (1 : Int32))]) dX11_climb_116 rfl (⟨zlb rfl, zlb rfl, hj5⟩) rfl hinj13 hej13 rfl ?_
                refine zz_letm (Mf := fun s1_14 => [s0_1, s1_14]) fun s1_14 => ?_
                refine zz_aload_n F (i := 3) dX11_climb_117 rfl rfl ?_
                refine zz_iconst F (v := (3 : Int32)) dX11_climb_118 (by decide) ?_
                refine zz_iload_n F (i := 2) dX11_climb_119 rfl rfl ?_
                refine zz_ix fun j15 hj15 hinj15 hej15 => zz_ias F (Ms' := [s0_1, (zu s1_14 11 j5 j15 a2)]) dX11_climb_120 rfl (⟨zlb rfl, zlb rfl, hj5⟩) rfl hinj15 hej15 rfl ?_
                refine zz_letm (Mf := fun s1_16 => [s0_1, s1_16]) fun s1_16 => ?_
                refine zz_aload_n F (i := 3) dX11_climb_121 rfl rfl ?_
                refine zz_iconst F (v := (4 : Int32)) dX11_climb_122 (by decide) ?_
                refine zz_iload_n F (i := 2) dX11_climb_123 rfl rfl ?_
                refine zz_join (pj := 142) (Lj := fun q17 => [none, none, none, none]) (Sj := fun q17 => [zi q17, zi (4 : Int32), zr 1 11 j5]) (Mj := fun q17 => [s0_1, s1_16]) (fun q17 => ?_) (fun κ19 hj18 => ?_)
                · refine zz_ix fun j21 hj21 hinj21 hej21 => zz_ias F (Ms' := [s0_1, (zu s1_16 11 j5 j21 q17)]) dX11_climb_142 rfl (⟨zlb rfl, zlb rfl, hj5⟩) rfl hinj21 hej21 rfl ?_
                  refine zz_letm (Mf := fun s1_22 => [s0_1, s1_22]) fun s1_22 => ?_
                  refine zz_iconst F (v := (0 : Int32)) dX11_climb_143 (by decide) ?_
                  exact zz_ireturn F dX11_climb_144 rfl (hκ _)
                · refine zz_if_ne F (tgt := 131) dX11_climb_124 (by decide) (fun h => zz_f h ?_) (fun h => zz_t h ?_)
                  · refine zz_iload_n F (i := 2) dX11_climb_131 rfl rfl ?_
                    refine zz_iconst F (v := (1 : Int32)) dX11_climb_132 (by decide) ?_
                    refine zz_icmp_ne F (tgt := 140) dX11_climb_133 (by decide) (fun h => zz_f h ?_) (fun h => zz_t h ?_)
                    · refine zz_bipush F (v := (6 : Int32)) dX11_climb_140 (by decide) ?_
                      exact zz_sub (zs_n (zs_n (zs_n (zs_n zs_z)))) (hj18 (6 : Int32))
                    · refine zz_iconst F (v := (2 : Int32)) dX11_climb_136 (by decide) ?_
                      refine zz_goto F (tgt := 142) dX11_climb_137 (by decide) ?_
                      exact zz_sub (zs_n (zs_n (zs_n (zs_n zs_z)))) (hj18 (2 : Int32))
                  · refine zz_iconst F (v := (4 : Int32)) dX11_climb_127 (by decide) ?_
                    refine zz_goto F (tgt := 142) dX11_climb_128 (by decide) ?_
                    exact zz_sub (zs_n (zs_n (zs_n (zs_n zs_z)))) (hj18 (4 : Int32))
              · refine zz_iconst F (v := (5 : Int32)) dX11_climb_111 (by decide) ?_
                exact zz_ireturn F dX11_climb_112 rfl (hκ _)
            · refine zz_iconst F (v := (4 : Int32)) dX11_climb_89 (by decide) ?_
              exact zz_ireturn F dX11_climb_90 rfl (hκ _)
          · refine zz_iconst F (v := (3 : Int32)) dX11_climb_74 (by decide) ?_
            exact zz_ireturn F dX11_climb_75 rfl (hκ _)
        · refine zz_iconst F (v := (2 : Int32)) dX11_climb_54 (by decide) ?_
          exact zz_ireturn F dX11_climb_55 rfl (hκ _)
      · refine zz_iconst F (v := (1 : Int32)) dX11_climb_45 (by decide) ?_
        exact zz_ireturn F dX11_climb_46 rfl (hκ _)
    · refine zz_aload_n F (i := 0) dX11_climb_22 rfl rfl ?_
      refine zz_iconst F (v := (1 : Int32)) dX11_climb_23 (by decide) ?_
      refine zz_bind ?_
      refine zz_callVr F (ρ := [0, 1]) (so := fun q23 => [zi q23.1]) (Mo := fun q23 => [q23.2, s1]) (zfMO_no (1 : Int32) s0_1 s1) dX11_climb_24 wcRX11_40 wy_yX11_no rfl ⟨rel15, rfl, rfl, Nat.le_of_ble_eq_true rfl, Nat.le_of_ble_eq_true rfl, Nat.le_of_ble_eq_true rfl⟩ (⟨zlb rfl, zlb rfl, zlb rfl⟩) rfl rfl rfl (fun _ => rfl) (fun _ => rfl) fun q23 => ?_
      exact zz_ireturn F dX11_climb_27 rfl (hκ _)
theorem zfMO_climb (a1 : Int32) (a2 : Int32)  (s0 : zM) (s1 : zM) : ∀ a, fMO_climb a1 a2 s0 s1 = some a → zMet yX11_climb cX11_climb 4 (some .int) 2 43 [(4, [1]), (3, [])] [zr 0 0 0, zi a1, zi a2] [s0, s1] ((fun a => ((.inl ((fun q => some (zi q.1)) a), (fun q => [q.2.1, q.2.2]) a) : zO)) a) := fun a ha => zMet_of (L0 := [some (zr 0 0 0), some (zi a1), some (zi a2), none]) (φ := Option.bind (fMO_climb a1 a2 s0 s1) (fun a => some ((fun a => ((.inl ((fun q => some (zi q.1)) a), (fun q => [q.2.1, q.2.2]) a) : zO)) a))) (by decide) (fun _ => Nat.le_of_ble_eq_true rfl) (zl0 1 rfl) (fun X F => bfMO_climb F a1 a2 s0 s1 (fun _ => rfl)) (by rw [ha]; rfl)

theorem dX11_down_0 : decode cX11_down 0 = .ok (.aload_n 0, 1) := by decide +kernel
theorem dX11_down_1 : decode cX11_down 1 = .ok (.iconst 0, 1) := by decide +kernel
theorem dX11_down_2 : decode cX11_down 2 = .ok (.putfield 16, 3) := by decide +kernel
theorem dX11_down_5 : decode cX11_down 5 = .ok (.aload_n 0, 1) := by decide +kernel
theorem dX11_down_6 : decode cX11_down 6 = .ok (.iload_n 1, 1) := by decide +kernel
theorem dX11_down_7 : decode cX11_down 7 = .ok (.invokevirtual 110, 3) := by decide +kernel
theorem dX11_down_10 : decode cX11_down 10 = .ok (.ifCond .ne 9, 3) := by decide +kernel
theorem dX11_down_13 : decode cX11_down 13 = .ok (.aload_n 0, 1) := by decide +kernel
theorem dX11_down_14 : decode cX11_down 14 = .ok (.iconst 1, 1) := by decide +kernel
theorem dX11_down_15 : decode cX11_down 15 = .ok (.invokevirtual 40, 3) := by decide +kernel
theorem dX11_down_18 : decode cX11_down 18 = .ok (.ireturn, 1) := by decide +kernel
theorem dX11_down_19 : decode cX11_down 19 = .ok (.aload_n 0, 1) := by decide +kernel
theorem dX11_down_20 : decode cX11_down 20 = .ok (.getfield 10, 3) := by decide +kernel
theorem dX11_down_23 : decode cX11_down 23 = .ok (.getfield 54, 3) := by decide +kernel
theorem dX11_down_26 : decode cX11_down 26 = .ok (.iload_n 1, 1) := by decide +kernel
theorem dX11_down_27 : decode cX11_down 27 = .ok (.aaload, 1) := by decide +kernel
theorem dX11_down_28 : decode cX11_down 28 = .ok (.astore_n 2, 1) := by decide +kernel
theorem dX11_down_29 : decode cX11_down 29 = .ok (.aload_n 2, 1) := by decide +kernel
theorem dX11_down_30 : decode cX11_down 30 = .ok (.iconst 2, 1) := by decide +kernel
theorem dX11_down_31 : decode cX11_down 31 = .ok (.iaload, 1) := by decide +kernel
theorem dX11_down_32 : decode cX11_down 32 = .ok (.ifCond .eq 16, 3) := by decide +kernel
theorem dX11_down_35 : decode cX11_down 35 = .ok (.aload_n 0, 1) := by decide +kernel
theorem dX11_down_36 : decode cX11_down 36 = .ok (.getfield 10, 3) := by decide +kernel
theorem dX11_down_39 : decode cX11_down 39 = .ok (.getfield 83, 3) := by decide +kernel
theorem dX11_down_42 : decode cX11_down 42 = .ok (.aload_n 2, 1) := by decide +kernel
theorem dX11_down_43 : decode cX11_down 43 = .ok (.iconst 0, 1) := by decide +kernel
theorem dX11_down_44 : decode cX11_down 44 = .ok (.iaload, 1) := by decide +kernel
theorem dX11_down_45 : decode cX11_down 45 = .ok (.if_icmp .le 9, 3) := by decide +kernel
theorem dX11_down_48 : decode cX11_down 48 = .ok (.aload_n 0, 1) := by decide +kernel
theorem dX11_down_49 : decode cX11_down 49 = .ok (.iconst 2, 1) := by decide +kernel
theorem dX11_down_50 : decode cX11_down 50 = .ok (.invokevirtual 40, 3) := by decide +kernel
theorem dX11_down_53 : decode cX11_down 53 = .ok (.ireturn, 1) := by decide +kernel
theorem dX11_down_54 : decode cX11_down 54 = .ok (.aload_n 2, 1) := by decide +kernel
theorem dX11_down_55 : decode cX11_down 55 = .ok (.iconst 4, 1) := by decide +kernel
theorem dX11_down_56 : decode cX11_down 56 = .ok (.iaload, 1) := by decide +kernel
theorem dX11_down_57 : decode cX11_down 57 = .ok (.istore_n 3, 1) := by decide +kernel
theorem dX11_down_58 : decode cX11_down 58 = .ok (.aload_n 2, 1) := by decide +kernel
theorem dX11_down_59 : decode cX11_down 59 = .ok (.iconst 2, 1) := by decide +kernel
theorem dX11_down_60 : decode cX11_down 60 = .ok (.iconst 0, 1) := by decide +kernel
theorem dX11_down_61 : decode cX11_down 61 = .ok (.iastore, 1) := by decide +kernel
theorem dX11_down_62 : decode cX11_down 62 = .ok (.aload_n 2, 1) := by decide +kernel
theorem dX11_down_63 : decode cX11_down 63 = .ok (.iconst 3, 1) := by decide +kernel
theorem dX11_down_64 : decode cX11_down 64 = .ok (.iconst (-1), 1) := by decide +kernel
theorem dX11_down_65 : decode cX11_down 65 = .ok (.iastore, 1) := by decide +kernel
theorem dX11_down_66 : decode cX11_down 66 = .ok (.aload_n 2, 1) := by decide +kernel
theorem dX11_down_67 : decode cX11_down 67 = .ok (.iconst 4, 1) := by decide +kernel
theorem dX11_down_68 : decode cX11_down 68 = .ok (.iconst 0, 1) := by decide +kernel
theorem dX11_down_69 : decode cX11_down 69 = .ok (.iastore, 1) := by decide +kernel
theorem dX11_down_70 : decode cX11_down 70 = .ok (.iload_n 3, 1) := by decide +kernel
theorem dX11_down_71 : decode cX11_down 71 = .ok (.ireturn, 1) := by decide +kernel
def fMO_down (a1 : Int32) (s0 : zM) (s1 : zM) : Option (Int32 × zM × zM) :=
  zlet (zu s0 0 0 0 (0 : Int32)) fun s0_1 =>
  Option.bind (fMO_isVessel a1 s0_1 s1) fun q2 =>
  if q2 = 0 then
  Option.bind (fMO_no (1 : Int32) s0_1 s1) fun q16 =>
    some (q16.1, q16.2, s1)
else
  zix a1 3 fun j3 =>
    zix (2 : Int32) 6 fun j4 =>
    if (s1 11 j3 j4) = 0 then
    Option.bind (fMO_no (2 : Int32) s0_1 s1) fun q5 =>
      some (q5.1, q5.2, s1)
  else
    zix (0 : Int32) 6 fun j6 =>
      if (s1 0 0 13) ≤ (s1 11 j3 j6) then
      zix (4 : Int32) 6 fun j7 =>
        zlet ((s1 11 j3 j7)) fun v8 =>
        zix (2 : Int32) 6 fun j9 =>
        zlet (zu s1 11 j3 j9 (0 : Int32)) fun s1_10 =>
        zix (3 : Int32) 6 fun j11 =>
        zlet (zu s1_10 11 j3 j11 (-1 : Int32)) fun s1_12 =>
        zix (4 : Int32) 6 fun j13 =>
        zlet (zu s1_12 11 j3 j13 (0 : Int32)) fun s1_14 =>
        some (v8, s0_1, s1_14)
    else
      Option.bind (fMO_no (2 : Int32) s0_1 s1) fun q15 =>
        some (q15.1, q15.2, s1)
set_option maxHeartbeats 4000000 in
set_option maxRecDepth 20000 in
theorem bfMO_down {X : zX} (F : zFr X cX11_down 4 RX11 (some .int)) (a1 : Int32)  (s0 : zM) (s1 : zM) {κ : Int32 × zM × zM → Option zO} (hκ : ∀ a, κ a = some ((fun a => ((.inl ((fun q => some (zi q.1)) a), (fun q => [q.2.1, q.2.2]) a) : zO)) a)) : zZ X [(4, [1]), (3, [])] 2 43 4 0 [some (zr 0 0 0), some (zi a1), none, none] [] [s0, s1] (Option.bind (fMO_down a1 s0 s1) κ) := by
  unfold fMO_down
  refine zz_aload_n F (i := 0) dX11_down_0 rfl rfl ?_
  refine zz_iconst F (v := (0 : Int32)) dX11_down_1 (by decide) ?_
  refine zz_put F (Ms' := [(zu s0 0 0 0 (0 : Int32)), s1]) dX11_down_2 wpRX11_16 zCl_10 rfl (⟨zlb rfl, zlb rfl, zlb rfl⟩) rfl (by decide) rfl rfl rfl ?_
  refine zz_letm (Mf := fun s0_1 => [s0_1, s1]) fun s0_1 => ?_
  refine zz_aload_n F (i := 0) dX11_down_5 rfl rfl ?_
  refine zz_iload_n F (i := 1) dX11_down_6 rfl rfl ?_
  refine zz_bind ?_
  refine zz_callVr F (ρ := [0, 1]) (so := fun q2 => [zi q2]) (Mo := fun q2 => [s0_1, s1]) (zfMO_isVessel a1 s0_1 s1) dX11_down_7 wcRX11_110 wy_yX11_isVessel rfl ⟨rel15, rfl, rfl, Nat.le_of_ble_eq_true rfl, Nat.le_of_ble_eq_true rfl, Nat.le_of_ble_eq_true rfl⟩ (⟨zlb rfl, zlb rfl, zlb rfl⟩) rfl rfl rfl (fun _ => rfl) (fun _ => rfl) fun q2 => ?_
  refine zz_if_ne F (tgt := 19) dX11_down_10 (by decide) (fun h => zz_f h ?_) (fun h => zz_t h ?_)
  · refine zz_aload_n F (i := 0) dX11_down_19 rfl rfl ?_
    refine zz_getr F dX11_down_20 wfRX11_10 zCl_10 rfl (⟨zlb rfl, zlb rfl, zlb rfl⟩) rfl (by decide) rfl (r' := 1) (by decide) ?_
    refine zz_getr F dX11_down_23 wfRX11_54 zCl_9 rfl (⟨zlb rfl, zlb rfl, zlb rfl⟩) rfl (by decide) rfl (r' := 1) (by decide) ?_
    refine zz_iload_n F (i := 1) dX11_down_26 rfl rfl ?_
    refine zz_ix fun j3 hj3 hinj3 hej3 => zz_aal F dX11_down_27 rfl (⟨zlb rfl, zlb rfl, zlb rfl⟩) rfl (by decide) rfl hinj3 hej3 rfl ?_
    refine zz_astore_n F (i := 2) (L' := [some (zr 0 0 0), some (zi a1), some (zr 1 11 j3), none]) dX11_down_28 rfl (by decide) rfl rfl ?_
    refine zz_aload_n F (i := 2) dX11_down_29 rfl rfl ?_
    refine zz_iconst F (v := (2 : Int32)) dX11_down_30 (by decide) ?_
    refine zz_ix fun j4 hj4 hinj4 hej4 => zz_ial F dX11_down_31 rfl (⟨zlb rfl, zlb rfl, hj3⟩) rfl hinj4 hej4 ?_
    refine zz_if_eq F (tgt := 48) dX11_down_32 (by decide) (fun h => zz_t h ?_) (fun h => zz_f h ?_)
    · refine zz_aload_n F (i := 0) dX11_down_48 rfl rfl ?_
      refine zz_iconst F (v := (2 : Int32)) dX11_down_49 (by decide) ?_
      refine zz_bind ?_
      refine zz_callVr F (ρ := [0, 1]) (so := fun q5 => [zi q5.1]) (Mo := fun q5 => [q5.2, s1]) (zfMO_no (2 : Int32) s0_1 s1) dX11_down_50 wcRX11_40 wy_yX11_no rfl ⟨rel15, rfl, rfl, Nat.le_of_ble_eq_true rfl, Nat.le_of_ble_eq_true rfl, Nat.le_of_ble_eq_true rfl⟩ (⟨zlb rfl, zlb rfl, zlb rfl⟩) rfl rfl rfl (fun _ => rfl) (fun _ => rfl) fun q5 => ?_
      exact zz_ireturn F dX11_down_53 rfl (hκ _)
    · refine zz_aload_n F (i := 0) dX11_down_35 rfl rfl ?_
      refine zz_getr F dX11_down_36 wfRX11_10 zCl_10 rfl (⟨zlb rfl, zlb rfl, zlb rfl⟩) rfl (by decide) rfl (r' := 1) (by decide) ?_
      refine zz_getf F dX11_down_39 wfRX11_83 zCl_9 rfl (⟨zlb rfl, zlb rfl, zlb rfl⟩) rfl (by decide) rfl rfl ?_
      refine zz_aload_n F (i := 2) dX11_down_42 rfl rfl ?_
      refine zz_iconst F (v := (0 : Int32)) dX11_down_43 (by decide) ?_
      refine zz_ix fun j6 hj6 hinj6 hej6 => zz_ial F dX11_down_44 rfl (⟨zlb rfl, zlb rfl, hj3⟩) rfl hinj6 hej6 ?_
      refine zz_icmp_le F (tgt := 54) dX11_down_45 (by decide) (fun h => zz_t h ?_) (fun h => zz_f h ?_)
      · refine zz_aload_n F (i := 2) dX11_down_54 rfl rfl ?_
        refine zz_iconst F (v := (4 : Int32)) dX11_down_55 (by decide) ?_
        refine zz_ix fun j7 hj7 hinj7 hej7 => zz_ial F dX11_down_56 rfl (⟨zlb rfl, zlb rfl, hj3⟩) rfl hinj7 hej7 ?_
        refine zz_istore_n F (i := 3) (L' := [some (zr 0 0 0), some (zi a1), some (zr 1 11 j3), some (zi (s1 11 j3 j7))]) dX11_down_57 rfl (by decide) rfl rfl ?_
        refine zz_letl (Lf := fun v8 => [some (zr 0 0 0), some (zi a1), some (zr 1 11 j3), some (zi v8)]) fun v8 => ?_
        refine zz_aload_n F (i := 2) dX11_down_58 rfl rfl ?_
        refine zz_iconst F (v := (2 : Int32)) dX11_down_59 (by decide) ?_
        refine zz_iconst F (v := (0 : Int32)) dX11_down_60 (by decide) ?_
        refine zz_ix fun j9 hj9 hinj9 hej9 => zz_ias F (Ms' := [s0_1, (zu s1 11 j3 j9 (0 : Int32))]) dX11_down_61 rfl (⟨zlb rfl, zlb rfl, hj3⟩) rfl hinj9 hej9 rfl ?_
        refine zz_letm (Mf := fun s1_10 => [s0_1, s1_10]) fun s1_10 => ?_
        refine zz_aload_n F (i := 2) dX11_down_62 rfl rfl ?_
        refine zz_iconst F (v := (3 : Int32)) dX11_down_63 (by decide) ?_
        refine zz_iconst F (v := (-1 : Int32)) dX11_down_64 (by decide) ?_
        refine zz_ix fun j11 hj11 hinj11 hej11 => zz_ias F (Ms' := [s0_1, (zu s1_10 11 j3 j11 (-1 : Int32))]) dX11_down_65 rfl (⟨zlb rfl, zlb rfl, hj3⟩) rfl hinj11 hej11 rfl ?_
        refine zz_letm (Mf := fun s1_12 => [s0_1, s1_12]) fun s1_12 => ?_
        refine zz_aload_n F (i := 2) dX11_down_66 rfl rfl ?_
        refine zz_iconst F (v := (4 : Int32)) dX11_down_67 (by decide) ?_
        refine zz_iconst F (v := (0 : Int32)) dX11_down_68 (by decide) ?_
        refine zz_ix fun j13 hj13 hinj13 hej13 => zz_ias F (Ms' := [s0_1, (zu s1_12 11 j3 j13 (0 : Int32))]) dX11_down_69 rfl (⟨zlb rfl, zlb rfl, hj3⟩) rfl hinj13 hej13 rfl ?_
        refine zz_letm (Mf := fun s1_14 => [s0_1, s1_14]) fun s1_14 => ?_
        refine zz_iload_n F (i := 3) dX11_down_70 rfl rfl ?_
        exact zz_ireturn F dX11_down_71 rfl (hκ _)
      · refine zz_aload_n F (i := 0) dX11_down_48 rfl rfl ?_
        refine zz_iconst F (v := (2 : Int32)) dX11_down_49 (by decide) ?_
        refine zz_bind ?_
        refine zz_callVr F (ρ := [0, 1]) (so := fun q15 => [zi q15.1]) (Mo := fun q15 => [q15.2, s1]) (zfMO_no (2 : Int32) s0_1 s1) dX11_down_50 wcRX11_40 wy_yX11_no rfl ⟨rel15, rfl, rfl, Nat.le_of_ble_eq_true rfl, Nat.le_of_ble_eq_true rfl, Nat.le_of_ble_eq_true rfl⟩ (⟨zlb rfl, zlb rfl, zlb rfl⟩) rfl rfl rfl (fun _ => rfl) (fun _ => rfl) fun q15 => ?_
        exact zz_ireturn F dX11_down_53 rfl (hκ _)
  · refine zz_aload_n F (i := 0) dX11_down_13 rfl rfl ?_
    refine zz_iconst F (v := (1 : Int32)) dX11_down_14 (by decide) ?_
    refine zz_bind ?_
    refine zz_callVr F (ρ := [0, 1]) (so := fun q16 => [zi q16.1]) (Mo := fun q16 => [q16.2, s1]) (zfMO_no (1 : Int32) s0_1 s1) dX11_down_15 wcRX11_40 wy_yX11_no rfl ⟨rel15, rfl, rfl, Nat.le_of_ble_eq_true rfl, Nat.le_of_ble_eq_true rfl, Nat.le_of_ble_eq_true rfl⟩ (⟨zlb rfl, zlb rfl, zlb rfl⟩) rfl rfl rfl (fun _ => rfl) (fun _ => rfl) fun q16 => ?_
    exact zz_ireturn F dX11_down_18 rfl (hκ _)
theorem zfMO_down (a1 : Int32)  (s0 : zM) (s1 : zM) : ∀ a, fMO_down a1 s0 s1 = some a → zMet yX11_down cX11_down 4 (some .int) 2 43 [(4, [1]), (3, [])] [zr 0 0 0, zi a1] [s0, s1] ((fun a => ((.inl ((fun q => some (zi q.1)) a), (fun q => [q.2.1, q.2.2]) a) : zO)) a) := fun a ha => zMet_of (L0 := [some (zr 0 0 0), some (zi a1), none, none]) (φ := Option.bind (fMO_down a1 s0 s1) (fun a => some ((fun a => ((.inl ((fun q => some (zi q.1)) a), (fun q => [q.2.1, q.2.2]) a) : zO)) a))) (by decide) (fun _ => Nat.le_of_ble_eq_true rfl) (zl0 2 rfl) (fun X F => bfMO_down F a1 s0 s1 (fun _ => rfl)) (by rw [ha]; rfl)

theorem dX11_turbineNow_0 : decode cX11_turbineNow 0 = .ok (.aload_n 0, 1) := by decide +kernel
theorem dX11_turbineNow_1 : decode cX11_turbineNow 1 = .ok (.getfield 10, 3) := by decide +kernel
theorem dX11_turbineNow_4 : decode cX11_turbineNow 4 = .ok (.getfield 36, 3) := by decide +kernel
theorem dX11_turbineNow_7 : decode cX11_turbineNow 7 = .ok (.iload_n 1, 1) := by decide +kernel
theorem dX11_turbineNow_8 : decode cX11_turbineNow 8 = .ok (.aaload, 1) := by decide +kernel
theorem dX11_turbineNow_9 : decode cX11_turbineNow 9 = .ok (.astore_n 3, 1) := by decide +kernel
theorem dX11_turbineNow_10 : decode cX11_turbineNow 10 = .ok (.iload_n 2, 1) := by decide +kernel
theorem dX11_turbineNow_11 : decode cX11_turbineNow 11 = .ok (.tableswitch 114 0 8 #[49, 53, 57, 61, 66, 75, 80, 93, 109], 49) := by decide +kernel
theorem dX11_turbineNow_60 : decode cX11_turbineNow 60 = .ok (.aload_n 3, 1) := by decide +kernel
theorem dX11_turbineNow_61 : decode cX11_turbineNow 61 = .ok (.iconst 3, 1) := by decide +kernel
theorem dX11_turbineNow_62 : decode cX11_turbineNow 62 = .ok (.iaload, 1) := by decide +kernel
theorem dX11_turbineNow_63 : decode cX11_turbineNow 63 = .ok (.ireturn, 1) := by decide +kernel
theorem dX11_turbineNow_64 : decode cX11_turbineNow 64 = .ok (.aload_n 3, 1) := by decide +kernel
theorem dX11_turbineNow_65 : decode cX11_turbineNow 65 = .ok (.iconst 4, 1) := by decide +kernel
theorem dX11_turbineNow_66 : decode cX11_turbineNow 66 = .ok (.iaload, 1) := by decide +kernel
theorem dX11_turbineNow_67 : decode cX11_turbineNow 67 = .ok (.ireturn, 1) := by decide +kernel
theorem dX11_turbineNow_68 : decode cX11_turbineNow 68 = .ok (.aload_n 3, 1) := by decide +kernel
theorem dX11_turbineNow_69 : decode cX11_turbineNow 69 = .ok (.iconst 5, 1) := by decide +kernel
theorem dX11_turbineNow_70 : decode cX11_turbineNow 70 = .ok (.iaload, 1) := by decide +kernel
theorem dX11_turbineNow_71 : decode cX11_turbineNow 71 = .ok (.ireturn, 1) := by decide +kernel
theorem dX11_turbineNow_72 : decode cX11_turbineNow 72 = .ok (.aload_n 3, 1) := by decide +kernel
theorem dX11_turbineNow_73 : decode cX11_turbineNow 73 = .ok (.bipush 6, 2) := by decide +kernel
theorem dX11_turbineNow_75 : decode cX11_turbineNow 75 = .ok (.iaload, 1) := by decide +kernel
theorem dX11_turbineNow_76 : decode cX11_turbineNow 76 = .ok (.ireturn, 1) := by decide +kernel
theorem dX11_turbineNow_77 : decode cX11_turbineNow 77 = .ok (.aload_n 0, 1) := by decide +kernel
theorem dX11_turbineNow_78 : decode cX11_turbineNow 78 = .ok (.getfield 10, 3) := by decide +kernel
theorem dX11_turbineNow_81 : decode cX11_turbineNow 81 = .ok (.iload_n 1, 1) := by decide +kernel
theorem dX11_turbineNow_82 : decode cX11_turbineNow 82 = .ok (.invokevirtual 113, 3) := by decide +kernel
theorem dX11_turbineNow_85 : decode cX11_turbineNow 85 = .ok (.ireturn, 1) := by decide +kernel
theorem dX11_turbineNow_86 : decode cX11_turbineNow 86 = .ok (.aload_n 3, 1) := by decide +kernel
theorem dX11_turbineNow_87 : decode cX11_turbineNow 87 = .ok (.bipush 7, 2) := by decide +kernel
theorem dX11_turbineNow_89 : decode cX11_turbineNow 89 = .ok (.iaload, 1) := by decide +kernel
theorem dX11_turbineNow_90 : decode cX11_turbineNow 90 = .ok (.ireturn, 1) := by decide +kernel
theorem dX11_turbineNow_91 : decode cX11_turbineNow 91 = .ok (.aload_n 0, 1) := by decide +kernel
theorem dX11_turbineNow_92 : decode cX11_turbineNow 92 = .ok (.getfield 10, 3) := by decide +kernel
theorem dX11_turbineNow_95 : decode cX11_turbineNow 95 = .ok (.getfield 116, 3) := by decide +kernel
theorem dX11_turbineNow_98 : decode cX11_turbineNow 98 = .ok (.iload_n 1, 1) := by decide +kernel
theorem dX11_turbineNow_99 : decode cX11_turbineNow 99 = .ok (.aaload, 1) := by decide +kernel
theorem dX11_turbineNow_100 : decode cX11_turbineNow 100 = .ok (.invokestatic 119, 3) := by decide +kernel
theorem dX11_turbineNow_103 : decode cX11_turbineNow 103 = .ok (.ireturn, 1) := by decide +kernel
theorem dX11_turbineNow_104 : decode cX11_turbineNow 104 = .ok (.aload_n 3, 1) := by decide +kernel
theorem dX11_turbineNow_105 : decode cX11_turbineNow 105 = .ok (.iconst 3, 1) := by decide +kernel
theorem dX11_turbineNow_106 : decode cX11_turbineNow 106 = .ok (.iaload, 1) := by decide +kernel
theorem dX11_turbineNow_107 : decode cX11_turbineNow 107 = .ok (.iconst 3, 1) := by decide +kernel
theorem dX11_turbineNow_108 : decode cX11_turbineNow 108 = .ok (.if_icmp .ne 10, 3) := by decide +kernel
theorem dX11_turbineNow_111 : decode cX11_turbineNow 111 = .ok (.aload_n 3, 1) := by decide +kernel
theorem dX11_turbineNow_112 : decode cX11_turbineNow 112 = .ok (.bipush 8, 2) := by decide +kernel
theorem dX11_turbineNow_114 : decode cX11_turbineNow 114 = .ok (.iaload, 1) := by decide +kernel
theorem dX11_turbineNow_115 : decode cX11_turbineNow 115 = .ok (.goto 4, 3) := by decide +kernel
theorem dX11_turbineNow_118 : decode cX11_turbineNow 118 = .ok (.iconst (-1), 1) := by decide +kernel
theorem dX11_turbineNow_119 : decode cX11_turbineNow 119 = .ok (.ireturn, 1) := by decide +kernel
theorem dX11_turbineNow_120 : decode cX11_turbineNow 120 = .ok (.aload_n 3, 1) := by decide +kernel
theorem dX11_turbineNow_121 : decode cX11_turbineNow 121 = .ok (.bipush 9, 2) := by decide +kernel
theorem dX11_turbineNow_123 : decode cX11_turbineNow 123 = .ok (.iaload, 1) := by decide +kernel
theorem dX11_turbineNow_124 : decode cX11_turbineNow 124 = .ok (.ireturn, 1) := by decide +kernel
theorem dX11_turbineNow_125 : decode cX11_turbineNow 125 = .ok (.aload_n 3, 1) := by decide +kernel
theorem dX11_turbineNow_126 : decode cX11_turbineNow 126 = .ok (.bipush 10, 2) := by decide +kernel
theorem dX11_turbineNow_128 : decode cX11_turbineNow 128 = .ok (.iaload, 1) := by decide +kernel
theorem dX11_turbineNow_129 : decode cX11_turbineNow 129 = .ok (.ireturn, 1) := by decide +kernel
theorem wcRX11_113 : Cond.methodLink RX11 113 yX10_deficit_ ∈ zTg ∧ Cond.instanceMethod yX10_deficit_ ∈ zTg ∧ Cond.selects RX10 yX10_deficit_ yX10_deficit_ ∈ zTg ∧ Cond.initialized RX10 ∈ zTg ∧ Cond.code yX10_deficit_ cX10_deficit_ 6 (some .int) ∈ zTg := ⟨zm_f 1228 (by decide +kernel) rfl, zm_f 1127 (by decide +kernel) rfl, zm_f 1128 (by decide +kernel) rfl, zm_f 47 (by decide +kernel) rfl, zm_f 1129 (by decide +kernel) rfl⟩
theorem wfRX11_116 : zFl RX11 116 9 1 := ⟨_, rfl, by decide, zm_f 971 (by decide +kernel) rfl⟩
theorem wcRX11_119 : Cond.methodLink RX11 119 yX10_rows ∈ zTg ∧ Cond.static yX10_rows ∈ zTg ∧ Cond.initialized yX10_rows.cls ∈ zTg ∧ Cond.code yX10_rows cX10_rows 2 (some .int) ∈ zTg := ⟨zm_f 1229 (by decide +kernel) rfl, zm_f 1175 (by decide +kernel) rfl, zm_f 47 (by decide +kernel) rfl, zm_f 1176 (by decide +kernel) rfl⟩
def fMO_turbineNow (a1 : Int32) (a2 : Int32) (s0 : zM) (s1 : zM) : Option (Int32) :=
  zix a1 8 fun j1 =>
  if a2 < 0 ∨ 8 < a2 then
  zix (10 : Int32) 23 fun j2 =>
    some (s1 8 j1 j2)
else
  if a2 = 0 then
    zix (3 : Int32) 23 fun j3 =>
      some (s1 8 j1 j3)
  else
    if a2 = 1 then
      zix (4 : Int32) 23 fun j4 =>
        some (s1 8 j1 j4)
    else
      if a2 = 2 then
        zix (5 : Int32) 23 fun j5 =>
          some (s1 8 j1 j5)
      else
        if a2 = 3 then
          zix (6 : Int32) 23 fun j6 =>
            some (s1 8 j1 j6)
        else
          if a2 = 4 then
            Option.bind (fMS_deficit a1 s1) fun q7 =>
              some q7
          else
            if a2 = 5 then
              zix (7 : Int32) 23 fun j8 =>
                some (s1 8 j1 j8)
            else
              if a2 = 6 then
                zix a1 8 fun j9 =>
                  Option.bind (fMS_rows j9 s1) fun q10 =>
                  some q10
              else
                if a2 = 7 then
                  zix (3 : Int32) 23 fun j11 =>
                    if (s1 8 j1 j11) = (3 : Int32) then
                    zix (8 : Int32) 23 fun j12 =>
                      some (s1 8 j1 j12)
                  else
                    some (-1 : Int32)
                else
                  zix (9 : Int32) 23 fun j13 =>
                    some (s1 8 j1 j13)
set_option maxHeartbeats 4000000 in
set_option maxRecDepth 20000 in
theorem bfMO_turbineNow {X : zX} (F : zFr X cX11_turbineNow 4 RX11 (some .int)) (a1 : Int32) (a2 : Int32)  (s0 : zM) (s1 : zM) {κ : Int32 → Option zO} (hκ : ∀ a, κ a = some ((fun a => ((.inl ((fun q => some (zi q)) a), (fun _ => [s0, s1]) a) : zO)) a)) : zZ X [(4, [1]), (3, [])] 4 101 4 0 [some (zr 0 0 0), some (zi a1), some (zi a2), none] [] [s0, s1] (Option.bind (fMO_turbineNow a1 a2 s0 s1) κ) := by
  unfold fMO_turbineNow
  refine zz_aload_n F (i := 0) dX11_turbineNow_0 rfl rfl ?_
  refine zz_getr F dX11_turbineNow_1 wfRX11_10 zCl_10 rfl (⟨zlb rfl, zlb rfl, zlb rfl⟩) rfl (by decide) rfl (r' := 1) (by decide) ?_
  refine zz_getr F dX11_turbineNow_4 wfRX11_36 zCl_9 rfl (⟨zlb rfl, zlb rfl, zlb rfl⟩) rfl (by decide) rfl (r' := 1) (by decide) ?_
  refine zz_iload_n F (i := 1) dX11_turbineNow_7 rfl rfl ?_
  refine zz_ix fun j1 hj1 hinj1 hej1 => zz_aal F dX11_turbineNow_8 rfl (⟨zlb rfl, zlb rfl, zlb rfl⟩) rfl (by decide) rfl hinj1 hej1 rfl ?_
  refine zz_astore_n F (i := 3) (L' := [some (zr 0 0 0), some (zi a1), some (zi a2), some (zr 1 8 j1)]) dX11_turbineNow_9 rfl (by decide) rfl rfl ?_
  refine zz_iload_n F (i := 2) dX11_turbineNow_10 rfl rfl ?_
  refine zz_sw (c := a2 < 0 ∨ 8 < a2) (fun h => ?_) (fun h => ?_)
  · refine zz_tableOut F (tgt := 125) dX11_turbineNow_11 (zsw_out (lw := 0) (hi := 8) (a := 0) (b := 8) (by decide) (by decide) h) (by decide) ?_
    refine zz_aload_n F (i := 3) dX11_turbineNow_125 rfl rfl ?_
    refine zz_bipush F (v := (10 : Int32)) dX11_turbineNow_126 (by decide) ?_
    refine zz_ix fun j2 hj2 hinj2 hej2 => zz_ial F dX11_turbineNow_128 rfl (⟨zlb rfl, zlb rfl, hj1⟩) rfl hinj2 hej2 ?_
    exact zz_ireturn F dX11_turbineNow_129 rfl (hκ _)
  · refine zz_sw (c := a2 = 0) (fun hv => ?_) (fun hn0 => ?_)
    · refine zz_tableIn F (tgt := 60) (off := 49) dX11_turbineNow_11 (by rw [zsw_at (k := 0) (a := 0) hv (by decide)]; decide) (by rw [zsw_at (k := 0) (a := 0) hv (by decide)]; decide) (by rw [zsw_at (k := 0) (a := 0) hv (by decide)]; rfl) (by decide) ?_
      refine zz_aload_n F (i := 3) dX11_turbineNow_60 rfl rfl ?_
      refine zz_iconst F (v := (3 : Int32)) dX11_turbineNow_61 (by decide) ?_
      refine zz_ix fun j3 hj3 hinj3 hej3 => zz_ial F dX11_turbineNow_62 rfl (⟨zlb rfl, zlb rfl, hj1⟩) rfl hinj3 hej3 ?_
      exact zz_ireturn F dX11_turbineNow_63 rfl (hκ _)
    · refine zz_sw (c := a2 = 1) (fun hv => ?_) (fun hn1 => ?_)
      · refine zz_tableIn F (tgt := 64) (off := 53) dX11_turbineNow_11 (by rw [zsw_at (k := 1) (a := 1) hv (by decide)]; decide) (by rw [zsw_at (k := 1) (a := 1) hv (by decide)]; decide) (by rw [zsw_at (k := 1) (a := 1) hv (by decide)]; rfl) (by decide) ?_
        refine zz_aload_n F (i := 3) dX11_turbineNow_64 rfl rfl ?_
        refine zz_iconst F (v := (4 : Int32)) dX11_turbineNow_65 (by decide) ?_
        refine zz_ix fun j4 hj4 hinj4 hej4 => zz_ial F dX11_turbineNow_66 rfl (⟨zlb rfl, zlb rfl, hj1⟩) rfl hinj4 hej4 ?_
        exact zz_ireturn F dX11_turbineNow_67 rfl (hκ _)
      · refine zz_sw (c := a2 = 2) (fun hv => ?_) (fun hn2 => ?_)
        · refine zz_tableIn F (tgt := 68) (off := 57) dX11_turbineNow_11 (by rw [zsw_at (k := 2) (a := 2) hv (by decide)]; decide) (by rw [zsw_at (k := 2) (a := 2) hv (by decide)]; decide) (by rw [zsw_at (k := 2) (a := 2) hv (by decide)]; rfl) (by decide) ?_
          refine zz_aload_n F (i := 3) dX11_turbineNow_68 rfl rfl ?_
          refine zz_iconst F (v := (5 : Int32)) dX11_turbineNow_69 (by decide) ?_
          refine zz_ix fun j5 hj5 hinj5 hej5 => zz_ial F dX11_turbineNow_70 rfl (⟨zlb rfl, zlb rfl, hj1⟩) rfl hinj5 hej5 ?_
          exact zz_ireturn F dX11_turbineNow_71 rfl (hκ _)
        · refine zz_sw (c := a2 = 3) (fun hv => ?_) (fun hn3 => ?_)
          · refine zz_tableIn F (tgt := 72) (off := 61) dX11_turbineNow_11 (by rw [zsw_at (k := 3) (a := 3) hv (by decide)]; decide) (by rw [zsw_at (k := 3) (a := 3) hv (by decide)]; decide) (by rw [zsw_at (k := 3) (a := 3) hv (by decide)]; rfl) (by decide) ?_
            refine zz_aload_n F (i := 3) dX11_turbineNow_72 rfl rfl ?_
            refine zz_bipush F (v := (6 : Int32)) dX11_turbineNow_73 (by decide) ?_
            refine zz_ix fun j6 hj6 hinj6 hej6 => zz_ial F dX11_turbineNow_75 rfl (⟨zlb rfl, zlb rfl, hj1⟩) rfl hinj6 hej6 ?_
            exact zz_ireturn F dX11_turbineNow_76 rfl (hκ _)
          · refine zz_sw (c := a2 = 4) (fun hv => ?_) (fun hn4 => ?_)
            · refine zz_tableIn F (tgt := 77) (off := 66) dX11_turbineNow_11 (by rw [zsw_at (k := 4) (a := 4) hv (by decide)]; decide) (by rw [zsw_at (k := 4) (a := 4) hv (by decide)]; decide) (by rw [zsw_at (k := 4) (a := 4) hv (by decide)]; rfl) (by decide) ?_
              refine zz_aload_n F (i := 0) dX11_turbineNow_77 rfl rfl ?_
              refine zz_getr F dX11_turbineNow_78 wfRX11_10 zCl_10 rfl (⟨zlb rfl, zlb rfl, zlb rfl⟩) rfl (by decide) rfl (r' := 1) (by decide) ?_
              refine zz_iload_n F (i := 1) dX11_turbineNow_81 rfl rfl ?_
              refine zz_bind ?_
              refine zz_callVr F (ρ := [1]) (so := fun q7 => [zi q7]) (Mo := fun q7 => [s0, s1]) (zfMS_deficit a1 s1) dX11_turbineNow_82 wcRX11_113 wy_yX10_deficit_ rfl ⟨rel16, rfl, rfl, Nat.le_of_ble_eq_true rfl, Nat.le_of_ble_eq_true rfl, Nat.le_of_ble_eq_true rfl⟩ (⟨zlb rfl, zlb rfl, zlb rfl⟩) rfl rfl rfl (fun _ => rfl) (fun _ => rfl) fun q7 => ?_
              exact zz_ireturn F dX11_turbineNow_85 rfl (hκ _)
            · refine zz_sw (c := a2 = 5) (fun hv => ?_) (fun hn5 => ?_)
              · refine zz_tableIn F (tgt := 86) (off := 75) dX11_turbineNow_11 (by rw [zsw_at (k := 5) (a := 5) hv (by decide)]; decide) (by rw [zsw_at (k := 5) (a := 5) hv (by decide)]; decide) (by rw [zsw_at (k := 5) (a := 5) hv (by decide)]; rfl) (by decide) ?_
                refine zz_aload_n F (i := 3) dX11_turbineNow_86 rfl rfl ?_
                refine zz_bipush F (v := (7 : Int32)) dX11_turbineNow_87 (by decide) ?_
                refine zz_ix fun j8 hj8 hinj8 hej8 => zz_ial F dX11_turbineNow_89 rfl (⟨zlb rfl, zlb rfl, hj1⟩) rfl hinj8 hej8 ?_
                exact zz_ireturn F dX11_turbineNow_90 rfl (hκ _)
              · refine zz_sw (c := a2 = 6) (fun hv => ?_) (fun hn6 => ?_)
                · refine zz_tableIn F (tgt := 91) (off := 80) dX11_turbineNow_11 (by rw [zsw_at (k := 6) (a := 6) hv (by decide)]; decide) (by rw [zsw_at (k := 6) (a := 6) hv (by decide)]; decide) (by rw [zsw_at (k := 6) (a := 6) hv (by decide)]; rfl) (by decide) ?_
                  refine zz_aload_n F (i := 0) dX11_turbineNow_91 rfl rfl ?_
                  refine zz_getr F dX11_turbineNow_92 wfRX11_10 zCl_10 rfl (⟨zlb rfl, zlb rfl, zlb rfl⟩) rfl (by decide) rfl (r' := 1) (by decide) ?_
                  refine zz_getr F dX11_turbineNow_95 wfRX11_116 zCl_9 rfl (⟨zlb rfl, zlb rfl, zlb rfl⟩) rfl (by decide) rfl (r' := 1) (by decide) ?_
                  refine zz_iload_n F (i := 1) dX11_turbineNow_98 rfl rfl ?_
                  refine zz_ix fun j9 hj9 hinj9 hej9 => zz_aal F dX11_turbineNow_99 rfl (⟨zlb rfl, zlb rfl, zlb rfl⟩) rfl (by decide) rfl hinj9 hej9 rfl ?_
                  refine zz_bind ?_
                  refine zz_callSr F (ρ := [1]) (so := fun q10 => [zi q10]) (Mo := fun q10 => [s0, s1]) (zfMS_rows j9 hj9 s1) dX11_turbineNow_100 wcRX11_119 wy_yX10_rows rfl ⟨rel16, rfl, rfl, Nat.le_of_ble_eq_true rfl, Nat.le_of_ble_eq_true rfl, Nat.le_of_ble_eq_true rfl⟩ rfl (fun _ => rfl) (fun _ => rfl) fun q10 => ?_
                  exact zz_ireturn F dX11_turbineNow_103 rfl (hκ _)
                · refine zz_sw (c := a2 = 7) (fun hv => ?_) (fun hn7 => ?_)
                  · refine zz_tableIn F (tgt := 104) (off := 93) dX11_turbineNow_11 (by rw [zsw_at (k := 7) (a := 7) hv (by decide)]; decide) (by rw [zsw_at (k := 7) (a := 7) hv (by decide)]; decide) (by rw [zsw_at (k := 7) (a := 7) hv (by decide)]; rfl) (by decide) ?_
                    refine zz_aload_n F (i := 3) dX11_turbineNow_104 rfl rfl ?_
                    refine zz_iconst F (v := (3 : Int32)) dX11_turbineNow_105 (by decide) ?_
                    refine zz_ix fun j11 hj11 hinj11 hej11 => zz_ial F dX11_turbineNow_106 rfl (⟨zlb rfl, zlb rfl, hj1⟩) rfl hinj11 hej11 ?_
                    refine zz_iconst F (v := (3 : Int32)) dX11_turbineNow_107 (by decide) ?_
                    refine zz_icmp_ne F (tgt := 118) dX11_turbineNow_108 (by decide) (fun h => zz_f h ?_) (fun h => zz_t h ?_)
                    · refine zz_iconst F (v := (-1 : Int32)) dX11_turbineNow_118 (by decide) ?_
                      exact zz_ireturn F dX11_turbineNow_119 rfl (hκ _)
                    · refine zz_aload_n F (i := 3) dX11_turbineNow_111 rfl rfl ?_
                      refine zz_bipush F (v := (8 : Int32)) dX11_turbineNow_112 (by decide) ?_
                      refine zz_ix fun j12 hj12 hinj12 hej12 => zz_ial F dX11_turbineNow_114 rfl (⟨zlb rfl, zlb rfl, hj1⟩) rfl hinj12 hej12 ?_
                      refine zz_goto F (tgt := 119) dX11_turbineNow_115 (by decide) ?_
                      exact zz_ireturn F dX11_turbineNow_119 rfl (hκ _)
                  · have hv : a2 = 8 := zsw_eq (a := 8) (by decide) (by have h1 := zsw_in (lw := 0) (hi := 8) (a := 0) (b := 8) (by decide) (by decide) h; have e0 := zsw_ne (a := 0) (by decide) hn0; have e1 := zsw_ne (a := 1) (by decide) hn1; have e2 := zsw_ne (a := 2) (by decide) hn2; have e3 := zsw_ne (a := 3) (by decide) hn3; have e4 := zsw_ne (a := 4) (by decide) hn4; have e5 := zsw_ne (a := 5) (by decide) hn5; have e6 := zsw_ne (a := 6) (by decide) hn6; have e7 := zsw_ne (a := 7) (by decide) hn7; omega)
                    refine zz_tableIn F (tgt := 120) (off := 109) dX11_turbineNow_11 (by rw [zsw_at (k := 8) (a := 8) hv (by decide)]; decide) (by rw [zsw_at (k := 8) (a := 8) hv (by decide)]; decide) (by rw [zsw_at (k := 8) (a := 8) hv (by decide)]; rfl) (by decide) ?_
                    refine zz_aload_n F (i := 3) dX11_turbineNow_120 rfl rfl ?_
                    refine zz_bipush F (v := (9 : Int32)) dX11_turbineNow_121 (by decide) ?_
                    refine zz_ix fun j13 hj13 hinj13 hej13 => zz_ial F dX11_turbineNow_123 rfl (⟨zlb rfl, zlb rfl, hj1⟩) rfl hinj13 hej13 ?_
                    exact zz_ireturn F dX11_turbineNow_124 rfl (hκ _)
theorem zfMO_turbineNow (a1 : Int32) (a2 : Int32)  (s0 : zM) (s1 : zM) : ∀ a, fMO_turbineNow a1 a2 s0 s1 = some a → zMet yX11_turbineNow cX11_turbineNow 4 (some .int) 4 101 [(4, [1]), (3, [])] [zr 0 0 0, zi a1, zi a2] [s0, s1] ((fun a => ((.inl ((fun q => some (zi q)) a), (fun _ => [s0, s1]) a) : zO)) a) := fun a ha => zMet_of (L0 := [some (zr 0 0 0), some (zi a1), some (zi a2), none]) (φ := Option.bind (fMO_turbineNow a1 a2 s0 s1) (fun a => some ((fun a => ((.inl ((fun q => some (zi q)) a), (fun _ => [s0, s1]) a) : zO)) a))) (by decide) (fun _ => Nat.le_of_ble_eq_true rfl) (zl0 1 rfl) (fun X F => bfMO_turbineNow F a1 a2 s0 s1 (fun _ => rfl)) (by rw [ha]; rfl)
