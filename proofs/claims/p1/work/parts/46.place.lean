/-! ===== the reference's bestPlace without a turbine ===== -/
theorem zit_more {σ β : Type} {b : σ → Option (σ ⊕ β)} {s s' : σ} (n : Nat) (h : b s = some (.inl s')) : ziter b (n + 1) s = ziter b n s' := by
  rw [ziter_succ, h]
  rfl
theorem q_tk (a b : Int32) : fMO_isTaken a b zt0 zfr3 = some 0 := by
  unfold fMO_isTaken
  rw [show ziter (fMO_isTaken_l2 a b zfr3) 1000 (0 : Int32) = some (.inl ()) from zit_end 999 (by unfold fMO_isTaken_l2; exact if_pos (by decide))]
  rfl
theorem q_p10 : fMO_power (((10 : Int32) * ((100 : Int32) - (zmin (60 : Int32) ((0 : Int32) + (((0 : Int32) - (0 : Int32)) / (2 : Int32)))))) / (100 : Int32)) = some 1000 := by decide +kernel
theorem q_pws (a : Int32) (s : zM) : fMO_powers a s = some 1000 := by
  have z01 : vp_in (0 : Int32) 1 := zvi (by decide)
  have inner : ziter (fMO_powers_l41 a s (s 0 0 (Int32.toNatClampNeg 0))) 1000 ((0 : Int32), (0 : Int32), (0 : Int32)) = some (0, 0) := by
    have h1 : fMO_powers_l41 a s (s 0 0 (Int32.toNatClampNeg 0)) ((0 : Int32), (0 : Int32), (0 : Int32)) = some (.inl (0, 0, 1)) := by
      unfold fMO_powers_l41
      dsimp only [zlet]
      rw [if_neg (by decide), zix_in z01, if_pos rfl]
      rfl
    exact (zit_more 999 h1).trans (zit_end 998 (show fMO_powers_l41 a s (s 0 0 (Int32.toNatClampNeg 0)) ((0 : Int32), (0 : Int32), (1 : Int32)) = some (.inr (0, 0)) by unfold fMO_powers_l41; exact if_pos (by decide)))
  have h1 : fMO_powers_l11 a s ((0 : Int32), (0 : Int32)) = some (.inl (1000, 1)) := by
    unfold fMO_powers_l11
    dsimp only [zlet]
    rw [if_neg (by decide), zix_in z01, inner, Option.bind_some, q_p10]
    rfl
  unfold fMO_powers
  rw [show ziter (fMO_powers_l11 a s) 1000 ((0 : Int32), (0 : Int32)) = some 1000 by
    exact (zit_more 999 h1).trans (zit_end 998 (show fMO_powers_l11 a s ((1000 : Int32), (1 : Int32)) = some (.inr 1000) by unfold fMO_powers_l11; exact if_pos (by decide)))]
  rfl
theorem zn1 (i : Nat) : Int32.ofNat i + 1 = Int32.ofNat (i + 1) := (Int32.ofNat_add i 1).symm
theorem znlt {i n : Nat} (hn : n < 2147483648) (h : i < n) : ¬ Int32.ofNat n ≤ Int32.ofNat i := fun z => by
  have := Int32.le_iff_toInt_le.mp z
  rw [Int32.toInt_ofNat_of_lt (by omega), Int32.toInt_ofNat_of_lt (by omega)] at this
  omega
theorem dX11_bestPlace_0 : decode cX11_bestPlace 0 = .ok (.aload_n 0, 1) := by decide +kernel
theorem dX11_bestPlace_1 : decode cX11_bestPlace 1 = .ok (.iconst 0, 1) := by decide +kernel
theorem dX11_bestPlace_2 : decode cX11_bestPlace 2 = .ok (.putfield 16, 3) := by decide +kernel
theorem dX11_bestPlace_5 : decode cX11_bestPlace 5 = .ok (.aload_n 0, 1) := by decide +kernel
theorem dX11_bestPlace_6 : decode cX11_bestPlace 6 = .ok (.getfield 10, 3) := by decide +kernel
theorem dX11_bestPlace_9 : decode cX11_bestPlace 9 = .ok (.getfield 30, 3) := by decide +kernel
theorem dX11_bestPlace_12 : decode cX11_bestPlace 12 = .ok (.bipush 8, 2) := by decide +kernel
theorem dX11_bestPlace_14 : decode cX11_bestPlace 14 = .ok (.if_icmp .ne 5, 3) := by decide +kernel
theorem dX11_bestPlace_17 : decode cX11_bestPlace 17 = .ok (.iconst (-1), 1) := by decide +kernel
theorem dX11_bestPlace_18 : decode cX11_bestPlace 18 = .ok (.ireturn, 1) := by decide +kernel
theorem dX11_bestPlace_19 : decode cX11_bestPlace 19 = .ok (.aload_n 0, 1) := by decide +kernel
theorem dX11_bestPlace_20 : decode cX11_bestPlace 20 = .ok (.getfield 10, 3) := by decide +kernel
theorem dX11_bestPlace_23 : decode cX11_bestPlace 23 = .ok (.getfield 30, 3) := by decide +kernel
theorem dX11_bestPlace_26 : decode cX11_bestPlace 26 = .ok (.iconst 1, 1) := by decide +kernel
theorem dX11_bestPlace_27 : decode cX11_bestPlace 27 = .ok (.iadd, 1) := by decide +kernel
theorem dX11_bestPlace_28 : decode cX11_bestPlace 28 = .ok (.newarray .int, 2) := by decide +kernel
theorem dX11_bestPlace_30 : decode cX11_bestPlace 30 = .ok (.astore_n 1, 1) := by decide +kernel
theorem dX11_bestPlace_31 : decode cX11_bestPlace 31 = .ok (.iconst 0, 1) := by decide +kernel
theorem dX11_bestPlace_32 : decode cX11_bestPlace 32 = .ok (.istore_n 2, 1) := by decide +kernel
theorem dX11_bestPlace_33 : decode cX11_bestPlace 33 = .ok (.iload_n 2, 1) := by decide +kernel
theorem dX11_bestPlace_34 : decode cX11_bestPlace 34 = .ok (.aload_n 0, 1) := by decide +kernel
theorem dX11_bestPlace_35 : decode cX11_bestPlace 35 = .ok (.getfield 10, 3) := by decide +kernel
theorem dX11_bestPlace_38 : decode cX11_bestPlace 38 = .ok (.getfield 30, 3) := by decide +kernel
theorem dX11_bestPlace_41 : decode cX11_bestPlace 41 = .ok (.if_icmp .ge 38, 3) := by decide +kernel
theorem dX11_bestPlace_44 : decode cX11_bestPlace 44 = .ok (.aload_n 1, 1) := by decide +kernel
theorem dX11_bestPlace_45 : decode cX11_bestPlace 45 = .ok (.iload_n 2, 1) := by decide +kernel
theorem dX11_bestPlace_46 : decode cX11_bestPlace 46 = .ok (.bipush 20, 2) := by decide +kernel
theorem dX11_bestPlace_48 : decode cX11_bestPlace 48 = .ok (.aload_n 0, 1) := by decide +kernel
theorem dX11_bestPlace_49 : decode cX11_bestPlace 49 = .ok (.getfield 10, 3) := by decide +kernel
theorem dX11_bestPlace_52 : decode cX11_bestPlace 52 = .ok (.getfield 36, 3) := by decide +kernel
theorem dX11_bestPlace_55 : decode cX11_bestPlace 55 = .ok (.iload_n 2, 1) := by decide +kernel
theorem dX11_bestPlace_56 : decode cX11_bestPlace 56 = .ok (.aaload, 1) := by decide +kernel
theorem dX11_bestPlace_57 : decode cX11_bestPlace 57 = .ok (.iconst 0, 1) := by decide +kernel
theorem dX11_bestPlace_58 : decode cX11_bestPlace 58 = .ok (.iaload, 1) := by decide +kernel
theorem dX11_bestPlace_59 : decode cX11_bestPlace 59 = .ok (.imul, 1) := by decide +kernel
theorem dX11_bestPlace_60 : decode cX11_bestPlace 60 = .ok (.aload_n 0, 1) := by decide +kernel
theorem dX11_bestPlace_61 : decode cX11_bestPlace 61 = .ok (.getfield 10, 3) := by decide +kernel
theorem dX11_bestPlace_64 : decode cX11_bestPlace 64 = .ok (.getfield 36, 3) := by decide +kernel
theorem dX11_bestPlace_67 : decode cX11_bestPlace 67 = .ok (.iload_n 2, 1) := by decide +kernel
theorem dX11_bestPlace_68 : decode cX11_bestPlace 68 = .ok (.aaload, 1) := by decide +kernel
theorem dX11_bestPlace_69 : decode cX11_bestPlace 69 = .ok (.iconst 1, 1) := by decide +kernel
theorem dX11_bestPlace_70 : decode cX11_bestPlace 70 = .ok (.iaload, 1) := by decide +kernel
theorem dX11_bestPlace_71 : decode cX11_bestPlace 71 = .ok (.iadd, 1) := by decide +kernel
theorem dX11_bestPlace_72 : decode cX11_bestPlace 72 = .ok (.iastore, 1) := by decide +kernel
theorem dX11_bestPlace_73 : decode cX11_bestPlace 73 = .ok (.iinc 2 1, 3) := by decide +kernel
theorem dX11_bestPlace_76 : decode cX11_bestPlace 76 = .ok (.goto (-43), 3) := by decide +kernel
theorem dX11_bestPlace_79 : decode cX11_bestPlace 79 = .ok (.iconst (-1), 1) := by decide +kernel
theorem dX11_bestPlace_80 : decode cX11_bestPlace 80 = .ok (.istore_n 2, 1) := by decide +kernel
theorem dX11_bestPlace_81 : decode cX11_bestPlace 81 = .ok (.iconst (-1), 1) := by decide +kernel
theorem dX11_bestPlace_82 : decode cX11_bestPlace 82 = .ok (.istore_n 3, 1) := by decide +kernel
theorem dX11_bestPlace_83 : decode cX11_bestPlace 83 = .ok (.iconst 0, 1) := by decide +kernel
theorem dX11_bestPlace_84 : decode cX11_bestPlace 84 = .ok (.istore 4, 2) := by decide +kernel
theorem dX11_bestPlace_86 : decode cX11_bestPlace 86 = .ok (.iload 4, 2) := by decide +kernel
theorem dX11_bestPlace_88 : decode cX11_bestPlace 88 = .ok (.sipush 400, 3) := by decide +kernel
theorem dX11_bestPlace_91 : decode cX11_bestPlace 91 = .ok (.if_icmp .ge 90, 3) := by decide +kernel
theorem dX11_bestPlace_94 : decode cX11_bestPlace 94 = .ok (.aload_n 0, 1) := by decide +kernel
theorem dX11_bestPlace_95 : decode cX11_bestPlace 95 = .ok (.iload 4, 2) := by decide +kernel
theorem dX11_bestPlace_97 : decode cX11_bestPlace 97 = .ok (.bipush 20, 2) := by decide +kernel
theorem dX11_bestPlace_99 : decode cX11_bestPlace 99 = .ok (.idiv, 1) := by decide +kernel
theorem dX11_bestPlace_100 : decode cX11_bestPlace 100 = .ok (.iload 4, 2) := by decide +kernel
theorem dX11_bestPlace_102 : decode cX11_bestPlace 102 = .ok (.bipush 20, 2) := by decide +kernel
theorem dX11_bestPlace_104 : decode cX11_bestPlace 104 = .ok (.irem, 1) := by decide +kernel
theorem dX11_bestPlace_105 : decode cX11_bestPlace 105 = .ok (.invokevirtual 50, 3) := by decide +kernel
theorem dX11_bestPlace_108 : decode cX11_bestPlace 108 = .ok (.ifCond .eq 6, 3) := by decide +kernel
theorem dX11_bestPlace_111 : decode cX11_bestPlace 111 = .ok (.goto 64, 3) := by decide +kernel
theorem dX11_bestPlace_114 : decode cX11_bestPlace 114 = .ok (.aload_n 1, 1) := by decide +kernel
theorem dX11_bestPlace_115 : decode cX11_bestPlace 115 = .ok (.aload_n 0, 1) := by decide +kernel
theorem dX11_bestPlace_116 : decode cX11_bestPlace 116 = .ok (.getfield 10, 3) := by decide +kernel
theorem dX11_bestPlace_119 : decode cX11_bestPlace 119 = .ok (.getfield 30, 3) := by decide +kernel
theorem dX11_bestPlace_122 : decode cX11_bestPlace 122 = .ok (.iload 4, 2) := by decide +kernel
theorem dX11_bestPlace_124 : decode cX11_bestPlace 124 = .ok (.iastore, 1) := by decide +kernel
theorem dX11_bestPlace_125 : decode cX11_bestPlace 125 = .ok (.iconst 0, 1) := by decide +kernel
theorem dX11_bestPlace_126 : decode cX11_bestPlace 126 = .ok (.istore 5, 2) := by decide +kernel
theorem dX11_bestPlace_128 : decode cX11_bestPlace 128 = .ok (.iconst 0, 1) := by decide +kernel
theorem dX11_bestPlace_129 : decode cX11_bestPlace 129 = .ok (.istore 6, 2) := by decide +kernel
theorem dX11_bestPlace_131 : decode cX11_bestPlace 131 = .ok (.iload 6, 2) := by decide +kernel
theorem dX11_bestPlace_133 : decode cX11_bestPlace 133 = .ok (.bipush 8, 2) := by decide +kernel
theorem dX11_bestPlace_135 : decode cX11_bestPlace 135 = .ok (.if_icmp .ge 20, 3) := by decide +kernel
theorem dX11_bestPlace_138 : decode cX11_bestPlace 138 = .ok (.iload 5, 2) := by decide +kernel
theorem dX11_bestPlace_140 : decode cX11_bestPlace 140 = .ok (.aload_n 1, 1) := by decide +kernel
theorem dX11_bestPlace_141 : decode cX11_bestPlace 141 = .ok (.iload 6, 2) := by decide +kernel
theorem dX11_bestPlace_143 : decode cX11_bestPlace 143 = .ok (.invokestatic 171, 3) := by decide +kernel
theorem dX11_bestPlace_146 : decode cX11_bestPlace 146 = .ok (.iadd, 1) := by decide +kernel
theorem dX11_bestPlace_147 : decode cX11_bestPlace 147 = .ok (.istore 5, 2) := by decide +kernel
theorem dX11_bestPlace_149 : decode cX11_bestPlace 149 = .ok (.iinc 6 1, 3) := by decide +kernel
theorem dX11_bestPlace_152 : decode cX11_bestPlace 152 = .ok (.goto (-21), 3) := by decide +kernel
theorem dX11_bestPlace_155 : decode cX11_bestPlace 155 = .ok (.iload 5, 2) := by decide +kernel
theorem dX11_bestPlace_157 : decode cX11_bestPlace 157 = .ok (.iload_n 3, 1) := by decide +kernel
theorem dX11_bestPlace_158 : decode cX11_bestPlace 158 = .ok (.if_icmp .le 8, 3) := by decide +kernel
theorem dX11_bestPlace_161 : decode cX11_bestPlace 161 = .ok (.iload 4, 2) := by decide +kernel
theorem dX11_bestPlace_163 : decode cX11_bestPlace 163 = .ok (.goto 4, 3) := by decide +kernel
theorem dX11_bestPlace_166 : decode cX11_bestPlace 166 = .ok (.iload_n 2, 1) := by decide +kernel
theorem dX11_bestPlace_167 : decode cX11_bestPlace 167 = .ok (.istore_n 2, 1) := by decide +kernel
theorem dX11_bestPlace_168 : decode cX11_bestPlace 168 = .ok (.iload_n 3, 1) := by decide +kernel
theorem dX11_bestPlace_169 : decode cX11_bestPlace 169 = .ok (.iload 5, 2) := by decide +kernel
theorem dX11_bestPlace_171 : decode cX11_bestPlace 171 = .ok (.invokestatic 162, 3) := by decide +kernel
theorem dX11_bestPlace_174 : decode cX11_bestPlace 174 = .ok (.istore_n 3, 1) := by decide +kernel
theorem dX11_bestPlace_175 : decode cX11_bestPlace 175 = .ok (.iinc 4 1, 3) := by decide +kernel
theorem dX11_bestPlace_178 : decode cX11_bestPlace 178 = .ok (.goto (-92), 3) := by decide +kernel
theorem dX11_bestPlace_181 : decode cX11_bestPlace 181 = .ok (.iload_n 2, 1) := by decide +kernel
theorem dX11_bestPlace_182 : decode cX11_bestPlace 182 = .ok (.ireturn, 1) := by decide +kernel
theorem ycRX11_50 : Cond.methodLink RX11 50 yX11_isTaken ∈ zTg ∧ Cond.instanceMethod yX11_isTaken ∈ zTg ∧ Cond.selects "WakeBanksModel" yX11_isTaken yX11_isTaken ∈ zTg ∧ Cond.initialized "WakeBanksModel" ∈ zTg ∧ Cond.code yX11_isTaken cX11_isTaken 4 (some .boolean) ∈ zTg := ⟨zm_f 1086 (by decide +kernel) rfl, zm_f 1088 (by decide +kernel) rfl, zm_f 20 (by decide +kernel) rfl, zm_f 46 (by decide +kernel) rfl, zm_f 1089 (by decide +kernel) rfl⟩
theorem yyyX11_isTaken : yX11_isTaken.cls = "WakeBanksModel" ∧ yX11_isTaken.cls ≠ "java/lang/invoke/MethodHandle" ∧ yX11_isTaken.cls ≠ "java/lang/invoke/VarHandle" ∧ (parseMethodDescriptor yX11_isTaken.desc).map (fun d => d.parameters.length) = some 2 := by decide +kernel
theorem ycRX11_171 : Cond.methodLink RX11 171 yX11_powers ∈ zTg ∧ Cond.static yX11_powers ∈ zTg ∧ Cond.initialized yX11_powers.cls ∈ zTg ∧ Cond.code yX11_powers cX11_powers 14 (some .int) ∈ zTg := ⟨zm_f 1299 (by decide +kernel) rfl, zm_f 1300 (by decide +kernel) rfl, zm_f 46 (by decide +kernel) rfl, zm_f 1301 (by decide +kernel) rfl⟩
theorem yyyX11_powers : yX11_powers.cls ≠ "java/lang/invoke/MethodHandle" ∧ yX11_powers.cls ≠ "java/lang/invoke/VarHandle" ∧ (parseMethodDescriptor yX11_powers.desc).map (fun d => d.parameters.length) = some 2 := by decide +kernel
theorem ymRX11_162 : Cond.methodLink RX11 162 Lib.Math.max.name ∈ zTg ∧ Cond.static Lib.Math.max.name ∈ zTg ∧ Cond.initialized "java/lang/Math" ∈ zTg ∧ Cond.code Lib.Math.max.name Lib.Math.max.code 2 (some .int) ∈ zTg := ⟨zm_f 1294 (by decide +kernel) rfl, zm_f 373 (by decide +kernel) rfl, zm_f 56 (by decide +kernel) rfl, zm_f 374 (by decide +kernel) rfl⟩
set_option maxHeartbeats 8000000 in
set_option maxRecDepth 20000 in
theorem zrM_bp (h0 : Nat) (l : List Nat) (q : Nat) {X : zX} (F : zLr X cX11_bestPlace 7 RX11) (T : zRt X (some .int)) : ∀ (n i : Nat) (best most : Int32) (f : Nat → Int32), i + n = 400 → i ≤ 400 → ((i = 0 ∧ best = -1 ∧ most = -1) ∨ (best = 0 ∧ most = 8000)) → zN X 1 1 10 330 (zNQ X 1 1 (fun v ws => v = some (.int 0) ∧ ∃ s, ws[0]? = some (h0, .inr (10, [.int 0, .ref s])))) 7 86 [(4, .int (Int32.ofNat i)), (3, .int most), (2, .int best), (1, .ref q), (0, .ref h0)] [] (zwl (zcA X) (zadM h0 l) [(4, [1]), (3, [])] [zt0, zfr3] ++ [(q, .inl (zcA X 0, 1, .inl (f)))]) 1 1
  | 0, i, best, most, f, hn, hi, hbm => by
    obtain rfl : i = 400 := by omega
    obtain ⟨rfl, -⟩ : best = 0 ∧ most = 8000 := hbm.resolve_left fun z => absurd z.1 (by decide)
    refine zn_iload F (i := 4) (k := 0) dX11_bestPlace_86 rfl ?_
    refine zn_sipush F (v := 400) dX11_bestPlace_88 (by decide) ?_
    refine zn_icmp_ge F (tgt := 181) dX11_bestPlace_91 (by decide) (fun _ => ?_) (fun z => absurd (by decide) z)
    refine zn_iload_n F (i := 2) (k := 2) dX11_bestPlace_181 rfl rfl ?_
    exact zn_ireturn F T dX11_bestPlace_182 ⟨rfl, _, rfl⟩ (Nat.le_refl _) (Nat.le_refl _)
  | n + 1, i, best, most, f, hn, hi, hbm => by
    have ih := zrM_bp h0 l q F T n
    have hi : i < 400 := by omega
    refine zn_iload F (i := 4) (k := 0) dX11_bestPlace_86 rfl ?_
    refine zn_sipush F (v := 400) dX11_bestPlace_88 (by decide) ?_
    refine zn_icmp_ge F (tgt := 181) dX11_bestPlace_91 (by decide) (fun z => absurd z (znlt (n := 400) (by decide) hi)) (fun _ => ?_)
    refine zn_aload_n F (i := 0) (k := 4) dX11_bestPlace_94 rfl rfl ?_
    refine zn_iload F (i := 4) (k := 0) dX11_bestPlace_95 rfl ?_
    refine zn_bipush F (v := 20) dX11_bestPlace_97 (by decide) ?_
    refine zn_idiv F dX11_bestPlace_99 (by decide) ?_
    refine zn_iload F (i := 4) (k := 0) dX11_bestPlace_100 rfl ?_
    refine zn_bipush F (v := 20) dX11_bestPlace_102 (by decide) ?_
    refine zn_irem F dX11_bestPlace_104 (by decide) ?_
    refine zn_callV F (as := [.int (Int32.ofNat i / 20), .int (Int32.ofNat i % 20)]) (st := []) (j0 := 0) (zAl_z (v := some (zi 0)) (as := [zr 0 0 0, zi (Int32.ofNat i / 20), zi (Int32.ofNat i % 20)]) (Rg := [(4, [1]), (3, [])]) (Ms := [zt0, zfr3]) (Ms' := [zt0, zfr3]) (zfMO_isTaken (Int32.ofNat i / 20) (Int32.ofNat i % 20) zt0 zfr3 _ (q_tk _ _)) rfl (zadM h0 l)) dX11_bestPlace_105 ycRX11_50 yyyX11_isTaken rfl (wsB := [(q, .inl (zcA X 0, 1, .inl (f)))]) rfl (ci := 10) rfl rfl rfl (Nat.le_of_ble_eq_true rfl) (Nat.le_of_ble_eq_true rfl) (Nat.le_of_ble_eq_true rfl) (Nat.le_of_ble_eq_true rfl) (Nat.le_of_ble_eq_true rfl) fun v w1 hB => ?_
    obtain ⟨rfl, rfl⟩ := hB
    refine zn_if_eq F (tgt := 114) dX11_bestPlace_108 (by decide) (fun _ => ?_) (fun z => absurd rfl z)
    refine zn_aload_n F (i := 1) (k := 3) dX11_bestPlace_114 rfl rfl ?_
    refine zn_aload_n F (i := 0) (k := 4) dX11_bestPlace_115 rfl rfl ?_
    refine zn_get F (j := 0) (v := .ref ((zadM h0 l) (1, 0, 0))) dX11_bestPlace_116 yfRX11_10 zCl_10 rfl rfl ?_
    refine zn_get F (j := 1) (v := .int 0) dX11_bestPlace_119 yfRX11_30 zCl_9 rfl rfl ?_
    refine zn_iload F (i := 4) (k := 0) dX11_bestPlace_122 rfl ?_
    refine zn_perm List.perm_append_comm ?_
    refine zn_iast F (q0 := 0) (jn := 0) (ws' := [(q, .inl (zcA X 0, 1, .inl (upd f 0 (Int32.ofNat i))))] ++ zwl (zcA X) (zadM h0 l) [(4, [1]), (3, [])] [zt0, zfr3]) dX11_bestPlace_124 rfl (zvi (by decide)) (by decide) rfl ?_
    refine zn_iconst F (v := 0) dX11_bestPlace_125 (by decide) ?_
    refine zn_istore F (i := 5) (lv' := [(5, .int 0), (4, .int (Int32.ofNat i)), (3, .int most), (2, .int best), (1, .ref q), (0, .ref h0)]) dX11_bestPlace_126 (by decide) rfl ?_
    refine zn_iconst F (v := 0) dX11_bestPlace_128 (by decide) ?_
    refine zn_istore F (i := 6) (lv' := [(6, .int 0), (5, .int 0), (4, .int (Int32.ofNat i)), (3, .int most), (2, .int best), (1, .ref q), (0, .ref h0)]) dX11_bestPlace_129 (by decide) rfl ?_
    refine zn_iload F (i := 6) (k := 0) dX11_bestPlace_131 rfl ?_
    refine zn_bipush F (v := 8) dX11_bestPlace_133 (by decide) ?_
    refine zn_icmp_ge F (tgt := 155) dX11_bestPlace_135 (by decide) (fun z => absurd z (by decide)) (fun _ => ?_)
    refine zn_iload F (i := 5) (k := 1) dX11_bestPlace_138 rfl ?_
    refine zn_aload_n F (i := 1) (k := 5) dX11_bestPlace_140 rfl rfl ?_
    refine zn_iload F (i := 6) (k := 0) dX11_bestPlace_141 rfl ?_
    refine zn_callS F (as := [.ref q, .int 0]) (st := [.int 0]) (W0 := fun cA => zwl cA (fun _ => q) [(5, [])] [fun _ _ => upd f 0 (Int32.ofNat i)]) (zAl_z (v := some (zi 1000)) (as := [zr 0 0 0, zi 0]) (Rg := [(5, [])]) (Ms := [fun _ _ => upd f 0 (Int32.ofNat i)]) (Ms' := [fun _ _ => upd f 0 (Int32.ofNat i)]) (zfMO_powers 0 (fun _ _ => upd f 0 (Int32.ofNat i)) _ (q_pws _ _)) rfl (fun _ => q)) dX11_bestPlace_143 ycRX11_171 yyyX11_powers rfl (wsB := zwl (zcA X) (zadM h0 l) [(4, [1]), (3, [])] [zt0, zfr3]) rfl rfl (Nat.le_of_ble_eq_true rfl) (Nat.le_of_ble_eq_true rfl) (Nat.le_of_ble_eq_true rfl) (Nat.le_of_ble_eq_true rfl) (Nat.le_of_ble_eq_true rfl) fun v w1 hB => ?_
    obtain ⟨rfl, rfl⟩ := hB
    refine zn_ws (ws' := [(q, .inl (zcA X 0, 1, .inl (upd f 0 (Int32.ofNat i))))] ++ zwl (zcA X) (zadM h0 l) [(4, [1]), (3, [])] [zt0, zfr3]) rfl ?_
    refine zn_iaddv F (v := 1000) dX11_bestPlace_146 (by decide) ?_
    refine zn_istore F (i := 5) (lv' := [(5, .int 1000), (6, .int 0), (4, .int (Int32.ofNat i)), (3, .int most), (2, .int best), (1, .ref q), (0, .ref h0)]) dX11_bestPlace_147 (by decide) rfl ?_
    refine zn_iinc F (i := 6) (k := 1) (v := 1) (lv' := [(6, .int 1), (5, .int 1000), (4, .int (Int32.ofNat i)), (3, .int most), (2, .int best), (1, .ref q), (0, .ref h0)]) dX11_bestPlace_149 rfl (by decide) (by decide) rfl ?_
    refine zn_goto F (tgt := 131) dX11_bestPlace_152 (by decide) ?_
    refine zn_iload F (i := 6) (k := 0) dX11_bestPlace_131 rfl ?_
    refine zn_bipush F (v := 8) dX11_bestPlace_133 (by decide) ?_
    refine zn_icmp_ge F (tgt := 155) dX11_bestPlace_135 (by decide) (fun z => absurd z (by decide)) (fun _ => ?_)
    refine zn_iload F (i := 5) (k := 1) dX11_bestPlace_138 rfl ?_
    refine zn_aload_n F (i := 1) (k := 5) dX11_bestPlace_140 rfl rfl ?_
    refine zn_iload F (i := 6) (k := 0) dX11_bestPlace_141 rfl ?_
    refine zn_callS F (as := [.ref q, .int 1]) (st := [.int 1000]) (W0 := fun cA => zwl cA (fun _ => q) [(5, [])] [fun _ _ => upd f 0 (Int32.ofNat i)]) (zAl_z (v := some (zi 1000)) (as := [zr 0 0 0, zi 1]) (Rg := [(5, [])]) (Ms := [fun _ _ => upd f 0 (Int32.ofNat i)]) (Ms' := [fun _ _ => upd f 0 (Int32.ofNat i)]) (zfMO_powers 1 (fun _ _ => upd f 0 (Int32.ofNat i)) _ (q_pws _ _)) rfl (fun _ => q)) dX11_bestPlace_143 ycRX11_171 yyyX11_powers rfl (wsB := zwl (zcA X) (zadM h0 l) [(4, [1]), (3, [])] [zt0, zfr3]) rfl rfl (Nat.le_of_ble_eq_true rfl) (Nat.le_of_ble_eq_true rfl) (Nat.le_of_ble_eq_true rfl) (Nat.le_of_ble_eq_true rfl) (Nat.le_of_ble_eq_true rfl) fun v w1 hB => ?_
    obtain ⟨rfl, rfl⟩ := hB
    refine zn_ws (ws' := [(q, .inl (zcA X 0, 1, .inl (upd f 0 (Int32.ofNat i))))] ++ zwl (zcA X) (zadM h0 l) [(4, [1]), (3, [])] [zt0, zfr3]) rfl ?_
    refine zn_iaddv F (v := 2000) dX11_bestPlace_146 (by decide) ?_
    refine zn_istore F (i := 5) (lv' := [(5, .int 2000), (6, .int 1), (4, .int (Int32.ofNat i)), (3, .int most), (2, .int best), (1, .ref q), (0, .ref h0)]) dX11_bestPlace_147 (by decide) rfl ?_
    refine zn_iinc F (i := 6) (k := 1) (v := 2) (lv' := [(6, .int 2), (5, .int 2000), (4, .int (Int32.ofNat i)), (3, .int most), (2, .int best), (1, .ref q), (0, .ref h0)]) dX11_bestPlace_149 rfl (by decide) (by decide) rfl ?_
    refine zn_goto F (tgt := 131) dX11_bestPlace_152 (by decide) ?_
    refine zn_iload F (i := 6) (k := 0) dX11_bestPlace_131 rfl ?_
    refine zn_bipush F (v := 8) dX11_bestPlace_133 (by decide) ?_
    refine zn_icmp_ge F (tgt := 155) dX11_bestPlace_135 (by decide) (fun z => absurd z (by decide)) (fun _ => ?_)
    refine zn_iload F (i := 5) (k := 1) dX11_bestPlace_138 rfl ?_
    refine zn_aload_n F (i := 1) (k := 5) dX11_bestPlace_140 rfl rfl ?_
    refine zn_iload F (i := 6) (k := 0) dX11_bestPlace_141 rfl ?_
    refine zn_callS F (as := [.ref q, .int 2]) (st := [.int 2000]) (W0 := fun cA => zwl cA (fun _ => q) [(5, [])] [fun _ _ => upd f 0 (Int32.ofNat i)]) (zAl_z (v := some (zi 1000)) (as := [zr 0 0 0, zi 2]) (Rg := [(5, [])]) (Ms := [fun _ _ => upd f 0 (Int32.ofNat i)]) (Ms' := [fun _ _ => upd f 0 (Int32.ofNat i)]) (zfMO_powers 2 (fun _ _ => upd f 0 (Int32.ofNat i)) _ (q_pws _ _)) rfl (fun _ => q)) dX11_bestPlace_143 ycRX11_171 yyyX11_powers rfl (wsB := zwl (zcA X) (zadM h0 l) [(4, [1]), (3, [])] [zt0, zfr3]) rfl rfl (Nat.le_of_ble_eq_true rfl) (Nat.le_of_ble_eq_true rfl) (Nat.le_of_ble_eq_true rfl) (Nat.le_of_ble_eq_true rfl) (Nat.le_of_ble_eq_true rfl) fun v w1 hB => ?_
    obtain ⟨rfl, rfl⟩ := hB
    refine zn_ws (ws' := [(q, .inl (zcA X 0, 1, .inl (upd f 0 (Int32.ofNat i))))] ++ zwl (zcA X) (zadM h0 l) [(4, [1]), (3, [])] [zt0, zfr3]) rfl ?_
    refine zn_iaddv F (v := 3000) dX11_bestPlace_146 (by decide) ?_
    refine zn_istore F (i := 5) (lv' := [(5, .int 3000), (6, .int 2), (4, .int (Int32.ofNat i)), (3, .int most), (2, .int best), (1, .ref q), (0, .ref h0)]) dX11_bestPlace_147 (by decide) rfl ?_
    refine zn_iinc F (i := 6) (k := 1) (v := 3) (lv' := [(6, .int 3), (5, .int 3000), (4, .int (Int32.ofNat i)), (3, .int most), (2, .int best), (1, .ref q), (0, .ref h0)]) dX11_bestPlace_149 rfl (by decide) (by decide) rfl ?_
    refine zn_goto F (tgt := 131) dX11_bestPlace_152 (by decide) ?_
    refine zn_iload F (i := 6) (k := 0) dX11_bestPlace_131 rfl ?_
    refine zn_bipush F (v := 8) dX11_bestPlace_133 (by decide) ?_
    refine zn_icmp_ge F (tgt := 155) dX11_bestPlace_135 (by decide) (fun z => absurd z (by decide)) (fun _ => ?_)
    refine zn_iload F (i := 5) (k := 1) dX11_bestPlace_138 rfl ?_
    refine zn_aload_n F (i := 1) (k := 5) dX11_bestPlace_140 rfl rfl ?_
    refine zn_iload F (i := 6) (k := 0) dX11_bestPlace_141 rfl ?_
    refine zn_callS F (as := [.ref q, .int 3]) (st := [.int 3000]) (W0 := fun cA => zwl cA (fun _ => q) [(5, [])] [fun _ _ => upd f 0 (Int32.ofNat i)]) (zAl_z (v := some (zi 1000)) (as := [zr 0 0 0, zi 3]) (Rg := [(5, [])]) (Ms := [fun _ _ => upd f 0 (Int32.ofNat i)]) (Ms' := [fun _ _ => upd f 0 (Int32.ofNat i)]) (zfMO_powers 3 (fun _ _ => upd f 0 (Int32.ofNat i)) _ (q_pws _ _)) rfl (fun _ => q)) dX11_bestPlace_143 ycRX11_171 yyyX11_powers rfl (wsB := zwl (zcA X) (zadM h0 l) [(4, [1]), (3, [])] [zt0, zfr3]) rfl rfl (Nat.le_of_ble_eq_true rfl) (Nat.le_of_ble_eq_true rfl) (Nat.le_of_ble_eq_true rfl) (Nat.le_of_ble_eq_true rfl) (Nat.le_of_ble_eq_true rfl) fun v w1 hB => ?_
    obtain ⟨rfl, rfl⟩ := hB
    refine zn_ws (ws' := [(q, .inl (zcA X 0, 1, .inl (upd f 0 (Int32.ofNat i))))] ++ zwl (zcA X) (zadM h0 l) [(4, [1]), (3, [])] [zt0, zfr3]) rfl ?_
    refine zn_iaddv F (v := 4000) dX11_bestPlace_146 (by decide) ?_
    refine zn_istore F (i := 5) (lv' := [(5, .int 4000), (6, .int 3), (4, .int (Int32.ofNat i)), (3, .int most), (2, .int best), (1, .ref q), (0, .ref h0)]) dX11_bestPlace_147 (by decide) rfl ?_
    refine zn_iinc F (i := 6) (k := 1) (v := 4) (lv' := [(6, .int 4), (5, .int 4000), (4, .int (Int32.ofNat i)), (3, .int most), (2, .int best), (1, .ref q), (0, .ref h0)]) dX11_bestPlace_149 rfl (by decide) (by decide) rfl ?_
    refine zn_goto F (tgt := 131) dX11_bestPlace_152 (by decide) ?_
    refine zn_iload F (i := 6) (k := 0) dX11_bestPlace_131 rfl ?_
    refine zn_bipush F (v := 8) dX11_bestPlace_133 (by decide) ?_
    refine zn_icmp_ge F (tgt := 155) dX11_bestPlace_135 (by decide) (fun z => absurd z (by decide)) (fun _ => ?_)
    refine zn_iload F (i := 5) (k := 1) dX11_bestPlace_138 rfl ?_
    refine zn_aload_n F (i := 1) (k := 5) dX11_bestPlace_140 rfl rfl ?_
    refine zn_iload F (i := 6) (k := 0) dX11_bestPlace_141 rfl ?_
    refine zn_callS F (as := [.ref q, .int 4]) (st := [.int 4000]) (W0 := fun cA => zwl cA (fun _ => q) [(5, [])] [fun _ _ => upd f 0 (Int32.ofNat i)]) (zAl_z (v := some (zi 1000)) (as := [zr 0 0 0, zi 4]) (Rg := [(5, [])]) (Ms := [fun _ _ => upd f 0 (Int32.ofNat i)]) (Ms' := [fun _ _ => upd f 0 (Int32.ofNat i)]) (zfMO_powers 4 (fun _ _ => upd f 0 (Int32.ofNat i)) _ (q_pws _ _)) rfl (fun _ => q)) dX11_bestPlace_143 ycRX11_171 yyyX11_powers rfl (wsB := zwl (zcA X) (zadM h0 l) [(4, [1]), (3, [])] [zt0, zfr3]) rfl rfl (Nat.le_of_ble_eq_true rfl) (Nat.le_of_ble_eq_true rfl) (Nat.le_of_ble_eq_true rfl) (Nat.le_of_ble_eq_true rfl) (Nat.le_of_ble_eq_true rfl) fun v w1 hB => ?_
    obtain ⟨rfl, rfl⟩ := hB
    refine zn_ws (ws' := [(q, .inl (zcA X 0, 1, .inl (upd f 0 (Int32.ofNat i))))] ++ zwl (zcA X) (zadM h0 l) [(4, [1]), (3, [])] [zt0, zfr3]) rfl ?_
    refine zn_iaddv F (v := 5000) dX11_bestPlace_146 (by decide) ?_
    refine zn_istore F (i := 5) (lv' := [(5, .int 5000), (6, .int 4), (4, .int (Int32.ofNat i)), (3, .int most), (2, .int best), (1, .ref q), (0, .ref h0)]) dX11_bestPlace_147 (by decide) rfl ?_
    refine zn_iinc F (i := 6) (k := 1) (v := 5) (lv' := [(6, .int 5), (5, .int 5000), (4, .int (Int32.ofNat i)), (3, .int most), (2, .int best), (1, .ref q), (0, .ref h0)]) dX11_bestPlace_149 rfl (by decide) (by decide) rfl ?_
    refine zn_goto F (tgt := 131) dX11_bestPlace_152 (by decide) ?_
    refine zn_iload F (i := 6) (k := 0) dX11_bestPlace_131 rfl ?_
    refine zn_bipush F (v := 8) dX11_bestPlace_133 (by decide) ?_
    refine zn_icmp_ge F (tgt := 155) dX11_bestPlace_135 (by decide) (fun z => absurd z (by decide)) (fun _ => ?_)
    refine zn_iload F (i := 5) (k := 1) dX11_bestPlace_138 rfl ?_
    refine zn_aload_n F (i := 1) (k := 5) dX11_bestPlace_140 rfl rfl ?_
    refine zn_iload F (i := 6) (k := 0) dX11_bestPlace_141 rfl ?_
    refine zn_callS F (as := [.ref q, .int 5]) (st := [.int 5000]) (W0 := fun cA => zwl cA (fun _ => q) [(5, [])] [fun _ _ => upd f 0 (Int32.ofNat i)]) (zAl_z (v := some (zi 1000)) (as := [zr 0 0 0, zi 5]) (Rg := [(5, [])]) (Ms := [fun _ _ => upd f 0 (Int32.ofNat i)]) (Ms' := [fun _ _ => upd f 0 (Int32.ofNat i)]) (zfMO_powers 5 (fun _ _ => upd f 0 (Int32.ofNat i)) _ (q_pws _ _)) rfl (fun _ => q)) dX11_bestPlace_143 ycRX11_171 yyyX11_powers rfl (wsB := zwl (zcA X) (zadM h0 l) [(4, [1]), (3, [])] [zt0, zfr3]) rfl rfl (Nat.le_of_ble_eq_true rfl) (Nat.le_of_ble_eq_true rfl) (Nat.le_of_ble_eq_true rfl) (Nat.le_of_ble_eq_true rfl) (Nat.le_of_ble_eq_true rfl) fun v w1 hB => ?_
    obtain ⟨rfl, rfl⟩ := hB
    refine zn_ws (ws' := [(q, .inl (zcA X 0, 1, .inl (upd f 0 (Int32.ofNat i))))] ++ zwl (zcA X) (zadM h0 l) [(4, [1]), (3, [])] [zt0, zfr3]) rfl ?_
    refine zn_iaddv F (v := 6000) dX11_bestPlace_146 (by decide) ?_
    refine zn_istore F (i := 5) (lv' := [(5, .int 6000), (6, .int 5), (4, .int (Int32.ofNat i)), (3, .int most), (2, .int best), (1, .ref q), (0, .ref h0)]) dX11_bestPlace_147 (by decide) rfl ?_
    refine zn_iinc F (i := 6) (k := 1) (v := 6) (lv' := [(6, .int 6), (5, .int 6000), (4, .int (Int32.ofNat i)), (3, .int most), (2, .int best), (1, .ref q), (0, .ref h0)]) dX11_bestPlace_149 rfl (by decide) (by decide) rfl ?_
    refine zn_goto F (tgt := 131) dX11_bestPlace_152 (by decide) ?_
    refine zn_iload F (i := 6) (k := 0) dX11_bestPlace_131 rfl ?_
    refine zn_bipush F (v := 8) dX11_bestPlace_133 (by decide) ?_
    refine zn_icmp_ge F (tgt := 155) dX11_bestPlace_135 (by decide) (fun z => absurd z (by decide)) (fun _ => ?_)
    refine zn_iload F (i := 5) (k := 1) dX11_bestPlace_138 rfl ?_
    refine zn_aload_n F (i := 1) (k := 5) dX11_bestPlace_140 rfl rfl ?_
    refine zn_iload F (i := 6) (k := 0) dX11_bestPlace_141 rfl ?_
    refine zn_callS F (as := [.ref q, .int 6]) (st := [.int 6000]) (W0 := fun cA => zwl cA (fun _ => q) [(5, [])] [fun _ _ => upd f 0 (Int32.ofNat i)]) (zAl_z (v := some (zi 1000)) (as := [zr 0 0 0, zi 6]) (Rg := [(5, [])]) (Ms := [fun _ _ => upd f 0 (Int32.ofNat i)]) (Ms' := [fun _ _ => upd f 0 (Int32.ofNat i)]) (zfMO_powers 6 (fun _ _ => upd f 0 (Int32.ofNat i)) _ (q_pws _ _)) rfl (fun _ => q)) dX11_bestPlace_143 ycRX11_171 yyyX11_powers rfl (wsB := zwl (zcA X) (zadM h0 l) [(4, [1]), (3, [])] [zt0, zfr3]) rfl rfl (Nat.le_of_ble_eq_true rfl) (Nat.le_of_ble_eq_true rfl) (Nat.le_of_ble_eq_true rfl) (Nat.le_of_ble_eq_true rfl) (Nat.le_of_ble_eq_true rfl) fun v w1 hB => ?_
    obtain ⟨rfl, rfl⟩ := hB
    refine zn_ws (ws' := [(q, .inl (zcA X 0, 1, .inl (upd f 0 (Int32.ofNat i))))] ++ zwl (zcA X) (zadM h0 l) [(4, [1]), (3, [])] [zt0, zfr3]) rfl ?_
    refine zn_iaddv F (v := 7000) dX11_bestPlace_146 (by decide) ?_
    refine zn_istore F (i := 5) (lv' := [(5, .int 7000), (6, .int 6), (4, .int (Int32.ofNat i)), (3, .int most), (2, .int best), (1, .ref q), (0, .ref h0)]) dX11_bestPlace_147 (by decide) rfl ?_
    refine zn_iinc F (i := 6) (k := 1) (v := 7) (lv' := [(6, .int 7), (5, .int 7000), (4, .int (Int32.ofNat i)), (3, .int most), (2, .int best), (1, .ref q), (0, .ref h0)]) dX11_bestPlace_149 rfl (by decide) (by decide) rfl ?_
    refine zn_goto F (tgt := 131) dX11_bestPlace_152 (by decide) ?_
    refine zn_iload F (i := 6) (k := 0) dX11_bestPlace_131 rfl ?_
    refine zn_bipush F (v := 8) dX11_bestPlace_133 (by decide) ?_
    refine zn_icmp_ge F (tgt := 155) dX11_bestPlace_135 (by decide) (fun z => absurd z (by decide)) (fun _ => ?_)
    refine zn_iload F (i := 5) (k := 1) dX11_bestPlace_138 rfl ?_
    refine zn_aload_n F (i := 1) (k := 5) dX11_bestPlace_140 rfl rfl ?_
    refine zn_iload F (i := 6) (k := 0) dX11_bestPlace_141 rfl ?_
    refine zn_callS F (as := [.ref q, .int 7]) (st := [.int 7000]) (W0 := fun cA => zwl cA (fun _ => q) [(5, [])] [fun _ _ => upd f 0 (Int32.ofNat i)]) (zAl_z (v := some (zi 1000)) (as := [zr 0 0 0, zi 7]) (Rg := [(5, [])]) (Ms := [fun _ _ => upd f 0 (Int32.ofNat i)]) (Ms' := [fun _ _ => upd f 0 (Int32.ofNat i)]) (zfMO_powers 7 (fun _ _ => upd f 0 (Int32.ofNat i)) _ (q_pws _ _)) rfl (fun _ => q)) dX11_bestPlace_143 ycRX11_171 yyyX11_powers rfl (wsB := zwl (zcA X) (zadM h0 l) [(4, [1]), (3, [])] [zt0, zfr3]) rfl rfl (Nat.le_of_ble_eq_true rfl) (Nat.le_of_ble_eq_true rfl) (Nat.le_of_ble_eq_true rfl) (Nat.le_of_ble_eq_true rfl) (Nat.le_of_ble_eq_true rfl) fun v w1 hB => ?_
    obtain ⟨rfl, rfl⟩ := hB
    refine zn_ws (ws' := [(q, .inl (zcA X 0, 1, .inl (upd f 0 (Int32.ofNat i))))] ++ zwl (zcA X) (zadM h0 l) [(4, [1]), (3, [])] [zt0, zfr3]) rfl ?_
    refine zn_iaddv F (v := 8000) dX11_bestPlace_146 (by decide) ?_
    refine zn_istore F (i := 5) (lv' := [(5, .int 8000), (6, .int 7), (4, .int (Int32.ofNat i)), (3, .int most), (2, .int best), (1, .ref q), (0, .ref h0)]) dX11_bestPlace_147 (by decide) rfl ?_
    refine zn_iinc F (i := 6) (k := 1) (v := 8) (lv' := [(6, .int 8), (5, .int 8000), (4, .int (Int32.ofNat i)), (3, .int most), (2, .int best), (1, .ref q), (0, .ref h0)]) dX11_bestPlace_149 rfl (by decide) (by decide) rfl ?_
    refine zn_goto F (tgt := 131) dX11_bestPlace_152 (by decide) ?_
    refine zn_iload F (i := 6) (k := 0) dX11_bestPlace_131 rfl ?_
    refine zn_bipush F (v := 8) dX11_bestPlace_133 (by decide) ?_
    refine zn_icmp_ge F (tgt := 155) dX11_bestPlace_135 (by decide) (fun _ => ?_) (fun z => absurd (by decide) z)
    refine zn_iload F (i := 5) (k := 1) dX11_bestPlace_155 rfl ?_
    refine zn_iload_n F (i := 3) (k := 3) dX11_bestPlace_157 rfl rfl ?_
    refine zn_perm List.perm_append_comm ?_
    refine (fun (kj : zN X 1 1 10 330 (zNQ X 1 1 (fun v ws => v = some (.int 0) ∧ ∃ s, ws[0]? = some (h0, .inr (10, [.int 0, .ref s])))) 7 167 [(6, .int 8), (5, .int 8000), (4, .int (Int32.ofNat i)), (3, .int most), (2, .int best), (1, .ref q), (0, .ref h0)] [.int 0] (zwl (zcA X) (zadM h0 l) [(4, [1]), (3, [])] [zt0, zfr3] ++ [(q, .inl (zcA X 0, 1, .inl (upd f 0 (Int32.ofNat i))))]) 1 1) => ?_) ?_
    · rcases hbm with ⟨h1, h2, h3⟩ | ⟨h2, h3⟩
      · subst h2; subst h3; subst h1
        refine zn_icmp_le F (tgt := 166) dX11_bestPlace_158 (by decide) (fun z => absurd z (by decide)) (fun _ => ?_)
        refine zn_iload F (i := 4) (k := 2) dX11_bestPlace_161 rfl ?_
        exact zn_goto F (tgt := 167) dX11_bestPlace_163 (by decide) kj
      · subst h2; subst h3
        refine zn_icmp_le F (tgt := 166) dX11_bestPlace_158 (by decide) (fun _ => ?_) (fun z => absurd (by decide) z)
        exact zn_iload_n F (i := 2) (k := 4) dX11_bestPlace_166 rfl rfl kj
    · refine zn_istore_n F (i := 2) (lv' := [(2, .int 0), (6, .int 8), (5, .int 8000), (4, .int (Int32.ofNat i)), (3, .int most), (1, .ref q), (0, .ref h0)]) dX11_bestPlace_167 rfl (by decide) rfl ?_
      refine zn_iload_n F (i := 3) (k := 4) dX11_bestPlace_168 rfl rfl ?_
      refine zn_iload F (i := 5) (k := 2) dX11_bestPlace_169 rfl ?_
      refine zn_max F dX11_bestPlace_171 ymRX11_162 (Nat.le_of_ble_eq_true rfl) (Nat.le_of_ble_eq_true rfl) (Nat.le_of_ble_eq_true rfl) (Nat.le_of_ble_eq_true rfl) ?_
      rw [show (if most < 8000 then (8000 : Int32) else most) = 8000 by rcases hbm with ⟨-, -, h⟩ | ⟨-, h⟩ <;> rw [h] <;> decide]
      refine zn_istore_n F (i := 3) (lv' := [(3, .int 8000), (2, .int 0), (6, .int 8), (5, .int 8000), (4, .int (Int32.ofNat i)), (1, .ref q), (0, .ref h0)]) dX11_bestPlace_174 rfl (by decide) rfl ?_
      refine zn_iinc F (i := 4) (k := 4) (v := Int32.ofNat (i + 1)) (lv' := [(4, .int (Int32.ofNat (i + 1))), (3, .int 8000), (2, .int 0), (6, .int 8), (5, .int 8000), (1, .ref q), (0, .ref h0)]) dX11_bestPlace_175 rfl (zn1 i) (by decide) rfl ?_
      refine zn_goto F (tgt := 86) dX11_bestPlace_178 (by decide) ?_
      refine zn_pick [0, 1, 2, 5, 6] (lv' := [(4, .int (Int32.ofNat (i + 1))), (3, .int 8000), (2, .int 0), (1, .ref q), (0, .ref h0)]) rfl ?_
      exact ih (i + 1) 0 8000 _ (by omega) (by omega) (Or.inr ⟨rfl, rfl⟩)
set_option maxHeartbeats 8000000 in
set_option maxRecDepth 20000 in
theorem zrM_bestPlace (h0 : Nat) (l : List Nat) : zAl yX11_bestPlace cX11_bestPlace 7 (some .int) 10 330 1 1 [.ref h0] (fun cA => zwl cA (zadM h0 l) [(4, [1]), (3, [])] [zm0, zfr3]) (fun cA v ws => v = some (.int 0) ∧ ∃ s, ws[0]? = some (h0, .inr (10, [.int 0, .ref s]))) := by
  refine zAl_of (by decide) (Nat.le_of_ble_eq_true rfl) fun X F T hex => ?_
  show zN X 1 1 10 330 _ 7 0 [(0, .ref h0)] [] (zwl (zcA X) (zadM h0 l) [(4, [1]), (3, [])] [zm0, zfr3]) 0 0
  refine zn_aload_n F (i := 0) (k := 0) dX11_bestPlace_0 rfl rfl ?_
  refine zn_iconst F (v := 0) dX11_bestPlace_1 (by decide) ?_
  refine zn_put F (j := 0) (ws' := zwl (zcA X) (zadM h0 l) [(4, [1]), (3, [])] [zt0, zfr3]) dX11_bestPlace_2 ypRX11_16 zCl_10 rfl (zlb rfl) rfl ?_
  refine zn_aload_n F (i := 0) (k := 0) dX11_bestPlace_5 rfl rfl ?_
  refine zn_get F (j := 0) (v := .ref ((zadM h0 l) (1, 0, 0))) dX11_bestPlace_6 yfRX11_10 zCl_10 rfl rfl ?_
  refine zn_get F (j := 1) (v := .int 0) dX11_bestPlace_9 yfRX11_30 zCl_9 rfl rfl ?_
  refine zn_bipush F (v := 8) dX11_bestPlace_12 (by decide) ?_
  refine zn_icmp_ne F (tgt := 19) dX11_bestPlace_14 (by decide) (fun _ => ?_) (fun z => absurd z (by decide))
  refine zn_aload_n F (i := 0) (k := 0) dX11_bestPlace_19 rfl rfl ?_
  refine zn_get F (j := 0) (v := .ref ((zadM h0 l) (1, 0, 0))) dX11_bestPlace_20 yfRX11_10 zCl_10 rfl rfl ?_
  refine zn_get F (j := 1) (v := .int 0) dX11_bestPlace_23 yfRX11_30 zCl_9 rfl rfl ?_
  refine zn_iconst F (v := 1) dX11_bestPlace_26 (by decide) ?_
  refine zn_iaddv F (v := 1) dX11_bestPlace_27 (by decide) ?_
  refine zn_newa F (N := 1) dX11_bestPlace_28 wArrP (by decide) (by decide) (Nat.le_of_ble_eq_true rfl) (Nat.le_of_ble_eq_true rfl) (Nat.le_of_ble_eq_true rfl) fun q0 => ?_
  refine zn_astore_n F (i := 1) (lv' := [(1, .ref q0), (0, .ref ((zadM h0 l) (0, 0, 0)))]) dX11_bestPlace_30 rfl (by decide) rfl ?_
  refine zn_iconst F (v := 0) dX11_bestPlace_31 (by decide) ?_
  refine zn_istore_n F (i := 2) (lv' := [(2, .int 0), (1, .ref q0), (0, .ref ((zadM h0 l) (0, 0, 0)))]) dX11_bestPlace_32 rfl (by decide) rfl ?_
  refine zn_iload_n F (i := 2) (k := 0) dX11_bestPlace_33 rfl rfl ?_
  refine zn_aload_n F (i := 0) (k := 2) dX11_bestPlace_34 rfl rfl ?_
  refine zn_get F (j := 0) (v := .ref ((zadM h0 l) (1, 0, 0))) dX11_bestPlace_35 yfRX11_10 zCl_10 rfl rfl ?_
  refine zn_get F (j := 1) (v := .int 0) dX11_bestPlace_38 yfRX11_30 zCl_9 rfl rfl ?_
  refine zn_icmp_ge F (tgt := 79) dX11_bestPlace_41 (by decide) (fun _ => ?_) (fun z => absurd z (by decide))
  refine zn_iconst F (v := -1) dX11_bestPlace_79 (by decide) ?_
  refine zn_istore_n F (i := 2) (lv' := [(2, .int (-1)), (1, .ref q0), (0, .ref ((zadM h0 l) (0, 0, 0)))]) dX11_bestPlace_80 rfl (by decide) rfl ?_
  refine zn_iconst F (v := -1) dX11_bestPlace_81 (by decide) ?_
  refine zn_istore_n F (i := 3) (lv' := [(3, .int (-1)), (2, .int (-1)), (1, .ref q0), (0, .ref ((zadM h0 l) (0, 0, 0)))]) dX11_bestPlace_82 rfl (by decide) rfl ?_
  refine zn_iconst F (v := 0) dX11_bestPlace_83 (by decide) ?_
  refine zn_istore F (i := 4) (lv' := [(4, .int 0), (3, .int (-1)), (2, .int (-1)), (1, .ref q0), (0, .ref ((zadM h0 l) (0, 0, 0)))]) dX11_bestPlace_84 (by decide) rfl ?_
  refine zn_pick [0, 1, 2, 3, 4] (lv' := [(4, .int 0), (3, .int (-1)), (2, .int (-1)), (1, .ref q0), (0, .ref h0)]) rfl ?_
  exact zrM_bp h0 l q0 F T 400 0 (-1) (-1) _ rfl (by decide) (Or.inl ⟨rfl, rfl, rfl⟩)
