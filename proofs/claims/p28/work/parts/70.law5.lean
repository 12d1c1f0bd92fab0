/-! the best place in the law -/
theorem ycRL_42 : Cond.methodLink RL 42 yL_isBest ∈ zTg ∧ Cond.static yL_isBest ∈ zTg ∧ Cond.initialized yL_isBest.cls ∈ zTg ∧ Cond.code yL_isBest cL_isBest 5 (some .boolean) ∈ zTg := ⟨zm_f 836 (by decide +kernel) rfl, zm_f 837 (by decide +kernel) rfl, zm_f 19 (by decide +kernel) rfl, zm_f 838 (by decide +kernel) rfl⟩
theorem yyyL_isBest : yL_isBest.cls ≠ "java/lang/invoke/MethodHandle" ∧ yL_isBest.cls ≠ "java/lang/invoke/VarHandle" ∧ (parseMethodDescriptor yL_isBest.desc).map (fun d => d.parameters.length) = some 1 := by decide +kernel
theorem zpAB {A C B D : va_W} : (A ++ (C ++ (B ++ D))).Perm ((A ++ B) ++ (C ++ D)) := by
  have h1 : (C ++ (B ++ D)).Perm (B ++ (C ++ D)) := zpB (A := C) (C := []) (B := B) (D := D)
  have h2 := List.Perm.append_left A h1
  rw [← List.append_assoc A B] at h2
  exact h2
set_option maxHeartbeats 4000000 in
set_option maxRecDepth 20000 in
theorem zl_161 {X : zX} (F : zLr X cL_law 19 RL) {b L : Nat} {xs : Nat → Int32} (hX : zScr X b L xs) (hL : L < 2147483648) {ad ad' : zR → Nat} {a a' : Nat → Nat} {x x' : Nat → Int32} {r r' : Nat → Nat} {g g' : Nat → Nat → Int32} {u u' : Nat → Nat} {v v' : Nat → Nat → Int32} {e n : Nat} {w sc sp ho wo bt tm kn : Int32} {s t t' p p' : zM} {mc ms fr lo ck sk : Nat} {B : State → Prop} (hroom : ck + 220 ≤ mc ∧ sk + 2498 ≤ ms ∧ 12 ≤ fr ∧ 300 ≤ lo) (hab : a 2 = b) (h0 : a 1 = ad (0, 0, 0)) (hx : x 0 = Int32.ofNat e) (he : e < 200) (hn : n < 8) (h1 : x 1 = Int32.ofNat n) (h00 : kn = 0 → s_T n s ∧ ∀ i, i < n → g i 0 = s 7 i 0 ∧ g i 1 = s 7 i 1)
    (kk : ∀ (x2 : Nat → Int32) (e2 : Nat) (p2 : zM), x2 0 = Int32.ofNat e2 → e2 ≤ e + 1 → x2 1 = x 1 → x2 3 = x 3 → x2 4 = x 4 → zN X mc ms fr lo B 19 175 [(0, .ref b), (1, .int tm), (2, .ref (a 0)), (3, .ref (a' 0)), (4, .ref (ad (0, 0, 0))), (5, .int kn), (6, .int w), (7, .int sc), (8, .int sp), (9, .int ho), (12, .int wo), (13, .int bt)] [] (zto (zcA X) a x2 r g u v ++ (zto (zcA X) a' x' r' g' u' v' ++ (zww (zcA X) ad s t p2 ++ zww (zcA X) ad' s t' p'))) (ck + 220) (sk + 2498)) : zN X mc ms fr lo B 19 161 [(0, .ref b), (1, .int tm), (2, .ref (a 0)), (3, .ref (a' 0)), (4, .ref (ad (0, 0, 0))), (5, .int kn), (6, .int w), (7, .int sc), (8, .int sp), (9, .int ho), (12, .int wo), (13, .int bt)] [] (zto (zcA X) a x r g u v ++ (zto (zcA X) a' x' r' g' u' v' ++ (zww (zcA X) ad s t p ++ zww (zcA X) ad' s t' p'))) ck sk := by
  refine zn_iload F (i := 5) (k := 5) dL_law_161 rfl ?_
  refine zn_if_ne F (tgt := 175) dL_law_163 (by decide) (fun h161 => ?_) (fun h161 => ?_)
  · exact zn_wid (by omega) (by omega) (kk x e p hx (by omega) rfl rfl rfl)
  · refine zn_aload_n F (i := 2) (k := 2) dL_law_166 rfl rfl ?_
    refine zn_perm zpAB ?_
    refine zn_callSs F (as := [.ref (a 0)]) (st := []) hX (zt_isBest (ad := ad) (a := a) (x := x) (r := r) (g := g) (u := u) (v := v) (s := s) (t := t) (p := p) hL he hab h0 hx hn h1 (h00 h161).1 (h00 h161).2) dL_law_167 ycRL_42 yyyL_isBest rfl (wsB := zto (zcA X) a' x' r' g' u' v' ++ zww (zcA X) ad' s t' p') rfl rfl (Nat.le_of_ble_eq_true rfl) (by omega) (by omega) (by omega) (by omega) fun w1 w2 hB => ?_
    obtain ⟨rfl, p2, rfl⟩ := hB
    refine zn_perm zpAB.symm ?_
    refine zn_if_ne F (tgt := 175) dL_law_170 (by decide) (fun _ => ?_) (fun z => absurd z (by decide))
    exact kk ((upd x 0 (Int32.ofNat (e + 1)))) (e + 1) p2 rfl (Nat.le_refl _) rfl rfl rfl
