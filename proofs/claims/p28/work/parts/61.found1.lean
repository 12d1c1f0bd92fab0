/-! ===== Told.turbine as a whole, Told.found ===== -/
set_option maxHeartbeats 4000000 in
set_option maxRecDepth 20000 in
theorem zt_turbine {ad : zR → Nat} {a : Nat → Nat} {x : Nat → Int32} {r : Nat → Nat} {g : Nat → Nat → Int32} {u : Nat → Nat} {v : Nat → Nat → Int32} {n : Nat} {px py sg : Int32} {s t p : zM} (hn : n < 4) (h0 : a 1 = ad (0, 0, 0)) (h1 : x 1 = Int32.ofNat n) (hg : ∀ i, i < n → g i 0 = s 7 i 0 ∧ g i 1 = s 7 i 1) (hs : s_free n s px py → fWB_turbine px py sg zm0 s t p = some (.inl (Int32.ofNat n, s_tur px py sg n s))) : zAl yX10_turbine cX10_turbine 5 (some .boolean) 8 134 1 15 [.ref (a 0), .int px, .int py, .int sg] (fun cA => zto cA a x r g u v ++ zww cA ad s t p) (fun cA w ws => w = some (.int 1) ∧ ((¬ s_free n s px py ∧ ws = zto cA a x r g u v ++ zww cA ad s t p) ∨ (s_free n s px py ∧ ∃ r' g', (∀ i, i < n → g' i = g i) ∧ g' n 0 = px ∧ g' n 1 = py ∧ ws = zto cA a (upd x 1 (Int32.ofNat n + 1)) r' g' u v ++ zww cA ad (s_tur px py sg n s) t p))) := by
  refine zAl_of (by decide) (Nat.le_of_ble_eq_true rfl) fun X F hr hex => ?_
  show zN X _ _ _ _ _ 5 0 [(0, .ref (a 0)), (1, .int px), (2, .int py), (3, .int sg)] [] (zto (zcA X) a x r g u v ++ zww (zcA X) ad s t p) 0 0
  refine zn_iconst F (v := 0) dX10_turbine_0 (by decide) ?_
  refine zn_istore F (i := 4) (lv' := (4, .int 0) :: [(0, .ref (a 0)), (1, .int px), (2, .int py), (3, .int sg)]) dX10_turbine_1 (by decide) rfl ?_
  refine zt_tloop F (n := n) (by omega) h1 (fun ht => ?_) (fun hf => ?_) n 0 (by omega) (fun i hi => absurd hi (Nat.not_lt_zero i))
  · refine zn_iconst F (v := 1) dX10_turbine_38 (by decide) ?_
    refine zn_zreturn F hr dX10_turbine_39 rfl ⟨rfl, Or.inl ⟨fun hz => ?_, rfl⟩⟩ (Nat.zero_le _) (Nat.zero_le _)
    obtain ⟨i, hi, e0, e1⟩ := ht
    exact hz i hi ⟨(hg i hi).1.symm.trans e0, (hg i hi).2.symm.trans e1⟩
  · have hfree : s_free n s px py := fun i hi z => hf i hi ⟨(hg i hi).1.trans z.1, (hg i hi).2.trans z.2⟩
    have hs2 := hs hfree
    rcases (show n = 0 ∨ n = 1 ∨ n = 2 ∨ n = 3 by omega) with rfl | rfl | rfl | rfl
    · refine zt_tnew0 F hr ⟨by omega, by omega, by omega, by omega⟩ h0 h1 hs2 fun w ws hw => ?_
      obtain ⟨e, r', g', p1, p2, p3, p4⟩ := hw
      exact ⟨e, Or.inr ⟨hfree, r', g', p1, p2, p3, p4⟩⟩
    · refine zt_tnew1 F hr ⟨by omega, by omega, by omega, by omega⟩ h0 h1 hs2 fun w ws hw => ?_
      obtain ⟨e, r', g', p1, p2, p3, p4⟩ := hw
      exact ⟨e, Or.inr ⟨hfree, r', g', p1, p2, p3, p4⟩⟩
    · refine zt_tnew2 F hr ⟨by omega, by omega, by omega, by omega⟩ h0 h1 hs2 fun w ws hw => ?_
      obtain ⟨e, r', g', p1, p2, p3, p4⟩ := hw
      exact ⟨e, Or.inr ⟨hfree, r', g', p1, p2, p3, p4⟩⟩
    · refine zt_tnew3 F hr ⟨by omega, by omega, by omega, by omega⟩ h0 h1 hs2 fun w ws hw => ?_
      obtain ⟨e, r', g', p1, p2, p3, p4⟩ := hw
      exact ⟨e, Or.inr ⟨hfree, r', g', p1, p2, p3, p4⟩⟩
/-- draws that are counted -/
theorem z_mod24 : ∀ e : Fin 200, 0 ≤ (Int32.ofNat e % 24).toInt := by decide +kernel
theorem zt_drawN {b L : Nat} {xs : Nat → Int32} (hL : L < 2147483648) {a : Nat → Nat} {x : Nat → Int32} {r : Nat → Nat} {g : Nat → Nat → Int32} {u : Nat → Nat} {v : Nat → Nat → Int32} {e : Nat} (he : e < 200) (hb : a 2 = b) (hx : x 0 = Int32.ofNat e) {n : Int32} (hn : ¬ n = 0) : zAs b L xs yX10_draw cX10_draw 3 (some .int) 1 21 0 0 [.ref (a 0), .int n] (fun cA => zto cA a x r g u v) (fun cA r1 ws => r1 = some (.int (z_dv xs L (Int32.ofNat e) n)) ∧ ws = zto cA a (upd x 0 (Int32.ofNat (e + 1))) r g u v) := by
  have h := zt_draw (b := b) (L := L) (xs := xs) hL (a := a) (x := x) (r := r) (g := g) (u := u) (v := v) hb (n := n) hn (by rw [hx]; exact z_mod24 ⟨e, he⟩)
  rw [hx, zn1] at h
  exact h
/-- what is found: how many turbines, and the sea -/
def z_fs (xs : Nat → Int32) (L e : Nat) (q : Nat × zM) : Nat × zM := if fSe_isTaken (z_dv xs L (Int32.ofNat e) 9) (z_dv xs L (Int32.ofNat (e + 1)) 9) q.2 = some 0 then (q.1 + 1, s_tur (z_dv xs L (Int32.ofNat e) 9) (z_dv xs L (Int32.ofNat (e + 1)) 9) (z_dv xs L (Int32.ofNat (e + 2)) 2) q.1 q.2) else q
def z_f0 (xs : Nat → Int32) (L e : Nat) : zM := s_str (500 + z_dv xs L (Int32.ofNat (e + 1)) 6000) 1 (s_str (500 + z_dv xs L (Int32.ofNat e) 6000) 0 zfr0)
/-- after so many turbines -/
def z_fi (xs : Nat → Int32) (L e : Nat) : Nat → Nat × zM
  | 0 => (0, z_f0 xs L e)
  | j + 1 => z_fs xs L (e + 2 + 3 * j) (z_fi xs L e j)
theorem z_dvb (xs : Nat → Int32) (L : Nat) (d : Int32) {n : Int32} (hn : 0 < n.toInt) : 0 ≤ (z_dv xs L d n).toInt ∧ (z_dv xs L d n).toInt < n.toInt := z_below hn
theorem z_rate (xs : Nat → Int32) (L : Nat) (d : Int32) : 100 ≤ ((500 : Int32) + z_dv xs L d 6000).toInt ∧ ((500 : Int32) + z_dv xs L d 6000).toInt ≤ 9999 := by
  have h := z_dvb xs L d (n := 6000) (by decide)
  rw [show (6000 : Int32).toInt = 6000 from by decide] at h
  rw [zadd (by rw [show (500 : Int32).toInt = 500 from by decide]; omega) (by rw [show (500 : Int32).toInt = 500 from by decide]; omega), show (500 : Int32).toInt = 500 from by decide]
  omega
theorem s_T_tur {n : Nat} {s : zM} {x y : Int32} (g : Int32) (h : s_T n s) (hf : s_free n s x y) (hx : 0 ≤ x.toInt ∧ x.toInt ≤ 8) (hy : 0 ≤ y.toInt ∧ y.toInt ≤ 8) : s_T (n + 1) (s_tur x y g n s) := by
  obtain ⟨hB, hp, hD⟩ := h
  refine ⟨s_B_tur hB x y g, fun i hi => ?_, fun i j hij hj => ?_⟩
  · by_cases e : i = n
    · subst e
      rw [s_tur70, s_tur71]
      exact ⟨hx, hy⟩
    · rw [s_B_tur7 _ _ _ e, s_B_tur7 _ _ _ e]
      exact hp i (by omega)
  · by_cases e : j = n
    · subst e
      rw [s_tur70, s_tur71, s_B_tur7 _ _ _ (by omega), s_B_tur7 _ _ _ (by omega)]
      exact hf i hij
    · rw [s_B_tur7 _ _ _ e, s_B_tur7 _ _ _ e, s_B_tur7 _ _ _ (by omega), s_B_tur7 _ _ _ (by omega)]
      exact hD i j hij (by omega)
theorem z_fi_T (xs : Nat → Int32) (L e : Nat) : ∀ j, j ≤ 4 → s_T (z_fi xs L e j).1 (z_fi xs L e j).2 ∧ (z_fi xs L e j).1 ≤ j ∧ (1 ≤ j → 1 ≤ (z_fi xs L e j).1)
  | 0, _ => ⟨⟨s_B_0 (z_rate xs L _) (z_rate xs L _), fun i hi => absurd hi (Nat.not_lt_zero i), fun i j _ hj => absurd hj (Nat.not_lt_zero j)⟩, Nat.le_refl 0, fun h => absurd h (by decide)⟩
  | j + 1, hj => by
    obtain ⟨hT, hle, h1⟩ := z_fi_T xs L e j (by omega)
    have h9 : ∀ d, 0 ≤ (z_dv xs L d 9).toInt ∧ (z_dv xs L d 9).toInt ≤ 8 := fun d => by
      have h := z_dvb xs L d (n := 9) (by decide)
      rw [show (9 : Int32).toInt = 9 from by decide] at h
      omega
    show s_T (z_fs xs L (e + 2 + 3 * j) (z_fi xs L e j)).1 (z_fs xs L (e + 2 + 3 * j) (z_fi xs L e j)).2 ∧ (z_fs xs L (e + 2 + 3 * j) (z_fi xs L e j)).1 ≤ j + 1 ∧ (1 ≤ j + 1 → 1 ≤ (z_fs xs L (e + 2 + 3 * j) (z_fi xs L e j)).1)
    unfold z_fs
    by_cases c : fSe_isTaken (z_dv xs L (Int32.ofNat (e + 2 + 3 * j)) 9) (z_dv xs L (Int32.ofNat (e + 2 + 3 * j + 1)) 9) (z_fi xs L e j).2 = some 0
    · rw [if_pos c]
      exact ⟨s_T_tur _ hT (s_taken_free (by omega) hT.1.2.1 c) (h9 _) (h9 _), by show (z_fi xs L e j).1 + 1 ≤ j + 1; omega, fun _ => by show 1 ≤ (z_fi xs L e j).1 + 1; omega⟩
    · rw [if_neg c]
      refine ⟨hT, by omega, fun _ => ?_⟩
      rcases Nat.eq_zero_or_pos (z_fi xs L e j).1 with h0 | h0
      · refine absurd (s_taken0 (n := 0) (by omega) ?_ fun i hi => absurd hi (Nat.not_lt_zero i)) c
        rw [hT.1.2.1, h0]
      · exact h0
