/-! wear while it is made -/
def s_We (d : Nat) (s : zM) (i : Nat) : Prop := (0 ≤ (s 8 i 0).toInt ∧ (s 8 i 0).toInt ≤ 2 * d) ∧ (0 ≤ (s 8 i 1).toInt ∧ (s 8 i 1).toInt ≤ 3 * d) ∧ (∃ c : Nat, c ≤ 30 ∧ s 10 i 1 = Int32.ofNat c ∧ 0 ≤ (s 8 i 2).toInt ∧ (s 8 i 2).toInt + 10 * c ≤ 10 * d) ∧ ∀ o, o < 30 → 0 ≤ (s 11 i o).toInt ∧ (s 11 i o).toInt ≤ 10
theorem s_We.k {d i : Nat} {s s' : zM} {P : zP} (h : s_We d s i) (hk : zK P s s') (h8 : ∀ o, o < 3 → ¬ P 8 i o) (h10 : ¬ P 10 i 1) (h11 : ∀ o, o < 30 → ¬ P 11 i o) : s_We d s' i := by
  obtain ⟨a, b, ⟨c, c1, c2, c3⟩, e⟩ := h
  refine ⟨?_, ?_, ⟨c, c1, ?_, ?_⟩, fun o ho => ?_⟩
  · rw [hk 8 i 0 (h8 0 (by decide))]; exact a
  · rw [hk 8 i 1 (h8 1 (by decide))]; exact b
  · rw [hk 10 i 1 h10]; exact c2
  · rw [hk 8 i 2 (h8 2 (by decide))]; exact c3
  · rw [hk 11 i o (h11 o ho)]; exact e o ho
theorem s_We.lim {d i : Nat} {s : zM} (h : s_We d s i) (hd : d ≤ 8) : ∀ k, k < 3 → (s 8 i k).toInt < (zk2.getD k 0).toInt := by
  obtain ⟨a, b, ⟨c, c1, c2, c3, c4⟩, e⟩ := h
  intro k hk
  rcases (show k = 0 ∨ k = 1 ∨ k = 2 by omega) with rfl | rfl | rfl
  · rw [show (zk2.getD 0 0).toInt = 150 from by decide]; omega
  · rw [show (zk2.getD 1 0).toInt = 120 from by decide]; omega
  · rw [show (zk2.getD 2 0).toInt = 200 from by decide]; omega
theorem zmin_c (a b : Int32) : (a.toInt ≤ b.toInt ∧ zmin a b = a) ∨ (b.toInt ≤ a.toInt ∧ zmin a b = b) := by
  unfold zmin
  split
  · rename_i h
    rw [zlt] at h
    first
      | exact Or.inl ⟨by omega, rfl⟩
      | exact Or.inr ⟨by omega, rfl⟩
  · rename_i h
    rw [zlt] at h
    first
      | exact Or.inl ⟨by omega, rfl⟩
      | exact Or.inr ⟨by omega, rfl⟩
def s_P1 (j a : Nat) : zP := fun k i o => k = 8 ∧ i = j ∧ o = a
theorem s_wearP {j a : Nat} {b : Int32} {s : zM} (ha : a < 3) (h0 : 0 ≤ (s 8 j a).toInt) (h1 : (s 8 j a).toInt ≤ 1000) (b0 : 0 ≤ b.toInt) (b1 : b.toInt ≤ 1000) : zT (fTu_wearPart j (Int32.ofNat a) b s) fun s' => zK (s_P1 j a) s s' ∧ (s' 8 j a).toInt = (s 8 j a).toInt + b.toInt := by
  unfold fTu_wearPart
  refine zT_i (fun g => absurd g (fun z => by rw [zlt, zon (by omega), z0i] at z; omega)) fun _ => zT_i (fun g => absurd g (fun z => by rw [show (3 : Int32) = Int32.ofNat 3 from rfl, znle (by omega) (by omega)] at z; omega)) fun _ => zT_xn ha (by decide) (zT_xn ha (by decide) (zT_l (zT_s ⟨zK.rf.u ⟨rfl, rfl, rfl⟩, ?_⟩)))
  have e : (s 8 j a + b).toInt = (s 8 j a).toInt + b.toInt := zadd (by omega) (by omega)
  rw [zzs]
  rcases zmin_c 9999 (s 8 j a + b) with ⟨z, -⟩ | ⟨-, z⟩
  · rw [e, show (9999 : Int32).toInt = 9999 from rfl] at z
    omega
  · rw [z, e]
theorem s_sq {x y : Int32} (hx : 0 ≤ x.toInt ∧ x.toInt ≤ 10) (hy : 0 ≤ y.toInt ∧ y.toInt ≤ 10) : 0 ≤ (((x - y) * (x - y)) / 10).toInt ∧ (((x - y) * (x - y)) / 10).toInt ≤ 10 := by
  have e1 : (x - y).toInt = x.toInt - y.toInt := zsub32 (by omega) (by omega)
  have b : 0 ≤ (x.toInt - y.toInt) * (x.toInt - y.toInt) ∧ (x.toInt - y.toInt) * (x.toInt - y.toInt) ≤ 100 := by
    rcases (show x.toInt - y.toInt = -10 ∨ x.toInt - y.toInt = -9 ∨ x.toInt - y.toInt = -8 ∨ x.toInt - y.toInt = -7 ∨ x.toInt - y.toInt = -6 ∨ x.toInt - y.toInt = -5 ∨ x.toInt - y.toInt = -4 ∨ x.toInt - y.toInt = -3 ∨ x.toInt - y.toInt = -2 ∨ x.toInt - y.toInt = -1 ∨ x.toInt - y.toInt = 0 ∨ x.toInt - y.toInt = 1 ∨ x.toInt - y.toInt = 2 ∨ x.toInt - y.toInt = 3 ∨ x.toInt - y.toInt = 4 ∨ x.toInt - y.toInt = 5 ∨ x.toInt - y.toInt = 6 ∨ x.toInt - y.toInt = 7 ∨ x.toInt - y.toInt = 8 ∨ x.toInt - y.toInt = 9 ∨ x.toInt - y.toInt = 10 by omega) with z | z | z | z | z | z | z | z | z | z | z | z | z | z | z | z | z | z | z | z | z <;> rw [z] <;> decide
  have e2 : ((x - y) * (x - y)).toInt = (x.toInt - y.toInt) * (x.toInt - y.toInt) := by rw [zmul32 (by rw [e1]; omega) (by rw [e1]; omega), e1]
  rw [zdiv32 (by decide), e2, z10i, ztdiv b.1 (by decide)]
  omega
theorem s_wearM {j d : Nat} {s : zM} (hd : d < 8) (h2 : s 7 j 3 = 2) (ht : s 7 j 7 = 0) (hw : 0 ≤ (s 7 j 8).toInt ∧ (s 7 j 8).toInt ≤ 10) (h : s_We d s j) : zT (fTu_wearOut j s) fun s' => zK (s_Pw j) s s' ∧ s_We (d + 1) s' j := by
  obtain ⟨a, b, ⟨c, c1, c2, c3, c4⟩, e⟩ := h
  unfold fTu_wearOut
  refine zT_i (fun _ => ?_) fun g => absurd h2 g
  refine zT_c (R := fun v => 0 ≤ v.toInt ∧ v.toInt ≤ 2) (zT_i (fun _ => zT_s (by decide)) fun _ => zT_s (by decide)) fun v1 _ hv1 => zT_c (s_wearP (a := 0) (by decide) a.1 (by omega) hv1.1 (by omega)) fun u _ hu => ?_
  refine zT_c (R := fun v => 0 ≤ v.toInt ∧ v.toInt ≤ 3) (zT_i (fun _ => zT_s (by decide)) fun _ => zT_s (by decide)) fun v2 _ hv2 => ?_
  have ub : u 8 j 1 = s 8 j 1 := hu.1 8 j 1 (by unfold s_P1; omega)
  refine zT_c (s_wearP (a := 1) (s := u) (by decide) (by rw [ub]; exact b.1) (by rw [ub]; omega) hv2.1 (by omega)) fun v _ hv => ?_
  have kv : zK (s_Pp j) s v := (hu.1.mono fun k i o z => ⟨z.1, z.2.1, by have := z.2.2; omega⟩).tr (hv.1.mono fun k i o z => ⟨z.1, z.2.1, by have := z.2.2; omega⟩)
  have vc : v 10 j 1 = Int32.ofNat c := (kv 10 j 1 (by unfold s_Pp; omega)).trans c2
  have v8 : v 7 j 8 = s 7 j 8 := kv 7 j 8 (by unfold s_Pp; omega)
  have v0 : (v 8 j 0).toInt = (s 8 j 0).toInt + v1.toInt := by rw [hv.1 8 j 0 (by unfold s_P1; omega)]; exact hu.2
  have w1 : (v 8 j 1).toInt = (s 8 j 1).toInt + v2.toInt := by rw [hv.2, ub]
  have w2 : v 8 j 2 = s 8 j 2 := by rw [hv.1 8 j 2 (by unfold s_P1; omega), hu.1 8 j 2 (by unfold s_P1; omega)]
  refine zT_c (s_put (fun x => 0 ≤ x.toInt ∧ x.toInt ≤ 10) (fun n m => 0 ≤ m.toInt ∧ m.toInt + 10 * n ≤ 10 * (c + 1)) (fun n n' m x y hx hy hn hm => by
    have q := s_sq hx hy
    rw [zadd (by omega) (by omega)]
    omega) j (v 7 j 8) vc c1 (fun o ho => by rw [kv 11 j o (by unfold s_Pp; omega)]; exact e o ho) (by rw [v8]; exact hw) (fun n hn => by rw [z0i]; omega)) fun r _ hr => ?_
  obtain ⟨kr, ⟨c', h30, rc, m0, m1⟩, hP⟩ := hr
  have r8 : ∀ o, r.2 8 j o = v 8 j o := fun o => kr 8 j o (by unfold s_Px; omega)
  have r7 : r.2 7 j 7 = 0 := by rw [kr 7 j 7 (by unfold s_Px; omega), kv 7 j 7 (by unfold s_Pp; omega)]; exact ht
  have ez : r.1 + zabs (r.2 7 j 7) = r.1 := by rw [r7, show zabs (0 : Int32) = 0 from by decide, Int32.add_zero]
  rw [ez]
  refine zT_c (s_wearP (a := 2) (s := r.2) (by decide) (by rw [r8, w2]; exact c3) (by rw [r8, w2]; omega) m0 (by omega)) fun x _ hx => zT_s ⟨((kv.mono (s_Ppw j)).tr (kr.mono (s_Pxw j))).tr (hx.1.mono fun k i o z => Or.inl ⟨z.1, z.2.1, by have := z.2.2; omega⟩), ?_, ?_, ⟨c', h30, ?_, ?_, ?_⟩, fun o ho => ?_⟩
  · rw [hx.1 8 j 0 (by unfold s_P1; omega), r8, v0]; omega
  · rw [hx.1 8 j 1 (by unfold s_P1; omega), r8, w1]; omega
  · rw [hx.1 10 j 1 (by unfold s_P1; omega)]; exact rc
  · rw [hx.2, r8, w2]; omega
  · rw [hx.2, r8, w2]; omega
  · rw [hx.1 11 j o (by unfold s_P1; omega)]; exact hP o ho
