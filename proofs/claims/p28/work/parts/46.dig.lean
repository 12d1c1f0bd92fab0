/-! ===== what is shown, and the digest ===== -/
def z_v (x : Option (Int32 ⊕ String)) : Int32 := match x with
  | some (.inl v) => v
  | _ => 0
def z_in (r : Int32 ⊕ String) : Prop := ∃ v, r = .inl v
theorem z_vE {x : Option (Int32 ⊕ String)} (h : zT x z_in) : x = some (.inl (z_v x)) := by
  obtain ⟨a, rfl, v, rfl⟩ := h
  rfl
theorem s_countOf {n : Nat} {s : zM} (a : Int32) (h8 : n ≤ 8) (h5 : s 0 0 5 = Int32.ofNat n) : zT (fSe_countOf a s) fun _ => True := by
  unfold fSe_countOf
  refine zT_c (R := fun _ => True) (zT_it (fun d q => ∃ k : Nat, q.2 = Int32.ofNat k ∧ k + d = n) ?_ n 1000 _ (by omega) ⟨0, rfl, by omega⟩) fun q _ _ => zT_s trivial
  rintro d ⟨b, q⟩ ⟨k, hq, hk⟩
  dsimp only at hq
  subst hq
  unfold fSe_countOf_l4
  dsimp only
  rw [h5]
  refine zT_i (fun _ => zT_s trivial) fun h => ?_
  have hkn : k < n := by
    rw [znle (by omega) (by omega)] at h
    omega
  refine zT_xn (by omega) (by decide) (zT_c (R := fun _ => True) (zT_i (fun _ => zT_l (zT_s trivial)) fun _ => zT_s trivial) fun _ _ _ => zT_l (zT_s ?_))
  exact ⟨d - 1, by omega, k + 1, zn1 k, by omega⟩
theorem s_nomCount (s : zM) : zT (fLe_nominatedCount s) fun _ => True := by
  unfold fLe_nominatedCount
  refine zT_c (R := fun _ => True) (zT_it (fun d q => ∃ k : Nat, q.2 = Int32.ofNat k ∧ k + d = 24) ?_ 24 1000 _ (by omega) ⟨0, rfl, by omega⟩) fun q _ _ => zT_s trivial
  rintro d ⟨b, q⟩ ⟨k, hq, hk⟩
  dsimp only at hq
  subst hq
  unfold fLe_nominatedCount_l4
  dsimp only
  refine zT_i (fun _ => zT_s trivial) fun h => ?_
  have hkn : k < 24 := by
    rw [show (24 : Int32) = Int32.ofNat 24 from rfl, znle (by omega) (by omega)] at h
    omega
  refine zT_xn (by omega) (by decide) (zT_c (R := fun _ => True) (zT_i (fun _ => zT_s trivial) fun _ => zT_l (zT_s trivial)) fun _ _ _ => zT_l (zT_s ?_))
  exact ⟨d - 1, by omega, k + 1, zn1 k, by omega⟩
theorem s_cycles {n : Nat} {s : zM} (h8 : n ≤ 8) (h5 : s 0 0 5 = Int32.ofNat n) : zT (fSe_cycles s) fun _ => True := by
  unfold fSe_cycles
  refine zT_c (R := fun _ => True) (zT_it (fun d q => ∃ k : Nat, q.2 = Int32.ofNat k ∧ k + d = n) ?_ n 1000 _ (by omega) ⟨0, rfl, by omega⟩) fun q _ _ => zT_s trivial
  rintro d ⟨b, q⟩ ⟨k, hq, hk⟩
  dsimp only at hq
  subst hq
  unfold fSe_cycles_l4
  dsimp only
  rw [h5]
  refine zT_i (fun _ => zT_s trivial) fun h => ?_
  have hkn : k < n := by
    rw [znle (by omega) (by omega)] at h
    omega
  refine zT_xn (by omega) (by decide) (zT_l (zT_l (zT_s ?_)))
  exact ⟨d - 1, by omega, k + 1, zn1 k, by omega⟩
theorem s_many {n k : Nat} {s : zM} (h8 : n ≤ 8) (h5 : s 0 0 5 = Int32.ofNat n) (hk : k < 14) (s0 s2 s3 : zM) : zT (fWB_many (Int32.ofNat k) s0 s s2 s3) z_in := by
  unfold fWB_many
  rw [if_neg (fun z => by rw [zlt, zlt, zon (by omega), z0i, show (13 : Int32).toInt = 13 from rfl] at z; omega)]
  exact zT_i (fun _ => zT_s ⟨_, rfl⟩) fun _ => zT_i (fun _ => zT_s ⟨_, rfl⟩) fun _ => zT_i (fun _ => zT_s ⟨_, rfl⟩) fun _ => zT_i (fun _ => zT_s ⟨_, rfl⟩) fun _ => zT_i (fun _ => zT_c (s_countOf _ h8 h5) fun _ _ _ => zT_s ⟨_, rfl⟩) fun _ => zT_i (fun _ => zT_c (s_countOf _ h8 h5) fun _ _ _ => zT_s ⟨_, rfl⟩) fun _ => zT_i (fun _ => zT_c (s_countOf _ h8 h5) fun _ _ _ => zT_s ⟨_, rfl⟩) fun _ => zT_i (fun _ => zT_s ⟨_, rfl⟩) fun _ => zT_i (fun _ => zT_s ⟨_, rfl⟩) fun _ => zT_i (fun _ => zT_s ⟨_, rfl⟩) fun _ => zT_i (fun _ => zT_c (s_nomCount _) fun _ _ _ => zT_s ⟨_, rfl⟩) fun _ => zT_i (fun _ => zT_s ⟨_, rfl⟩) fun _ => zT_i (fun _ => zT_c (s_cycles h8 h5) fun _ _ _ => zT_s ⟨_, rfl⟩) fun _ => zT_s ⟨_, rfl⟩
theorem s_ofTurbine {n w k : Nat} {s : zM} (hS : s_St n s) (hw : w < n) (hk : k < 10) (s0 s2 s3 : zM) : zT (fWB_ofTurbine (Int32.ofNat w) (Int32.ofNat k) s0 s s2 s3) z_in := by
  have h8 := hS.1
  unfold fWB_ofTurbine
  rw [s_check h8 hS.2.1 hw, Option.bind_some, Sum.elim_inl]
  refine zT_xn (by omega) (by decide) ?_
  rw [if_neg (fun z => by rw [zlt, zlt, zon (by omega), z0i, show (9 : Int32).toInt = 9 from rfl] at z; omega)]
  exact zT_i (fun _ => zT_s ⟨_, rfl⟩) fun _ => zT_i (fun _ => zT_s ⟨_, rfl⟩) fun _ => zT_i (fun _ => zT_s ⟨_, rfl⟩) fun _ => zT_i (fun _ => zT_s ⟨_, rfl⟩) fun _ => zT_i (fun _ => zT_c (s_deficitOf hS (by omega)) fun _ _ _ => zT_s ⟨_, rfl⟩) fun _ => zT_i (fun _ => zT_s ⟨_, rfl⟩) fun _ => zT_i (fun _ => zT_s ⟨_, rfl⟩) fun _ => zT_i (fun _ => zT_s ⟨_, rfl⟩) fun _ => zT_i (fun _ => zT_s ⟨_, rfl⟩) fun _ => zT_s ⟨_, rfl⟩
theorem s_wear {n w k : Nat} {s : zM} (hS : s_St n s) (hw : w < n) (hk : k < 3) (s0 s2 s3 : zM) : zT (fWB_wear (Int32.ofNat w) (Int32.ofNat k) s0 s s2 s3) z_in := by
  have h8 := hS.1
  unfold fWB_wear fWB_checkPart
  rw [s_check h8 hS.2.1 hw, Option.bind_some, Sum.elim_inl, s_out (by rw [z0i, zon (by omega)]; omega) (by rw [zon (by omega), z2i]; omega), Option.bind_some, if_pos rfl, Option.bind_some, Sum.elim_inl]
  exact zT_xn (by omega) (by decide) (zT_xn hk (by decide) (zT_s ⟨_, rfl⟩))
theorem s_lost {n w k : Nat} {s : zM} (hS : s_St n s) (hw : w < n) (hk : k < 8) (s0 s2 s3 : zM) : zT (fWB_lost (Int32.ofNat w) (Int32.ofNat k) s0 s s2 s3) z_in := by
  have h8 := hS.1
  unfold fWB_lost
  rw [s_check h8 hS.2.1 hw, Option.bind_some, Sum.elim_inl, s_out (by rw [z0i, zon (by omega)]; omega) (by rw [zon (by omega), show (7 : Int32).toInt = 7 from rfl]; omega), Option.bind_some, if_pos rfl]
  exact zT_xn (by omega) (by decide) (zT_xn hk (by decide) (zT_s ⟨_, rfl⟩))
theorem s_extreme {n w k c : Nat} {s : zM} (hS : s_St n s) (hw : w < n) (hc : s 10 w 1 = Int32.ofNat c) (hc2 : c ≤ 30) (hk : k < c) (s0 s2 s3 : zM) : zT (fWB_extreme (Int32.ofNat w) (Int32.ofNat k) s0 s s2 s3) z_in := by
  have h8 := hS.1
  unfold fWB_extreme
  rw [s_check h8 hS.2.1 hw, Option.bind_some, Sum.elim_inl]
  refine zT_xn (by omega) (by decide) ?_
  rw [hc, s_out (by rw [z0i, zon (by omega)]; omega) (by rw [zsub32 (by rw [zon (by omega), z1i]; omega) (by rw [zon (by omega), z1i]; omega), zon (by omega), zon (by omega), z1i]; omega), Option.bind_some, if_pos rfl]
  exact zT_xn (by omega) (by decide) (zT_s ⟨_, rfl⟩)
theorem s_wake {n w k : Nat} {s : zM} (hS : s_St n s) (hw : w < n) (hk : k < n) (s0 s2 s3 : zM) : zT (fWB_wake (Int32.ofNat w) (Int32.ofNat k) s0 s s2 s3) z_in := by
  have h8 := hS.1
  unfold fWB_wake
  rw [s_check h8 hS.2.1 hw, Option.bind_some, Sum.elim_inl, s_check h8 hS.2.1 hk, Option.bind_some, Sum.elim_inl]
  exact zT_c (s_deficitBy (by omega) (by omega) s) fun _ _ _ => zT_s ⟨_, rfl⟩
theorem s_ofString {n w k : Nat} {s : zM} (hS : s_St n s) (hw : w < 2) (hk : k < 4) (s0 s2 s3 : zM) : zT (fWB_ofString (Int32.ofNat w) (Int32.ofNat k) s0 s s2 s3) z_in := by
  unfold fWB_ofString fWB_checkString
  rw [hS.2.2.1, if_neg (fun z => by rw [zlt, zon (by omega), z0i] at z; omega), if_pos (by rw [zlt, zon (by omega), z2i]; omega), Option.bind_some, Sum.elim_inl]
  refine zT_xn (by omega) (by decide) ?_
  rw [if_neg (fun z => by rw [zlt, zlt, zon (by omega), z0i, z3i] at z; omega)]
  unfold fCa_limit
  exact zT_i (fun _ => zT_s ⟨_, rfl⟩) fun _ => zT_i (fun _ => zT_s ⟨_, rfl⟩) fun _ => zT_i (fun _ => zT_b (zT_s (zT_s ⟨_, rfl⟩))) fun _ => zT_s ⟨_, rfl⟩
/-! a loop that folds answers into the digest -/
def z_fold (g : Nat → Int32) : Nat → Nat → Int64 → Int64
  | 0, _, acc => acc
  | d + 1, k, acc => z_fold g d (k + 1) (acc * 31 + (g k).toInt64)
theorem z_foldE {γ : Type} {b : Int64 × Int32 → Option ((Int64 × Int32) ⊕ (Int64 ⊕ γ))} {g : Nat → Int32} {N : Nat} (hs : ∀ acc k, k < N → b (acc, Int32.ofNat k) = some (.inl (acc * 31 + (g k).toInt64, Int32.ofNat (k + 1)))) (he : ∀ acc, b (acc, Int32.ofNat N) = some (.inr (.inl acc))) : ∀ d k acc fuel, k + d = N → d < fuel → ziter b fuel (acc, Int32.ofNat k) = some (.inl (z_fold g d k acc)) := by
  intro d
  induction d with
  | zero =>
    intro k acc fuel h hf
    obtain ⟨f, rfl⟩ : ∃ f, fuel = f + 1 := ⟨fuel - 1, by omega⟩
    obtain rfl : k = N := by omega
    exact zit_end f (he acc)
  | succ d ih =>
    intro k acc fuel h hf
    obtain ⟨f, rfl⟩ : ∃ f, fuel = f + 1 := ⟨fuel - 1, by omega⟩
    exact (zit_more f (hs acc k (by omega))).trans (ih (k + 1) _ f (by omega) (by omega))
theorem s_dgt {n w : Nat} {s : zM} (hI : s_Iv n s) (hw : w < n) : ∃ f : Int64 → Int64, ∀ acc s0 s2 s3, fWB_digestTurbine acc (Int32.ofNat w) s0 s s2 s3 = some (.inl (f acc)) := by
  obtain ⟨hS, hC, hH⟩ := hI
  have h8 := hS.1
  have h5 := hS.2.1
  obtain ⟨c, hc30, hc⟩ := hC w hw
  let g1 : Nat → Int32 := fun k => z_v (fWB_ofTurbine (Int32.ofNat w) (Int32.ofNat k) s s s s)
  let g2 : Nat → Int32 := fun k => z_v (fWB_wear (Int32.ofNat w) (Int32.ofNat k) s s s s)
  let g3 : Nat → Int32 := fun k => z_v (fWB_lost (Int32.ofNat w) (Int32.ofNat k) s s s s)
  let g4 : Nat → Int32 := fun k => z_v (fWB_extreme (Int32.ofNat w) (Int32.ofNat k) s s s s)
  let g5 : Nat → Int32 := fun k => z_v (fWB_wake (Int32.ofNat w) (Int32.ofNat k) s s s s)
  refine ⟨fun acc => z_fold g5 n 0 (z_fold g4 c 0 (z_fold g3 8 0 (z_fold g2 3 0 (z_fold g1 10 0 acc)))), fun acc s0 s2 s3 => ?_⟩
  have L1 : ∀ acc, ziter (fWB_digestTurbine_l6 (Int32.ofNat w) s0 s s2 s3) 1000 (acc, (0 : Int32)) = some (.inl (z_fold g1 10 0 acc)) := fun acc => z_foldE (N := 10) (fun acc k hk => by
    unfold fWB_digestTurbine_l6
    dsimp only [zlet]
    rw [if_neg (fun z => by rw [show (10 : Int32) = Int32.ofNat 10 from rfl, znle (by omega) (by omega)] at z; omega), show fWB_ofTurbine (Int32.ofNat w) (Int32.ofNat k) s0 s s2 s3 = some (.inl (g1 k)) from z_vE (s_ofTurbine hS hw hk s s s), ← zn1]
    rfl) (fun acc => by
    unfold fWB_digestTurbine_l6
    exact if_pos (show (10 : Int32) ≤ Int32.ofNat 10 by decide)) 10 0 acc 1000 rfl (by decide)
  have L2 : ∀ acc, ziter (fWB_digestTurbine_l39 (Int32.ofNat w) s0 s s2 s3) 1000 (acc, (0 : Int32)) = some (.inl (z_fold g2 3 0 acc)) := fun acc => z_foldE (N := 3) (fun acc k hk => by
    unfold fWB_digestTurbine_l39
    dsimp only [zlet]
    rw [if_neg (fun z => by rw [show (3 : Int32) = Int32.ofNat 3 from rfl, znle (by omega) (by omega)] at z; omega), show fWB_wear (Int32.ofNat w) (Int32.ofNat k) s0 s s2 s3 = some (.inl (g2 k)) from z_vE (s_wear hS hw hk s s s), ← zn1]
    rfl) (fun acc => by
    unfold fWB_digestTurbine_l39
    exact if_pos (show (3 : Int32) ≤ Int32.ofNat 3 by decide)) 3 0 acc 1000 rfl (by decide)
  have L3 : ∀ acc, ziter (fWB_digestTurbine_l71 (Int32.ofNat w) s0 s s2 s3) 1000 (acc, (0 : Int32)) = some (.inl (z_fold g3 8 0 acc)) := fun acc => z_foldE (N := 8) (fun acc k hk => by
    unfold fWB_digestTurbine_l71
    dsimp only [zlet]
    rw [if_neg (fun z => by rw [show (8 : Int32) = Int32.ofNat 8 from rfl, znle (by omega) (by omega)] at z; omega), show fWB_lost (Int32.ofNat w) (Int32.ofNat k) s0 s s2 s3 = some (.inl (g3 k)) from z_vE (s_lost hS hw hk s s s), ← zn1]
    rfl) (fun acc => by
    unfold fWB_digestTurbine_l71
    exact if_pos (show (8 : Int32) ≤ Int32.ofNat 8 by decide)) 8 0 acc 1000 rfl (by decide)
  have L4 : ∀ acc, ziter (fWB_digestTurbine_l104 (Int32.ofNat w) s0 s s2 s3) 1000 (acc, (0 : Int32)) = some (.inl (z_fold g4 c 0 acc)) := fun acc => z_foldE (N := c) (fun acc k hk => by
    unfold fWB_digestTurbine_l104
    dsimp only [zlet]
    rw [show ∀ f : Nat → Option ((Int64 × Int32) ⊕ (Int64 ⊕ (Int64 ⊕ String))), zix (Int32.ofNat w) 8 f = f (Int32.ofNat w).toNatClampNeg from fun f => if_neg (zvin (by omega) (by decide)), zclm w (by omega), hc, if_neg (fun z => by rw [znle (by omega) (by omega)] at z; omega), show fWB_extreme (Int32.ofNat w) (Int32.ofNat k) s0 s s2 s3 = some (.inl (g4 k)) from z_vE (s_extreme hS hw hc hc30 hk s s s), ← zn1]
    rfl) (fun acc => by
    unfold fWB_digestTurbine_l104
    dsimp only
    rw [show ∀ f : Nat → Option ((Int64 × Int32) ⊕ (Int64 ⊕ (Int64 ⊕ String))), zix (Int32.ofNat w) 8 f = f (Int32.ofNat w).toNatClampNeg from fun f => if_neg (zvin (by omega) (by decide)), zclm w (by omega), hc, if_pos ((znle (by omega) (by omega)).mpr (Nat.le_refl c))]) c 0 acc 1000 (by omega) (by omega)
  have L5 : ∀ acc, ziter (fWB_digestTurbine_l150 (Int32.ofNat w) s0 s s2 s3) 1000 (acc, (0 : Int32)) = some (.inl (z_fold g5 n 0 acc)) := fun acc => z_foldE (N := n) (fun acc k hk => by
    unfold fWB_digestTurbine_l150
    dsimp only [zlet]
    rw [h5, if_neg (fun z => by rw [znle (by omega) (by omega)] at z; omega), show fWB_wake (Int32.ofNat w) (Int32.ofNat k) s0 s s2 s3 = some (.inl (g5 k)) from z_vE (s_wake hS hw hk s s s), ← zn1]
    rfl) (fun acc => by
    unfold fWB_digestTurbine_l150
    dsimp only
    rw [h5, if_pos ((znle (by omega) (by omega)).mpr (Nat.le_refl n))]) n 0 acc 1000 (by omega) (by omega)
  unfold fWB_digestTurbine
  simp only [L1, L2, L3, L4, L5, Option.bind_some, Sum.elim_inl]
theorem s_dgl {n : Nat} {s : zM} (hI : s_Iv n s) : ∀ d k fuel, k + d = n → d < fuel → ∃ f : Int64 → Int64, ∀ acc s0 t s3, zK (s_CP n) s t → ∃ t', zK (s_CP n) s t' ∧ ziter (fWB_digest_l33 s0 s s3) fuel (acc, Int32.ofNat k, t) = some (.inl (f acc, t')) := by
  have h8 := hI.1.1
  have h5 := hI.1.2.1
  intro d
  induction d with
  | zero =>
    intro k fuel h hf
    obtain ⟨f, rfl⟩ : ∃ f, fuel = f + 1 := ⟨fuel - 1, by omega⟩
    obtain rfl : k = n := by omega
    refine ⟨fun acc => acc, fun acc s0 t s3 ht => ⟨t, ht, zit_end f ?_⟩⟩
    unfold fWB_digest_l33
    dsimp only
    rw [h5, if_pos ((znle (by omega) (by omega)).mpr (Nat.le_refl k))]
  | succ d ih =>
    intro k fuel h hf
    obtain ⟨fu, rfl⟩ : ∃ f, fuel = f + 1 := ⟨fuel - 1, by omega⟩
    obtain ⟨f, hfi⟩ := ih (k + 1) fu (by omega) (by omega)
    obtain ⟨g, hg⟩ := s_dgt hI (w := k) (by omega)
    obtain ⟨t1, k1, hb, -⟩ := s_bestTurn hI (w := k) (by omega)
    refine ⟨fun acc => f (g acc * 31 + (s_best s k).toInt64), fun acc s0 t s3 ht => ?_⟩
    obtain ⟨t', kt, e⟩ := hfi (g acc * 31 + (s_best s k).toInt64) s0 t1 s3 k1
    refine ⟨t', kt, (zit_more fu ?_).trans e⟩
    unfold fWB_digest_l33
    dsimp only [zlet]
    rw [h5, if_neg (fun z => by rw [znle (by omega) (by omega)] at z; omega), hg, ← zn1]
    simp only [Option.bind_some, Sum.elim_inl, hb s0 t s3 ht]
theorem s_dgs {n : Nat} {s : zM} (hI : s_Iv n s) : ∃ f : Int64 → Int64, ∀ acc s0 s3 q7, ziter (fWB_digest_l70 s0 s s3 q7) 1000 (acc, (0 : Int32)) = some (.inl (f acc)) := by
  have hS := hI.1
  let g : Nat → Nat → Int32 := fun o k => z_v (fWB_ofString (Int32.ofNat o) (Int32.ofNat k) s s s s)
  have L : ∀ o, o < 2 → ∀ acc s0 s3 q7 a0, ziter (fWB_digest_l84 s0 s s3 q7 (a0, Int32.ofNat o)) 1000 (acc, (0 : Int32)) = some (.inl (z_fold (g o) 4 0 acc)) := fun o ho acc s0 s3 q7 a0 => z_foldE (N := 4) (fun acc k hk => by
    unfold fWB_digest_l84
    dsimp only [zlet]
    rw [if_neg (fun z => by rw [show (4 : Int32) = Int32.ofNat 4 from rfl, znle (by omega) (by omega)] at z; omega), show fWB_ofString (Int32.ofNat o) (Int32.ofNat k) s0 s q7.2 s3 = some (.inl (g o k)) from z_vE (s_ofString hS ho hk s s s), ← zn1]
    rfl) (fun acc => by
    unfold fWB_digest_l84
    exact if_pos (show (4 : Int32) ≤ Int32.ofNat 4 by decide)) 4 0 acc 1000 rfl (by decide)
  refine ⟨fun acc => z_fold (g 1) 4 0 (z_fold (g 0) 4 0 acc), fun acc s0 s3 q7 => ?_⟩
  have st : ∀ o, o < 2 → ∀ acc, fWB_digest_l70 s0 s s3 q7 (acc, Int32.ofNat o) = some (.inl (z_fold (g o) 4 0 acc, Int32.ofNat (o + 1))) := fun o ho acc => by
    unfold fWB_digest_l70
    dsimp only [zlet]
    rw [hS.2.2.1, if_neg (fun z => by rw [show (2 : Int32) = Int32.ofNat 2 from rfl, znle (by omega) (by omega)] at z; omega), L o ho, ← zn1]
    rfl
  refine (zit_more 999 (st 0 (by decide) acc)).trans ((zit_more 998 (st 1 (by decide) _)).trans (zit_end 997 ?_))
  unfold fWB_digest_l70
  dsimp only
  rw [hS.2.2.1]
  exact if_pos (show (2 : Int32) ≤ Int32.ofNat 2 by decide)
/-- the digest is the sea's alone, and only the copy is written -/
theorem s_digest {n : Nat} {s : zM} (hI : s_Iv n s) : ∃ x : Int64, ∀ s0 t s3, zK (s_CP n) s t → ∃ t', zK (s_CP n) s t' ∧ fWB_digest s0 s t s3 = some (.inl (x, t')) := by
  have h8 := hI.1.1
  have h5 := hI.1.2.1
  let g : Nat → Int32 := fun k => z_v (fWB_many (Int32.ofNat k) s s s s)
  have L : ∀ acc s0 t s3, ziter (fWB_digest_l6 s0 s t s3) 1000 (acc, (0 : Int32)) = some (.inl (z_fold g 14 0 acc)) := fun acc s0 t s3 => z_foldE (N := 14) (fun acc k hk => by
    unfold fWB_digest_l6
    dsimp only [zlet]
    rw [if_neg (fun z => by rw [show (14 : Int32) = Int32.ofNat 14 from rfl, znle (by omega) (by omega)] at z; omega), show fWB_many (Int32.ofNat k) s0 s t s3 = some (.inl (g k)) from z_vE (s_many h8 h5 hk s s s), ← zn1]
    rfl) (fun acc => by
    unfold fWB_digest_l6
    exact if_pos (show (14 : Int32) ≤ Int32.ofNat 14 by decide)) 14 0 acc 1000 rfl (by decide)
  obtain ⟨f, hf⟩ := s_dgl hI n 0 1000 (by omega) (by omega)
  obtain ⟨f2, hf2⟩ := s_dgs hI
  obtain ⟨r, er, kr, -⟩ := s_FT 3 0 s hI
  refine ⟨f2 (f (z_fold g 14 0 58176)) * 31 + r.1.toInt64, fun s0 t s3 ht => ?_⟩
  obtain ⟨t1, k1, e1⟩ := hf (z_fold g 14 0 58176) s0 t s3 ht
  refine ⟨r.2, kr.mono (s_PHC n), ?_⟩
  have e2 : ∀ acc q7, ziter (fWB_digest_l119 s0 s s3 q7) 1000 (acc, (0 : Int32)) = some (.inl acc) := fun acc q7 => zit_end 999 (by
    unfold fWB_digest_l119
    dsimp only
    rw [hI.1.2.2.2.1]
    exact if_pos (show (0 : Int32) ≤ 0 by decide))
  have e3 := s_would (h := 3) (s0 := s0) (s3 := s3) hI.1 k1 (by decide) (by decide)
  rw [er] at e3
  have e4 : fWB_wouldDeliver (3 : Int32) s0 s t1 s3 = some (.inl (r.1, r.2)) := e3
  have e5 : ziter (fWB_digest_l33 s0 s s3) 1000 (z_fold g 14 0 58176, (0 : Int32), t) = some (.inl (f (z_fold g 14 0 58176), t1)) := e1
  unfold fWB_digest
  simp only [L, e5, hf2, e2, e4, Option.bind_some, Sum.elim_inl]
