/-! ===== rows of the heap ===== -/
/-- the field that entry idx of the class own names: slot o of the class of number ci -/
def zFl (own : String) (idx ci o : Nat) : Prop := ∃ q : vw_C, zcl[ci]? = some q ∧ o < q.2.2 ∧ Cond.fieldLink own idx (q.2.1 o).1 (q.2.1 o).2.1 (q.2.1 o).2.2.1 ∈ zTg
def zFw (own : String) (idx ci o : Nat) (ty : FieldType) : Prop := ∃ q : vw_C, zcl[ci]? = some q ∧ o < q.2.2 ∧ Cond.fieldLink own idx (q.2.1 o).1 (q.2.1 o).2.1 (q.2.1 o).2.2.1 ∈ zTg ∧ (q.2.1 o).2.2.2 = false ∧ parseFieldDescriptor (q.2.1 o).2.2.1 = some ty
/-- of every class: its layout's words, its fields' types and names -/
def zCl (ci : Nat) : Prop := ∀ q : vw_C, zcl[ci]? = some q → (∀ w ∈ u_ws q.1 q.2.1 q.2.2, w ∈ zTg) ∧ (∃ ty0 : Nat → FieldType, ∀ k, k < q.2.2 → parseFieldDescriptor (q.2.1 k).2.2.1 = some (ty0 k)) ∧ ∀ a, a < q.2.2 → ∀ b, b < q.2.2 → a ≠ b → (q.2.1 a).2.1 ≠ (q.2.1 b).2.1
theorem zm_f {w : Cond} (i : Nat) (h : lw_tbl[i]? = some w) (hg : goodWord w = true) : w ∈ zTg := List.mem_filter.mpr ⟨List.mem_of_getElem? h, hg⟩
theorem zm_all {ws : List Cond} (h : ∀ w ∈ ws, w ∈ lw_tbl) (hg : ws.all goodWord = true) : ∀ w ∈ ws, w ∈ zTg := fun w hw => List.mem_filter.mpr ⟨h w hw, List.all_eq_true.mp hg w hw⟩
theorem zsv_i {ad : zR → Nat} {r : Nat} {lk : List Nat} {ty k i o : Nat} {f : Nat → Int32} (hrs : zrs ty k i o = none) (hbo : zbo ty k o = false) : zsv ad r lk ty k i f o = .int (f o) := by
  unfold zsv zrf
  rw [hrs]
  simp [hbo]
theorem zsv_b {ad : zR → Nat} {r : Nat} {lk : List Nat} {ty k i o : Nat} {f : Nat → Int32} (hrs : zrs ty k i o = none) (hbo : zbo ty k o = true) : zsv ad r lk ty k i f o = .int (f o &&& 1) := by
  unfold zsv zrf
  rw [hrs]
  simp [hbo]
theorem zsv_r {ad : zR → Nat} {r : Nat} {lk : List Nat} {ty k i o l' k' i' : Nat} {f : Nat → Int32} (hrs : zrs ty k i o = some (l', k', i')) : zsv ad r lk ty k i f o = .ref (ad ((if l' = 0 then r else lk.getD (l' - 1) r), k', i')) := by
  unfold zsv zrf
  rw [hrs]
  rfl
theorem zsv_map {ad : zR → Nat} {r : Nat} {lk : List Nat} {ty k i o n : Nat} {f : Nat → Int32} (h : o < n) : ((List.range n).map (zsv ad r lk ty k i f))[o]? = some (zsv ad r lk ty k i f o) := by
  rw [List.getElem?_map, List.getElem?_range h]
  rfl
theorem zsv_set {ad : zR → Nat} {r : Nat} {lk : List Nat} {ty k i o n : Nat} {f : Nat → Int32} {x : Int32} {v : Value} (hv : v = zsv ad r lk ty k i (upd f o x) o) : ((List.range n).map (zsv ad r lk ty k i f)).set o v = (List.range n).map (zsv ad r lk ty k i (upd f o x)) := by
  refine List.ext_getElem? fun j => ?_
  rcases Nat.lt_or_ge j n with h | h
  · rw [zsv_map h]
    by_cases hj : j = o
    · subst hj
      rw [List.getElem?_set_self (by simpa using h), hv]
    · rw [List.getElem?_set_ne (Ne.symm hj), zsv_map h]
      unfold zsv
      rw [show upd f o x j = f j from if_neg hj]
  · rw [List.getElem?_eq_none (by simpa using h), List.getElem?_eq_none (by simpa using h)]
section ZH
variable {X : zX} {cc : ByteArray} {nL : Nat} {own : String} {ret : Option FieldType} {Rg : List zD} {fr lo pc : Nat} {L L' : List (Option zV)} {st : List zV} {Ms Ms' : List zM} {φ : Option zO}

theorem zz_getf (F : zFr X cc nL own ret) {idx ci q r k i n : Nat} {σ : zM} (hd : decode cc pc = .ok (.getfield idx, 3)) (hf : zFl own idx ci q) (hcl : zCl ci) (hm : Ms[r]? = some σ) (hi : zin Rg (r, k, i)) (hs : (zsh (zty' Rg r) k).2 = .inl (ci, n)) (hq : q < n) (hrs : zrs (zty' Rg r) k i q = none) (hbo : zbo (zty' Rg r) k q = false) (kk : zZ X Rg fr lo nL (pc + 3) L (zi (σ k i q) :: st) Ms φ) : zZ X Rg fr lo nL pc L (zr r k i :: st) Ms φ := by
  obtain ⟨p, l, e, s, m, args, below, meth, c, D, cA, ad, A⟩ := X
  obtain ⟨hx, hb, hml, hown, hts, hlk, hK, hA, hE, htr, hex, hret⟩ := F
  intro o ho H locs ls hl hP hD hS
  obtain ⟨j, hj⟩ := zw_get (cA := cA) (ad := ad) (Ms := Ms) hi
  rw [zcq_at hm] at hj
  unfold zce at hj
  rw [hs] at hj
  obtain ⟨Q, hQ, hqn, hlink⟩ := hf
  refine va_get hx hb hts (hcl Q hQ).1 hown hK hP j hj hQ q hqn (hts _ hlink) (fun _ h => h) ((zsv_map hq).trans (congrArg some ?_)) hd (kk o ho H locs ls hl hP hD hS)
  exact zsv_i hrs hbo

theorem zz_getb (F : zFr X cc nL own ret) {idx ci q r k i n : Nat} {σ : zM} (hd : decode cc pc = .ok (.getfield idx, 3)) (hf : zFl own idx ci q) (hcl : zCl ci) (hm : Ms[r]? = some σ) (hi : zin Rg (r, k, i)) (hs : (zsh (zty' Rg r) k).2 = .inl (ci, n)) (hq : q < n) (hrs : zrs (zty' Rg r) k i q = none) (hbo : zbo (zty' Rg r) k q = true) (kk : zZ X Rg fr lo nL (pc + 3) L (zi (σ k i q &&& 1) :: st) Ms φ) : zZ X Rg fr lo nL pc L (zr r k i :: st) Ms φ := by
  obtain ⟨p, l, e, s, m, args, below, meth, c, D, cA, ad, A⟩ := X
  obtain ⟨hx, hb, hml, hown, hts, hlk, hK, hA, hE, htr, hex, hret⟩ := F
  intro o ho H locs ls hl hP hD hS
  obtain ⟨j, hj⟩ := zw_get (cA := cA) (ad := ad) (Ms := Ms) hi
  rw [zcq_at hm] at hj
  unfold zce at hj
  rw [hs] at hj
  obtain ⟨Q, hQ, hqn, hlink⟩ := hf
  refine va_get hx hb hts (hcl Q hQ).1 hown hK hP j hj hQ q hqn (hts _ hlink) (fun _ h => h) ((zsv_map hq).trans (congrArg some ?_)) hd (kk o ho H locs ls hl hP hD hS)
  exact zsv_b hrs hbo

theorem zz_getr (F : zFr X cc nL own ret) {idx ci q r k i n : Nat} {σ : zM} {l' k' i' r' : Nat} (hd : decode cc pc = .ok (.getfield idx, 3)) (hf : zFl own idx ci q) (hcl : zCl ci) (hm : Ms[r]? = some σ) (hi : zin Rg (r, k, i)) (hs : (zsh (zty' Rg r) k).2 = .inl (ci, n)) (hq : q < n) (hrs : zrs (zty' Rg r) k i q = some (l', k', i')) (hr : (if l' = 0 then r else (zlk Rg r).getD (l' - 1) r) = r') (kk : zZ X Rg fr lo nL (pc + 3) L (zr r' k' i' :: st) Ms φ) : zZ X Rg fr lo nL pc L (zr r k i :: st) Ms φ := by
  obtain ⟨p, l, e, s, m, args, below, meth, c, D, cA, ad, A⟩ := X
  obtain ⟨hx, hb, hml, hown, hts, hlk, hK, hA, hE, htr, hex, hret⟩ := F
  intro o ho H locs ls hl hP hD hS
  obtain ⟨j, hj⟩ := zw_get (cA := cA) (ad := ad) (Ms := Ms) hi
  rw [zcq_at hm] at hj
  unfold zce at hj
  rw [hs] at hj
  obtain ⟨Q, hQ, hqn, hlink⟩ := hf
  refine va_get hx hb hts (hcl Q hQ).1 hown hK hP j hj hQ q hqn (hts _ hlink) (fun _ h => h) ((zsv_map hq).trans (congrArg some ?_)) hd (kk o ho H locs ls hl hP hD hS)
  exact (zsv_r hrs).trans (by rw [hr]; rfl)

theorem zz_put (F : zFr X cc nL own ret) {idx ci q r k i n : Nat} {σ : zM} {x : Int32} (hd : decode cc pc = .ok (.putfield idx, 3)) (hf : zFw own idx ci q .int) (hcl : zCl ci) (hm : Ms[r]? = some σ) (hi : zin Rg (r, k, i)) (hs : (zsh (zty' Rg r) k).2 = .inl (ci, n)) (hq : q < n) (hrs : zrs (zty' Rg r) k i q = none) (hbo : zbo (zty' Rg r) k q = false) (hM : Ms.set r (zu σ k i q x) = Ms') (kk : zZ X Rg fr lo nL (pc + 3) L st Ms' φ) : zZ X Rg fr lo nL pc L (zi x :: zr r k i :: st) Ms φ := by
  obtain ⟨p, l, e, s, m, args, below, meth, c, D, cA, ad, A⟩ := X
  obtain ⟨hx, hb, hml, hown, hts, hlk, hK, hA, hE, htr, hex, hret⟩ := F
  intro o ho H locs ls hl hP hD hS
  obtain ⟨j, hj⟩ := zw_get (cA := cA) (ad := ad) (Ms := Ms) hi
  have hj0 := hj
  rw [zcq_at hm] at hj
  unfold zce at hj
  rw [hs] at hj
  obtain ⟨Q, hQ, hqn, hlink, hfin, hdsc⟩ := hf
  obtain ⟨hc1, ⟨ty0, hc2⟩, hc3⟩ := hcl Q hQ
  refine va_put hx hb hts hc1 ty0 hc2 hc3 hown hK hP hD hS j hj hQ q hqn (hts _ hlink) (fun _ h => h) hfin (v := .int x) hdsc rfl rfl (by simpa using hq) hd fun H1 locs1 hP1 hD1 hS1 => ?_
  have he : (zwl cA ad Rg Ms).set j (ad (r, k, i), .inr (ci, ((List.range n).map (zsv ad r (zlk Rg r) (zty' Rg r) k i (σ k i))).set q (.int x))) = zwl cA ad Rg Ms' := by
    subst hM
    refine zw_set hD hi hj0 ?_ (fun q' _ hne => zcq_row hm (fun _ _ h => zu_row h) q' hne)
    rw [zcq_here hm, zu_here]
    unfold zce
    rw [hs]
    refine congrArg (fun z => (Sum.inr (ci, z) : va_E)) (zsv_set (x := x) ?_).symm
    rw [zsv_i hrs hbo]
    show Value.int x = Value.int (upd (σ k i) q x q)
    rw [show upd (σ k i) q x q = x from if_pos rfl]
  rw [he] at hP1 hD1
  exact kk o ho H1 locs1 ls hl hP1 hD1 hS1

theorem zz_putb (F : zFr X cc nL own ret) {idx ci q r k i n : Nat} {σ : zM} {x : Int32} (hd : decode cc pc = .ok (.putfield idx, 3)) (hf : zFw own idx ci q .boolean) (hcl : zCl ci) (hm : Ms[r]? = some σ) (hi : zin Rg (r, k, i)) (hs : (zsh (zty' Rg r) k).2 = .inl (ci, n)) (hq : q < n) (hrs : zrs (zty' Rg r) k i q = none) (hbo : zbo (zty' Rg r) k q = true) (hn01 : x = 0 ∨ x = 1) (hM : Ms.set r (zu σ k i q x) = Ms') (kk : zZ X Rg fr lo nL (pc + 3) L st Ms' φ) : zZ X Rg fr lo nL pc L (zi x :: zr r k i :: st) Ms φ := by
  obtain ⟨p, l, e, s, m, args, below, meth, c, D, cA, ad, A⟩ := X
  obtain ⟨hx, hb, hml, hown, hts, hlk, hK, hA, hE, htr, hex, hret⟩ := F
  intro o ho H locs ls hl hP hD hS
  have hn : x &&& 1 = x := by rcases hn01 with h | h <;> (rw [h]; rfl)
  obtain ⟨j, hj⟩ := zw_get (cA := cA) (ad := ad) (Ms := Ms) hi
  have hj0 := hj
  rw [zcq_at hm] at hj
  unfold zce at hj
  rw [hs] at hj
  obtain ⟨Q, hQ, hqn, hlink, hfin, hdsc⟩ := hf
  obtain ⟨hc1, ⟨ty0, hc2⟩, hc3⟩ := hcl Q hQ
  refine va_put hx hb hts hc1 ty0 hc2 hc3 hown hK hP hD hS j hj hQ q hqn (hts _ hlink) (fun _ h => h) hfin (v := .int x) hdsc (by show Value.int (x &&& 1) = Value.int x; rw [hn]) (by first | exact decide_eq_true hn01 | simpa [fits] using hn01) (by simpa using hq) hd fun H1 locs1 hP1 hD1 hS1 => ?_
  have he : (zwl cA ad Rg Ms).set j (ad (r, k, i), .inr (ci, ((List.range n).map (zsv ad r (zlk Rg r) (zty' Rg r) k i (σ k i))).set q (.int x))) = zwl cA ad Rg Ms' := by
    subst hM
    refine zw_set hD hi hj0 ?_ (fun q' _ hne => zcq_row hm (fun _ _ h => zu_row h) q' hne)
    rw [zcq_here hm, zu_here]
    unfold zce
    rw [hs]
    refine congrArg (fun z => (Sum.inr (ci, z) : va_E)) (zsv_set (x := x) ?_).symm
    rw [zsv_b hrs hbo]
    show Value.int x = Value.int (upd (σ k i) q x q &&& 1)
    rw [show upd (σ k i) q x q = x from if_pos rfl, hn]
  rw [he] at hP1 hD1
  exact kk o ho H1 locs1 ls hl hP1 hD1 hS1

theorem zz_ial (F : zFr X cc nL own ret) {r k i n : Nat} {σ : zM} {j : Int32} {jn : Nat} (hd : decode cc pc = .ok (.iaload, 1)) (hm : Ms[r]? = some σ) (hi : zin Rg (r, k, i)) (hs : (zsh (zty' Rg r) k).2 = .inr (.inl n)) (hin : vp_in j n) (hjn : j.toNatClampNeg = jn) (kk : zZ X Rg fr lo nL (pc + 1) L (zi (σ k i jn) :: st) Ms φ) : zZ X Rg fr lo nL pc L (zi j :: zr r k i :: st) Ms φ := by
  obtain ⟨p, l, e, s, m, args, below, meth, c, D, cA, ad, A⟩ := X
  obtain ⟨hx, hb, hml, hown, hts, hlk, hK, hA, hE, htr, hex, hret⟩ := F
  subst hjn
  intro o ho H locs ls hl hP hD hS
  obtain ⟨q0, hj⟩ := zw_get (cA := cA) (ad := ad) (Ms := Ms) hi
  rw [zcq_at hm] at hj
  unfold zce at hj
  rw [hs] at hj
  exact va_iald hx hb hK hP q0 0 hj (ztl_at (by decide)) hin hd (kk o ho H locs ls hl hP hD hS)
theorem zz_ias (F : zFr X cc nL own ret) {r k i n : Nat} {σ : zM} {j x : Int32} {jn : Nat} (hd : decode cc pc = .ok (.iastore, 1)) (hm : Ms[r]? = some σ) (hi : zin Rg (r, k, i)) (hs : (zsh (zty' Rg r) k).2 = .inr (.inl n)) (hin : vp_in j n) (hjn : j.toNatClampNeg = jn) (hM : Ms.set r (zu σ k i jn x) = Ms') (kk : zZ X Rg fr lo nL (pc + 1) L st Ms' φ) : zZ X Rg fr lo nL pc L (zi x :: zi j :: zr r k i :: st) Ms φ := by
  obtain ⟨p, l, e, s, m, args, below, meth, c, D, cA, ad, A⟩ := X
  obtain ⟨hx, hb, hml, hown, hts, hlk, hK, hA, hE, htr, hex, hret⟩ := F
  subst hjn
  intro o ho H locs ls hl hP hD hS
  obtain ⟨q0, hj⟩ := zw_get (cA := cA) (ad := ad) (Ms := Ms) hi
  have hj0 := hj
  rw [zcq_at hm] at hj
  unfold zce at hj
  rw [hs] at hj
  refine va_iast hx hb hK hP hD hS q0 0 hj (ztl_at (by decide)) hin hd fun H1 locs1 hP1 hD1 hS1 => ?_
  have he : (zwl cA ad Rg Ms).set q0 (ad (r, k, i), .inl (cA 0, n, .inl (upd (σ k i) j.toNatClampNeg x))) = zwl cA ad Rg Ms' := by
    subst hM
    refine zw_set hD hi hj0 ?_ (fun q' _ hne => zcq_row hm (fun _ _ h => zu_row h) q' hne)
    rw [zcq_here hm, zu_here]
    unfold zce
    rw [hs]
  have hP2 : va_P D zcl ((zwl cA ad Rg Ms).set q0 (ad (r, k, i), .inl (cA 0, n, .inl (upd (σ k i) j.toNatClampNeg x)))) H1 := hP1
  rw [he] at hP2
  exact kk o ho H1 locs1 ls hl hP2 (zw_D Ms' hD) hS1
theorem zz_aal (F : zFr X cc nL own ret) {r k i n ca k' i' : Nat} {σ : zM} {j : Int32} {jn : Nat} (hd : decode cc pc = .ok (.aaload, 1)) (hm : Ms[r]? = some σ) (hi : zin Rg (r, k, i)) (hs : (zsh (zty' Rg r) k).2 = .inr (.inr (n, ca))) (hca : ca < zTn) (hrf : (zty ca).isReference = true) (hin : vp_in j n) (hjn : j.toNatClampNeg = jn) (hrs : zrs (zty' Rg r) k i jn = some (0, k', i')) (kk : zZ X Rg fr lo nL (pc + 1) L (zr r k' i' :: st) Ms φ) : zZ X Rg fr lo nL pc L (zi j :: zr r k i :: st) Ms φ := by
  obtain ⟨p, l, e, s, m, args, below, meth, c, D, cA, ad, A⟩ := X
  obtain ⟨hx, hb, hml, hown, hts, hlk, hK, hA, hE, htr, hex, hret⟩ := F
  subst hjn
  intro o ho H locs ls hl hP hD hS
  obtain ⟨q0, hj⟩ := zw_get (cA := cA) (ad := ad) (Ms := Ms) hi
  rw [zcq_at hm] at hj
  unfold zce at hj
  rw [hs] at hj
  have hlt : j.toNatClampNeg < n := Nat.not_le.mp fun q => hin (Or.inr q)
  have hv : zrf ad r (zlk Rg r) (zty' Rg r) k i j.toNatClampNeg = some (ad (r, k', i')) := by
    unfold zrf
    rw [hrs]
    rfl
  exact W.aald (v := .ref (ad (r, k', i'))) (ty := zty ca) hx hb (hP q0 _ hj) ((hK.2 ca _ (ztl_at hca)).1 n (fun j => va_rf (zrf ad r (zlk Rg r) (zty' Rg r) k i j))) hrf (fun q => by cases q) (by show ¬ (j < 0 ∨ (arrV _ _ _).slots.size ≤ _); rw [arrV_size]; exact hin) (by show (arrV _ _ _).slots[_]? = _; rw [arrV_read _ _ hlt, hv]; rfl) rfl rfl hd (kk o ho H locs ls hl hP hD hS)
theorem zz_gets (F : zFr X cc nL own ret) {idx j : Nat} {q : String × String × List Int32} (hd : decode cc pc = .ok (.getstatic idx, 3)) (hq : zst[j]? = some q) (hw : Cond.fieldLink own idx q.1 q.2.1 "[I" ∈ zTg) (kk : zZ X Rg fr lo nL (pc + 3) L (zr (100 + j) 0 0 :: st) Ms φ) : zZ X Rg fr lo nL pc L st Ms φ := by
  obtain ⟨p, l, e, s, m, args, below, meth, c, D, cA, ad, A⟩ := X
  obtain ⟨hx, hb, hml, hown, hts, hlk, hK, hA, hE, htr, hex, hret⟩ := F
  intro o ho H locs ls hl hP hD hS
  exact va_gets hx hb (hE.1 j q hq).1 hS hown (hts _ hw) (fun _ h => h) hd (kk o ho H locs ls hl hP hD hS)
theorem zz_getsN (F : zFr X cc nL own ret) {idx j : Nat} {host : String} {q : String × String × List Int32} (hd : decode cc pc = .ok (.getstatic idx, 3)) (hq : zst[j]? = some q) (hw : Cond.fieldLinkNest own idx q.1 q.2.1 "[I" host ∈ zNws) (kk : zZ X Rg fr lo nL (pc + 3) L (zr (100 + j) 0 0 :: st) Ms φ) : zZ X Rg fr lo nL pc L st Ms φ := by
  obtain ⟨p, l, e, s, m, args, below, meth, c, D, cA, ad, A⟩ := X
  obtain ⟨hx, hb, hml, hown, hts, hlk, hK, hA, hE, htr, hex, hret⟩ := F
  intro o ho H locs ls hl hP hD hS
  exact va_getsN hx hb (hE.1 j q hq).1 hS hown (va_Nw.use rfl (hE.2.2.1 _ hw)) (fun _ h => h) hd (kk o ho H locs ls hl hP hD hS)
theorem zz_tld (F : zFr X cc nL own ret) {j r : Nat} {q : String × String × List Int32} {x : Int32} {jn : Nat} (hd : decode cc pc = .ok (.iaload, 1)) (hr : r = 100 + j) (hq : zst[j]? = some q) (hin : vp_in x q.2.2.length) (hjn : x.toNatClampNeg = jn) (kk : zZ X Rg fr lo nL (pc + 1) L (zi (q.2.2.getD jn 0) :: st) Ms φ) : zZ X Rg fr lo nL pc L (zi x :: zr r 0 0 :: st) Ms φ := by
  obtain ⟨p, l, e, s, m, args, below, meth, c, D, cA, ad, A⟩ := X
  obtain ⟨hx, hb, hml, hown, hts, hlk, hK, hA, hE, htr, hex, hret⟩ := F
  subst hjn
  intro o ho H locs ls hl hP hD hS
  subst hr
  exact va_ti hx hb (hE.1 j q hq).2 hS hin rfl hd (kk o ho H locs ls hl hP hD hS)
theorem zz_tlen (F : zFr X cc nL own ret) {j r : Nat} {q : String × String × List Int32} {v : Int32} (hd : decode cc pc = .ok (.arraylength, 1)) (hr : r = 100 + j) (hq : zst[j]? = some q) (hv : Int32.ofNat q.2.2.length = v) (kk : zZ X Rg fr lo nL (pc + 1) L (zi v :: st) Ms φ) : zZ X Rg fr lo nL pc L (zr r 0 0 :: st) Ms φ := by
  obtain ⟨p, l, e, s, m, args, below, meth, c, D, cA, ad, A⟩ := X
  obtain ⟨hx, hb, hml, hown, hts, hlk, hK, hA, hE, htr, hex, hret⟩ := F
  intro o ho H locs ls hl hP hD hS
  subst hr
  exact va_tlen hx hb (hE.1 j q hq).2 hS hv hd (kk o ho H locs ls hl hP hD hS)
theorem zz_alen (F : zFr X cc nL own ret) {r k i n : Nat} {σ : zM} {v : Int32} (hd : decode cc pc = .ok (.arraylength, 1)) (hm : Ms[r]? = some σ) (hi : zin Rg (r, k, i)) (hs : (zsh (zty' Rg r) k).2 = .inr (.inl n)) (hv : Int32.ofNat n = v) (kk : zZ X Rg fr lo nL (pc + 1) L (zi v :: st) Ms φ) : zZ X Rg fr lo nL pc L (zr r k i :: st) Ms φ := by
  obtain ⟨p, l, e, s, m, args, below, meth, c, D, cA, ad, A⟩ := X
  obtain ⟨hx, hb, hml, hown, hts, hlk, hK, hA, hE, htr, hex, hret⟩ := F
  intro o ho H locs ls hl hP hD hS
  obtain ⟨q0, hj⟩ := zw_get (cA := cA) (ad := ad) (Ms := Ms) hi
  rw [zcq_at hm] at hj
  unfold zce at hj
  rw [hs] at hj
  exact va_alen hx hb hK hP q0 0 hj (ty := .int) (ztl_at (by decide)) hv hd (kk o ho H locs ls hl hP hD hS)

theorem zz_max (F : zFr X cc nL own ret) {idx : Nat} {x y : Int32} (hd : decode cc pc = .ok (.invokestatic idx, 3)) (hw : Cond.methodLink own idx Lib.Math.max.name ∈ zTg) (hwM : Cond.static Lib.Math.max.name ∈ zTg ∧ Cond.initialized "java/lang/Math" ∈ zTg ∧ Cond.code Lib.Math.max.name Lib.Math.max.code 2 (some .int) ∈ zTg) (hfr : 1 ≤ fr) (hlo : zcs st + 13 ≤ lo) (kk : zZ X Rg fr lo nL (pc + 3) L (zi (zmax x y) :: st) Ms φ) : zZ X Rg fr lo nL pc L (zi y :: zi x :: st) Ms φ := by
  obtain ⟨p, l, e, s, m, args, below, meth, c, D, cA, ad, A⟩ := X
  obtain ⟨hx, hb, hml, hown, hts, hlk, hK, hA, hE, htr, hex, hret⟩ := F
  intro o ho H locs ls hl hP hD hS
  exact va_mmax hx hb (hml.trans hl.1.symm) hown (hts _ hw) (hts _ hwM.1) (hts _ hwM.2.1) (hts _ hwM.2.2) (by rw [zrm_f]; exact hfr) (by rw [zcs_t, zrm_l]; exact hlo) (Nat.zero_le _) (Nat.zero_le _) hd (kk o ho H locs ls hl hP hD hS)

theorem zz_min (F : zFr X cc nL own ret) {idx : Nat} {x y : Int32} (hd : decode cc pc = .ok (.invokestatic idx, 3)) (hw : Cond.methodLink own idx Lib.Math.min.name ∈ zTg) (hwM : Cond.static Lib.Math.min.name ∈ zTg ∧ Cond.initialized "java/lang/Math" ∈ zTg ∧ Cond.code Lib.Math.min.name Lib.Math.min.code 2 (some .int) ∈ zTg) (hfr : 1 ≤ fr) (hlo : zcs st + 13 ≤ lo) (kk : zZ X Rg fr lo nL (pc + 3) L (zi (zmin x y) :: st) Ms φ) : zZ X Rg fr lo nL pc L (zi y :: zi x :: st) Ms φ := by
  obtain ⟨p, l, e, s, m, args, below, meth, c, D, cA, ad, A⟩ := X
  obtain ⟨hx, hb, hml, hown, hts, hlk, hK, hA, hE, htr, hex, hret⟩ := F
  intro o ho H locs ls hl hP hD hS
  exact va_mmin hx hb (hml.trans hl.1.symm) hown (hts _ hw) (hts _ hwM.1) (hts _ hwM.2.1) (hts _ hwM.2.2) (by rw [zrm_f]; exact hfr) (by rw [zcs_t, zrm_l]; exact hlo) (Nat.zero_le _) (Nat.zero_le _) hd (kk o ho H locs ls hl hP hD hS)

theorem zz_abs (F : zFr X cc nL own ret) {idx : Nat} {x : Int32} (hd : decode cc pc = .ok (.invokestatic idx, 3)) (hw : Cond.methodLink own idx Lib.Math.abs.name ∈ zTg) (hwM : Cond.static Lib.Math.abs.name ∈ zTg ∧ Cond.initialized "java/lang/Math" ∈ zTg ∧ Cond.code Lib.Math.abs.name Lib.Math.abs.code 1 (some .int) ∈ zTg) (hfr : 1 ≤ fr) (hlo : zcs st + 13 ≤ lo) (kk : zZ X Rg fr lo nL (pc + 3) L (zi (zabs x) :: st) Ms φ) : zZ X Rg fr lo nL pc L (zi x :: st) Ms φ := by
  obtain ⟨p, l, e, s, m, args, below, meth, c, D, cA, ad, A⟩ := X
  obtain ⟨hx, hb, hml, hown, hts, hlk, hK, hA, hE, htr, hex, hret⟩ := F
  intro o ho H locs ls hl hP hD hS
  exact va_mabs hx hb (hml.trans hl.1.symm) hown (hts _ hw) (hts _ hwM.1) (hts _ hwM.2.1) (hts _ hwM.2.2) (by rw [zrm_f]; exact hfr) (by rw [zcs_t, zrm_l]; exact hlo) (Nat.zero_le _) (Nat.zero_le _) hd (kk o ho H locs ls hl hP hD hS)

theorem zz_copy (F : zFr X cc nL own ret) {idx r0 k0 i0 n0 r1 k1 i1 n1 : Nat} {σ0 σ1 : zM} {sp dp n : Int32} (hd : decode cc pc = .ok (.invokestatic idx, 3)) (hw : Cond.methodLink own idx arraycopyName ∈ zTg) (hwM : Cond.native arraycopyName ∈ zTg ∧ Cond.static arraycopyName ∈ zTg ∧ Cond.initialized "java/lang/System" ∈ zTg)
    (hm0 : Ms[r0]? = some σ0) (hi0 : zin Rg (r0, k0, i0)) (hs0 : (zsh (zty' Rg r0) k0).2 = .inr (.inl n0)) (hm1 : Ms[r1]? = some σ1) (hi1 : zin Rg (r1, k1, i1)) (hs1 : (zsh (zty' Rg r1) k1).2 = .inr (.inl n1)) (h1 : ¬ sp < 0) (h2 : ¬ dp < 0) (h3 : ¬ n < 0) (h4 : sp.toNatClampNeg + n.toNatClampNeg ≤ n0) (h5 : dp.toNatClampNeg + n.toNatClampNeg ≤ n1)
    (hfr : 1 ≤ fr) (hlo : zcs st + (nativeFrameWords "java/lang/System" "arraycopy" 5 + 11) ≤ lo) (hM : Ms.set r1 (zur σ1 k1 i1 (va_cpy (σ0 k0 i0) (σ1 k1 i1) sp.toNatClampNeg dp.toNatClampNeg n.toNatClampNeg)) = Ms') (kk : zZ X Rg fr lo nL (pc + 3) L st Ms' φ) : zZ X Rg fr lo nL pc L (zi n :: zi dp :: zr r1 k1 i1 :: zi sp :: zr r0 k0 i0 :: st) Ms φ := by
  obtain ⟨p, l, e, s, m, args, below, meth, c, D, cA, ad, A⟩ := X
  obtain ⟨hx, hb, hml, hown, hts, hlk, hK, hA, hE, htr, hex, hret⟩ := F
  intro o ho H locs ls hl hP hD hS
  obtain ⟨q0, hj⟩ := zw_get (cA := cA) (ad := ad) (Ms := Ms) hi0
  obtain ⟨q1, hj1⟩ := zw_get (cA := cA) (ad := ad) (Ms := Ms) hi1
  have hj0 := hj1
  rw [zcq_at hm0] at hj
  rw [zcq_at hm1] at hj1
  unfold zce at hj hj1
  rw [hs0] at hj
  rw [hs1] at hj1
  refine va_copyi hx hb (hml.trans hl.1.symm) hown (hts _ hw) (hts _ hwM.1) (hts _ hwM.2.1) (hts _ hwM.2.2) hK hP hD hS q0 q1 0 0 hj hj1 (ty := .int) (ztl_at (by decide)) (ztl_at (by decide)) rfl h1 h2 h3 h4 h5 (fun i _ => rfl) (by rw [zrm_f]; exact hfr) (by rw [zcs_t, zrm_l]; exact hlo) hd fun H1 locs1 hP1 hD1 hS1 => ?_
  have he : (zwl cA ad Rg Ms).set q1 (ad (r1, k1, i1), .inl (cA 0, n1, .inl (va_cpy (σ0 k0 i0) (σ1 k1 i1) sp.toNatClampNeg dp.toNatClampNeg n.toNatClampNeg))) = zwl cA ad Rg Ms' := by
    subst hM
    refine zw_set hD hi1 hj0 ?_ (fun q' _ hne => zcq_row hm1 (fun _ _ h => zur_row h) q' hne)
    rw [zcq_here hm1, zur_here]
    unfold zce
    rw [hs1]
  rw [he] at hP1
  exact kk o ho H1 locs1 ls hl hP1 (zw_D Ms' hD) hS1
/-- throw new E("text") -/
theorem zz_throw (F : zFr X cc nL own ret) {cls text : String} {ik is ic : Nat} (d0 : decode cc pc = .ok (.new ik, 3)) (d3 : decode cc (pc + 3) = .ok (.dup, 1)) (d4 : decode cc (pc + 4) = .ok (.ldc is, 2)) (d6 : decode cc (pc + 6) = .ok (.invokespecial ic, 3)) (d9 : decode cc (pc + 9) = .ok (.athrow, 1))
    (hcls : Bundle.fit cls = true) (hk : Cond.classLink own ik cls ∈ zTg ∧ Cond.initialized cls ∈ zTg) (hstr : (own, is, text) ∈ zstr) (hg1 : ∀ w ∈ (vx_atS own ic cls ["java/lang/RuntimeException", "java/lang/Exception"]).filter goodWord, w ∈ zTg) (hg2 : ∀ w ∈ (vx_atS own ic cls ["java/lang/RuntimeException", "java/lang/Exception"]).filter (fun w => !goodWord w), w ∈ zNws)
    (hgood : ∀ w ∈ Cond.classLink own ik cls :: Cond.initialized cls :: vx_atS own ic cls ["java/lang/RuntimeException", "java/lang/Exception"], vx_ot w = true) (hfr : 5 < fr) (hlo : zcs st + 82 ≤ lo) (hφ : φ = some (.inr cls, Ms)) : zZ X Rg fr lo nL pc L st Ms φ := by
  obtain ⟨p, l, e, s, m, args, below, meth, c, D, cA, ad, A⟩ := X
  obtain ⟨hx, hb, hml, hown, hts, hlk, hK, hA, hE, htr, hex, hret⟩ := F
  intro o ho H locs ls hl hP hD hS
  rw [hφ] at ho
  cases ho
  obtain ⟨sa, hsa⟩ := hE.2.1 _ hstr
  refine vx_throwS hx hb htr (names := ["java/lang/RuntimeException", "java/lang/Exception"]) (A := A) (sa := sa) hown hcls (by decide) (hts _ hk.1) (hts _ hk.2) hsa (vx_hat (B := zNws) (fun w hw => hts w (hg1 w hw)) hg2 (fun w hw => va_Nw.use (zNw_on (List.all_eq_true.mp zNws_ok w hw)) (hE.2.2.1 w hw))) hgood hE.2.2.2.1 hE.2.2.2.2 hS (hl.1.trans hml.symm) d0 d3 d4 d6 d9 (fun x hx => (hex x hx).elim) (by exact hfr) (by rw [zcs_t]; exact hlo) (by exact Nat.le_refl _) (by exact Nat.le_refl _) hlk ?_ hS.2.2 (by exact Nat.le_refl _) (by exact Nat.le_refl _)
  intro t hal hsz hold
  exact ⟨rfl, hP.kept fun j x hx => hold x.1 ((hP j x hx).lt), Nat.le_trans hS.1 hsz, fun q h1 h2 => (hold q (Nat.lt_of_lt_of_le h1 hS.1)).trans (hS.2.1 q h1 h2)⟩
/-- throw new E("text") -/
theorem zz_throwW (F : zFr X cc nL own ret) {cls text : String} {ik is ic : Nat} (d0 : decode cc pc = .ok (.new ik, 3)) (d3 : decode cc (pc + 3) = .ok (.dup, 1)) (d4 : decode cc (pc + 4) = .ok (.ldc_w is, 3)) (d6 : decode cc (pc + 7) = .ok (.invokespecial ic, 3)) (d9 : decode cc (pc + 10) = .ok (.athrow, 1))
    (hcls : Bundle.fit cls = true) (hk : Cond.classLink own ik cls ∈ zTg ∧ Cond.initialized cls ∈ zTg) (hstr : (own, is, text) ∈ zstr) (hg1 : ∀ w ∈ (vx_atS own ic cls ["java/lang/RuntimeException", "java/lang/Exception"]).filter goodWord, w ∈ zTg) (hg2 : ∀ w ∈ (vx_atS own ic cls ["java/lang/RuntimeException", "java/lang/Exception"]).filter (fun w => !goodWord w), w ∈ zNws)
    (hgood : ∀ w ∈ Cond.classLink own ik cls :: Cond.initialized cls :: vx_atS own ic cls ["java/lang/RuntimeException", "java/lang/Exception"], vx_ot w = true) (hfr : 5 < fr) (hlo : zcs st + 82 ≤ lo) (hφ : φ = some (.inr cls, Ms)) : zZ X Rg fr lo nL pc L st Ms φ := by
  obtain ⟨p, l, e, s, m, args, below, meth, c, D, cA, ad, A⟩ := X
  obtain ⟨hx, hb, hml, hown, hts, hlk, hK, hA, hE, htr, hex, hret⟩ := F
  intro o ho H locs ls hl hP hD hS
  rw [hφ] at ho
  cases ho
  obtain ⟨sa, hsa⟩ := hE.2.1 _ hstr
  refine vx_throwSW hx hb htr (names := ["java/lang/RuntimeException", "java/lang/Exception"]) (A := A) (sa := sa) hown hcls (by decide) (hts _ hk.1) (hts _ hk.2) hsa (vx_hat (B := zNws) (fun w hw => hts w (hg1 w hw)) hg2 (fun w hw => va_Nw.use (zNw_on (List.all_eq_true.mp zNws_ok w hw)) (hE.2.2.1 w hw))) hgood hE.2.2.2.1 hE.2.2.2.2 hS (hl.1.trans hml.symm) d0 d3 d4 d6 d9 (fun x hx => (hex x hx).elim) (by exact hfr) (by rw [zcs_t]; exact hlo) (by exact Nat.le_refl _) (by exact Nat.le_refl _) hlk ?_ hS.2.2 (by exact Nat.le_refl _) (by exact Nat.le_refl _)
  intro t hal hsz hold
  exact ⟨rfl, hP.kept fun j x hx => hold x.1 ((hP j x hx).lt), Nat.le_trans hS.1 hsz, fun q h1 h2 => (hold q (Nat.lt_of_lt_of_le h1 hS.1)).trans (hS.2.1 q h1 h2)⟩

theorem zb01 (v : Int32) : v &&& 1 = 0 ∨ v &&& 1 = 1 := by
  obtain ⟨j, hj, e⟩ := pk_andE v (m := 1) 1 (by decide)
  rcases (show j = 0 ∨ j = 1 by omega) with rfl | rfl
  · exact Or.inl e
  · exact Or.inr e
end ZH
