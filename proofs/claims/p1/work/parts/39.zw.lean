/-! ===== regions' methods, called from lists of cells: short forms ===== -/
def zvb (x : zV) : Bool := match x with
  | .inl q => decide (q.1 < 100)
  | _ => true
theorem zvb_of {x : zV} (h : zvb x = true) : ∀ q, x = .inl q → q.1 < 100 := by
  rintro q rfl
  exact of_decide_eq_true h
def zok (Rg : List zD) (as : List zV) (v : Option zV) : Bool := decide (Rg.length ≤ 100) && Rg.all (fun r => r.2.all fun x => decide (x < 100)) && as.all zvb && (match v with | some x => zvb x | none => true)
theorem zok_of {Rg : List zD} {as : List zV} {v : Option zV} (h : zok Rg as v = true) : Rg.length ≤ 100 ∧ (∀ r ∈ Rg, ∀ x ∈ r.2, x < 100) ∧ (∀ x ∈ as, ∀ q, x = .inl q → q.1 < 100) ∧ ∀ q, v = some (.inl q) → q.1 < 100 := by
  unfold zok at h
  simp only [Bool.and_eq_true] at h
  obtain ⟨⟨⟨h1, h2⟩, h3⟩, h4⟩ := h
  refine ⟨of_decide_eq_true h1, fun r hr x hx => of_decide_eq_true (List.all_eq_true.mp (List.all_eq_true.mp h2 r hr) x hx), fun x hx => zvb_of (List.all_eq_true.mp h3 x hx), ?_⟩
  rintro q rfl
  exact of_decide_eq_true h4
theorem zAl_z {y : MethodName} {cb : ByteArray} {nB fb lb : Nat} {rb : Option FieldType} {Rg : List zD} {as : List zV} {Ms : List zM} {v : Option zV} {Ms' : List zM} (h : zMet y cb nB rb fb lb Rg as Ms (.inl v, Ms')) (hb : zok Rg as v = true) (ad1 : zR → Nat) :
    zAl y cb nB rb fb lb 0 0 (as.map (zt ad1)) (fun cA => zwl cA ad1 Rg Ms) (fun cA v' ws => v' = v.map (zt ad1) ∧ ws = zwl cA ad1 Rg Ms') :=
  zAl_of_zMet h (zok_of hb).1 (zok_of hb).2.1 (zok_of hb).2.2.1 (zok_of hb).2.2.2 ad1
theorem zAx_z {y : MethodName} {cb : ByteArray} {nB fb lb : Nat} {rb : Option FieldType} {Rg : List zD} {as : List zV} {Ms Ms' : List zM} {E : String} (h : zMet y cb nB rb fb lb Rg as Ms (.inr E, Ms')) (hb : zok Rg as none = true) (ad1 : zR → Nat) :
    zAx y cb nB rb fb lb 1 6 (as.map (zt ad1)) (fun cA => zwl cA ad1 Rg Ms) E (fun cA => zwl cA ad1 Rg Ms') :=
  zAx_of_zMet h (zok_of hb).1 (zok_of hb).2.1 (zok_of hb).2.2.1 ad1
section ZNL
variable {X : zX} {cc : ByteArray} {nL : Nat} {own : String} {mc ms fr lo pc ck sk : Nat} {B : State → Prop} {lv : List (Nat × Value)} {st : List Value} {w : va_W}
theorem zn_lastE (F : zLr X cc nL own) {a n t : Nat} {f : Nat → Int64} {i : Int32} {jn : Nat} {x : Int64} (hd : decode cc pc = .ok (.lastore, 1)) (ht : t < zTn) (hty : zty t = .long) (hin0 : vp_in i n) (hjn : i.toNatClampNeg = jn) (kk : zN X mc ms fr lo B nL (pc + 1) lv st (w ++ [(a, .inl (X.2.2.2.2.2.2.2.2.2.2.1 t, n, .inr (.inl (vp_updL f jn x))))]) ck sk) : zN X mc ms fr lo B nL pc lv (.long x :: .int i :: .ref a :: st) (w ++ [(a, .inl (X.2.2.2.2.2.2.2.2.2.2.1 t, n, .inr (.inl f)))]) ck sk := by
  refine zn_last F (q0 := w.length) hd (by rw [List.getElem?_append_right (Nat.le_refl _), Nat.sub_self]; rfl) ht hty hin0 hjn ?_ kk
  rw [List.set_append_right _ _ (Nat.le_refl _), Nat.sub_self]
  rfl
end ZNL
