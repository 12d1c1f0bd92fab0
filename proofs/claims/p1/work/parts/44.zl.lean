/-! ===== the law's rules, and short forms ===== -/
def zScr (X : zX) (b L : Nat) (xs : Nat → Int32) : Prop := match X with
  | (p, l, e, s, m, args, below, meth, c, D, cA, ad, A) => va_X b L xs s s.heap ∧ b < s.heap.size ∧ ¬ A b
def zbl (x : Int32) : Int32 := if x = 0 then 0 else 1
section ZLW
variable {X : zX} {cc : ByteArray} {nL : Nat} {own : String} {mc ms fr lo pc ck sk : Nat} {B : State → Prop} {lv lv' : List (Nat × Value)} {st st' : List Value} {ws : va_W}
theorem zn_sld (F : zLr X cc nL own) {b L : Nat} {xs : Nat → Int32} (hX : zScr X b L xs) {i : Int32} {jn : Nat} (hd : decode cc pc = .ok (.iaload, 1)) (hin : vp_in i L) (hjn : i.toNatClampNeg = jn) (kk : zN X mc ms fr lo B nL (pc + 1) lv (.int (xs jn) :: st) ws ck sk) : zN X mc ms fr lo B nL pc lv (.int i :: .ref b :: st) ws ck sk := by
  obtain ⟨p, l, e, s, m, args, below, meth, c, D, cA, ad, A⟩ := X
  obtain ⟨⟨hx, hb, hml, hown, hts, hlk, hK, hA, hE, htr⟩, hAr⟩ := F
  obtain ⟨h1, h2, h3⟩ := hX
  subst hjn
  exact fun H locs ls hl hP hD hS => va_sld hx hb h1 h2 h3 hS hin hd (kk H locs ls hl hP hD hS)
theorem zn_slen (F : zLr X cc nL own) {b L : Nat} {xs : Nat → Int32} (hX : zScr X b L xs) {v : Int32} (hd : decode cc pc = .ok (.arraylength, 1)) (hv : Int32.ofNat L = v) (kk : zN X mc ms fr lo B nL (pc + 1) lv (.int v :: st) ws ck sk) : zN X mc ms fr lo B nL pc lv (.ref b :: st) ws ck sk := by
  obtain ⟨p, l, e, s, m, args, below, meth, c, D, cA, ad, A⟩ := X
  obtain ⟨⟨hx, hb, hml, hown, hts, hlk, hK, hA, hE, htr⟩, hAr⟩ := F
  obtain ⟨h1, h2, h3⟩ := hX
  subst hv
  exact fun H locs ls hl hP hD hS => va_slen hx hb h1 h2 h3 hS hd (kk H locs ls hl hP hD hS)
theorem zn_pick (ks : List Nat) (h : lv_pick lv ks = lv') (kk : zN X mc ms fr lo B nL pc lv' st ws ck sk) : zN X mc ms fr lo B nL pc lv st ws ck sk := by
  obtain ⟨p, l, e, s, m, args, below, meth, c, D, cA, ad, A⟩ := X
  exact fun H locs ls hl hP hD hS => kk H locs ls (lv_sub hl ks h) hP hD hS
theorem zn_wid {ck' sk' : Nat} (h1 : ck ≤ ck') (h2 : sk ≤ sk') (kk : zN X mc ms fr lo B nL pc lv st ws ck' sk') : zN X mc ms fr lo B nL pc lv st ws ck sk := by
  obtain ⟨p, l, e, s, m, args, below, meth, c, D, cA, ad, A⟩ := X
  exact fun H locs ls hl hP hD hS => W.widen h1 h2 (kk H locs ls hl hP hD hS)
theorem zn_st (h : st = st') (kk : zN X mc ms fr lo B nL pc lv st' ws ck sk) : zN X mc ms fr lo B nL pc lv st ws ck sk := by
  rw [h]
  exact kk
theorem zn_laddv (F : zLr X cc nL own) {x y v : Int64} (hd : decode cc pc = .ok (.ladd, 1)) (hv : x + y = v) (kk : zN X mc ms fr lo B nL (pc + 1) lv (.long v :: st) ws ck sk) : zN X mc ms fr lo B nL pc lv (.long y :: .long x :: st) ws ck sk := by
  subst hv
  exact zn_ladd F hd kk
theorem zn_lmulv (F : zLr X cc nL own) {x y v : Int64} (hd : decode cc pc = .ok (.lmul, 1)) (hv : x * y = v) (kk : zN X mc ms fr lo B nL (pc + 1) lv (.long v :: st) ws ck sk) : zN X mc ms fr lo B nL pc lv (.long y :: .long x :: st) ws ck sk := by
  subst hv
  exact zn_lmul F hd kk
theorem zn_iaddv (F : zLr X cc nL own) {x y v : Int32} (hd : decode cc pc = .ok (.iadd, 1)) (hv : x + y = v) (kk : zN X mc ms fr lo B nL (pc + 1) lv (.int v :: st) ws ck sk) : zN X mc ms fr lo B nL pc lv (.int y :: .int x :: st) ws ck sk := by
  subst hv
  exact zn_iadd F hd kk
/-- 'x != 0' as a number -/
theorem zn_bool (F : zLr X cc nL own) {x : Int32} {p1 p2 p3 p4 : Nat} (h1 : decode cc pc = .ok (.ifCond .eq 7, 3)) (h2 : decode cc p1 = .ok (.iconst 1, 1)) (h3 : decode cc p2 = .ok (.goto 4, 3)) (h4 : decode cc p3 = .ok (.iconst 0, 1)) (hp : p1 = pc + 3 ∧ p2 = pc + 4 ∧ p3 = pc + 7 ∧ p4 = pc + 8) (kk : zN X mc ms fr lo B nL p4 lv (.int (zbl x) :: st) ws ck sk) : zN X mc ms fr lo B nL pc lv (.int x :: st) ws ck sk := by
  obtain ⟨rfl, rfl, rfl, rfl⟩ := hp
  unfold zbl at kk
  refine zn_if_eq F (tgt := pc + 7) h1 (by omega) (fun h => ?_) (fun h => ?_)
  · rw [if_pos h] at kk
    exact zn_iconst F (v := 0) h4 (by decide) kk
  · rw [if_neg h] at kk
    exact zn_iconst F (v := 1) h2 (by decide) (zn_goto F (tgt := pc + 8) h3 (by omega) kk)
end ZLW
