/-! ===== more rules over lists of cells ===== -/
section ZNR
variable {X : zX} {cc : ByteArray} {nL : Nat} {own : String} {mc ms fr lo pc ck sk : Nat} {B : State → Prop} {lv lv' : List (Nat × Value)} {st : List Value} {ws ws' : va_W}

theorem zn_iadd (F : zLr X cc nL own) {x y : Int32} (hd : decode cc pc = .ok (.iadd, 1)) (kk : zN X mc ms fr lo B nL (pc + 1) lv (.int (x + y) :: st) ws ck sk) : zN X mc ms fr lo B nL pc lv (.int y :: .int x :: st) ws ck sk := by
  obtain ⟨p, l, e, s, m, args, below, meth, c, D, cA, ad, A⟩ := X
  obtain ⟨⟨hx, hb, hml, hown, hts, hlk, hK, hA, hE, htr⟩, hAr⟩ := F
  exact fun H locs ls hl hP hD hS => lv_iadd hx hb hd (kk H locs ls hl hP hD hS)

theorem zn_isub (F : zLr X cc nL own) {x y : Int32} (hd : decode cc pc = .ok (.isub, 1)) (kk : zN X mc ms fr lo B nL (pc + 1) lv (.int (x - y) :: st) ws ck sk) : zN X mc ms fr lo B nL pc lv (.int y :: .int x :: st) ws ck sk := by
  obtain ⟨p, l, e, s, m, args, below, meth, c, D, cA, ad, A⟩ := X
  obtain ⟨⟨hx, hb, hml, hown, hts, hlk, hK, hA, hE, htr⟩, hAr⟩ := F
  exact fun H locs ls hl hP hD hS => lv_isub hx hb hd (kk H locs ls hl hP hD hS)

theorem zn_imul (F : zLr X cc nL own) {x y : Int32} (hd : decode cc pc = .ok (.imul, 1)) (kk : zN X mc ms fr lo B nL (pc + 1) lv (.int (x * y) :: st) ws ck sk) : zN X mc ms fr lo B nL pc lv (.int y :: .int x :: st) ws ck sk := by
  obtain ⟨p, l, e, s, m, args, below, meth, c, D, cA, ad, A⟩ := X
  obtain ⟨⟨hx, hb, hml, hown, hts, hlk, hK, hA, hE, htr⟩, hAr⟩ := F
  exact fun H locs ls hl hP hD hS => lv_imul hx hb hd (kk H locs ls hl hP hD hS)

theorem zn_iand (F : zLr X cc nL own) {x y : Int32} (hd : decode cc pc = .ok (.iand, 1)) (kk : zN X mc ms fr lo B nL (pc + 1) lv (.int (x &&& y) :: st) ws ck sk) : zN X mc ms fr lo B nL pc lv (.int y :: .int x :: st) ws ck sk := by
  obtain ⟨p, l, e, s, m, args, below, meth, c, D, cA, ad, A⟩ := X
  obtain ⟨⟨hx, hb, hml, hown, hts, hlk, hK, hA, hE, htr⟩, hAr⟩ := F
  exact fun H locs ls hl hP hD hS => lv_iand hx hb hd (kk H locs ls hl hP hD hS)

theorem zn_ior (F : zLr X cc nL own) {x y : Int32} (hd : decode cc pc = .ok (.ior, 1)) (kk : zN X mc ms fr lo B nL (pc + 1) lv (.int (x ||| y) :: st) ws ck sk) : zN X mc ms fr lo B nL pc lv (.int y :: .int x :: st) ws ck sk := by
  obtain ⟨p, l, e, s, m, args, below, meth, c, D, cA, ad, A⟩ := X
  obtain ⟨⟨hx, hb, hml, hown, hts, hlk, hK, hA, hE, htr⟩, hAr⟩ := F
  exact fun H locs ls hl hP hD hS => lv_ior hx hb hd (kk H locs ls hl hP hD hS)

theorem zn_ixor (F : zLr X cc nL own) {x y : Int32} (hd : decode cc pc = .ok (.ixor, 1)) (kk : zN X mc ms fr lo B nL (pc + 1) lv (.int (x ^^^ y) :: st) ws ck sk) : zN X mc ms fr lo B nL pc lv (.int y :: .int x :: st) ws ck sk := by
  obtain ⟨p, l, e, s, m, args, below, meth, c, D, cA, ad, A⟩ := X
  obtain ⟨⟨hx, hb, hml, hown, hts, hlk, hK, hA, hE, htr⟩, hAr⟩ := F
  exact fun H locs ls hl hP hD hS => lv_ixor hx hb hd (kk H locs ls hl hP hD hS)

theorem zn_ishr (F : zLr X cc nL own) {x y : Int32} (hd : decode cc pc = .ok (.ishr, 1)) (kk : zN X mc ms fr lo B nL (pc + 1) lv (.int (x >>> (y &&& 31)) :: st) ws ck sk) : zN X mc ms fr lo B nL pc lv (.int y :: .int x :: st) ws ck sk := by
  obtain ⟨p, l, e, s, m, args, below, meth, c, D, cA, ad, A⟩ := X
  obtain ⟨⟨hx, hb, hml, hown, hts, hlk, hK, hA, hE, htr⟩, hAr⟩ := F
  exact fun H locs ls hl hP hD hS => lv_ishr hx hb hd (kk H locs ls hl hP hD hS)

theorem zn_ladd (F : zLr X cc nL own) {x y : Int64} (hd : decode cc pc = .ok (.ladd, 1)) (kk : zN X mc ms fr lo B nL (pc + 1) lv (.long (x + y) :: st) ws ck sk) : zN X mc ms fr lo B nL pc lv (.long y :: .long x :: st) ws ck sk := by
  obtain ⟨p, l, e, s, m, args, below, meth, c, D, cA, ad, A⟩ := X
  obtain ⟨⟨hx, hb, hml, hown, hts, hlk, hK, hA, hE, htr⟩, hAr⟩ := F
  exact fun H locs ls hl hP hD hS => lv_ladd hx hb hd (kk H locs ls hl hP hD hS)

theorem zn_lsub (F : zLr X cc nL own) {x y : Int64} (hd : decode cc pc = .ok (.lsub, 1)) (kk : zN X mc ms fr lo B nL (pc + 1) lv (.long (x - y) :: st) ws ck sk) : zN X mc ms fr lo B nL pc lv (.long y :: .long x :: st) ws ck sk := by
  obtain ⟨p, l, e, s, m, args, below, meth, c, D, cA, ad, A⟩ := X
  obtain ⟨⟨hx, hb, hml, hown, hts, hlk, hK, hA, hE, htr⟩, hAr⟩ := F
  exact fun H locs ls hl hP hD hS => lv_lsub hx hb hd (kk H locs ls hl hP hD hS)

theorem zn_lmul (F : zLr X cc nL own) {x y : Int64} (hd : decode cc pc = .ok (.lmul, 1)) (kk : zN X mc ms fr lo B nL (pc + 1) lv (.long (x * y) :: st) ws ck sk) : zN X mc ms fr lo B nL pc lv (.long y :: .long x :: st) ws ck sk := by
  obtain ⟨p, l, e, s, m, args, below, meth, c, D, cA, ad, A⟩ := X
  obtain ⟨⟨hx, hb, hml, hown, hts, hlk, hK, hA, hE, htr⟩, hAr⟩ := F
  exact fun H locs ls hl hP hD hS => lv_lmul hx hb hd (kk H locs ls hl hP hD hS)

theorem zn_idiv (F : zLr X cc nL own) {x y : Int32} (hd : decode cc pc = .ok (.idiv, 1)) (hne : ¬ y = 0) (kk : zN X mc ms fr lo B nL (pc + 1) lv (.int (x / y) :: st) ws ck sk) : zN X mc ms fr lo B nL pc lv (.int y :: .int x :: st) ws ck sk := by
  obtain ⟨p, l, e, s, m, args, below, meth, c, D, cA, ad, A⟩ := X
  obtain ⟨⟨hx, hb, hml, hown, hts, hlk, hK, hA, hE, htr⟩, hAr⟩ := F
  exact fun H locs ls hl hP hD hS => lv_idiv hx hb hd hne (kk H locs ls hl hP hD hS)

theorem zn_irem (F : zLr X cc nL own) {x y : Int32} (hd : decode cc pc = .ok (.irem, 1)) (hne : ¬ y = 0) (kk : zN X mc ms fr lo B nL (pc + 1) lv (.int (x % y) :: st) ws ck sk) : zN X mc ms fr lo B nL pc lv (.int y :: .int x :: st) ws ck sk := by
  obtain ⟨p, l, e, s, m, args, below, meth, c, D, cA, ad, A⟩ := X
  obtain ⟨⟨hx, hb, hml, hown, hts, hlk, hK, hA, hE, htr⟩, hAr⟩ := F
  exact fun H locs ls hl hP hD hS => lv_irem hx hb hd hne (by have h := kk H locs ls hl hP hD hS; rw [← irem_eq_mod] at h; exact h)

theorem zn_ineg (F : zLr X cc nL own) {x : Int32} (hd : decode cc pc = .ok (.ineg, 1)) (kk : zN X mc ms fr lo B nL (pc + 1) lv (.int (-x) :: st) ws ck sk) : zN X mc ms fr lo B nL pc lv (.int x :: st) ws ck sk := by
  obtain ⟨p, l, e, s, m, args, below, meth, c, D, cA, ad, A⟩ := X
  obtain ⟨⟨hx, hb, hml, hown, hts, hlk, hK, hA, hE, htr⟩, hAr⟩ := F
  exact fun H locs ls hl hP hD hS => lv_ineg hx hb hd (kk H locs ls hl hP hD hS)

theorem zn_i2l (F : zLr X cc nL own) {x : Int32} (hd : decode cc pc = .ok (.i2l, 1)) (kk : zN X mc ms fr lo B nL (pc + 1) lv (.long x.toInt64 :: st) ws ck sk) : zN X mc ms fr lo B nL pc lv (.int x :: st) ws ck sk := by
  obtain ⟨p, l, e, s, m, args, below, meth, c, D, cA, ad, A⟩ := X
  obtain ⟨⟨hx, hb, hml, hown, hts, hlk, hK, hA, hE, htr⟩, hAr⟩ := F
  exact fun H locs ls hl hP hD hS => lv_i2l hx hb hd rfl (kk H locs ls hl hP hD hS)

theorem zn_lcmp (F : zLr X cc nL own) {x y : Int64} (hd : decode cc pc = .ok (.lcmp, 1)) (kk : zN X mc ms fr lo B nL (pc + 1) lv (.int (lg_cmp x y) :: st) ws ck sk) : zN X mc ms fr lo B nL pc lv (.long y :: .long x :: st) ws ck sk := by
  obtain ⟨p, l, e, s, m, args, below, meth, c, D, cA, ad, A⟩ := X
  obtain ⟨⟨hx, hb, hml, hown, hts, hlk, hK, hA, hE, htr⟩, hAr⟩ := F
  exact fun H locs ls hl hP hD hS => W.lcmp hx hb hd (kk H locs ls hl hP hD hS)

theorem zn_lconst (F : zLr X cc nL own) {n : Fin 2} {v : Int64} (hd : decode cc pc = .ok (.lconst n, 1)) (hv : Int64.ofNat (n : Nat) = v) (kk : zN X mc ms fr lo B nL (pc + 1) lv (.long v :: st) ws ck sk) : zN X mc ms fr lo B nL pc lv st ws ck sk := by
  obtain ⟨p, l, e, s, m, args, below, meth, c, D, cA, ad, A⟩ := X
  obtain ⟨⟨hx, hb, hml, hown, hts, hlk, hK, hA, hE, htr⟩, hAr⟩ := F
  exact fun H locs ls hl hP hD hS => lv_lconst hx hb hd hv (kk H locs ls hl hP hD hS)

theorem zn_ldc2 (F : zLr X cc nL own) {idx : Nat} {v : Int64} (hd : decode cc pc = .ok (.ldc2_w idx, 3)) (hw : Cond.constantLong own idx v ∈ zTg) (kk : zN X mc ms fr lo B nL (pc + 3) lv (.long v :: st) ws ck sk) : zN X mc ms fr lo B nL pc lv st ws ck sk := by
  obtain ⟨p, l, e, s, m, args, below, meth, c, D, cA, ad, A⟩ := X
  obtain ⟨⟨hx, hb, hml, hown, hts, hlk, hK, hA, hE, htr⟩, hAr⟩ := F
  exact fun H locs ls hl hP hD hS => lv_ldc2 hx hb hown (hts _ hw) hd (kk H locs ls hl hP hD hS)
theorem zn_ldc (F : zLr X cc nL own) {idx : Nat} {v : Int32} (hd : decode cc pc = .ok (.ldc idx, 2)) (hw : Cond.constant own idx v ∈ zTg) (kk : zN X mc ms fr lo B nL (pc + 2) lv (.int v :: st) ws ck sk) : zN X mc ms fr lo B nL pc lv st ws ck sk := by
  obtain ⟨p, l, e, s, m, args, below, meth, c, D, cA, ad, A⟩ := X
  obtain ⟨⟨hx, hb, hml, hown, hts, hlk, hK, hA, hE, htr⟩, hAr⟩ := F
  exact fun H locs ls hl hP hD hS => lv_ldc hx hb hown (hts _ hw) hd (kk H locs ls hl hP hD hS)

theorem zn_pop (F : zLr X cc nL own) {u : Value} (hd : decode cc pc = .ok (.pop, 1)) (uc : u.category = 1) (kk : zN X mc ms fr lo B nL (pc + 1) lv st ws ck sk) : zN X mc ms fr lo B nL pc lv (u :: st) ws ck sk := by
  obtain ⟨p, l, e, s, m, args, below, meth, c, D, cA, ad, A⟩ := X
  obtain ⟨⟨hx, hb, hml, hown, hts, hlk, hK, hA, hE, htr⟩, hAr⟩ := F
  exact fun H locs ls hl hP hD hS => lv_pop hx hb hd uc (kk H locs ls hl hP hD hS)

theorem zn_dup2 (F : zLr X cc nL own) {u v : Value} (hd : decode cc pc = .ok (.dup2, 1)) (uc : u.category = 1) (vc : v.category = 1) (kk : zN X mc ms fr lo B nL (pc + 1) lv (u :: v :: u :: v :: st) ws ck sk) : zN X mc ms fr lo B nL pc lv (u :: v :: st) ws ck sk := by
  obtain ⟨p, l, e, s, m, args, below, meth, c, D, cA, ad, A⟩ := X
  obtain ⟨⟨hx, hb, hml, hown, hts, hlk, hK, hA, hE, htr⟩, hAr⟩ := F
  exact fun H locs ls hl hP hD hS => lv_dup2_11 hx hb hd uc vc (kk H locs ls hl hP hD hS)

theorem zn_dup_x1 (F : zLr X cc nL own) {u v : Value} (hd : decode cc pc = .ok (.dup_x1, 1)) (uc : u.category = 1) (vc : v.category = 1) (kk : zN X mc ms fr lo B nL (pc + 1) lv (u :: v :: u :: st) ws ck sk) : zN X mc ms fr lo B nL pc lv (u :: v :: st) ws ck sk := by
  obtain ⟨p, l, e, s, m, args, below, meth, c, D, cA, ad, A⟩ := X
  obtain ⟨⟨hx, hb, hml, hown, hts, hlk, hK, hA, hE, htr⟩, hAr⟩ := F
  exact fun H locs ls hl hP hD hS => lv_dup_x1 hx hb hd uc vc (kk H locs ls hl hP hD hS)

theorem zn_iload (F : zLr X cc nL own) {i k : Nat} {x : Int32} (hd : decode cc pc = .ok (.iload i, 2)) (hL : lv[k]? = some (i, .int x)) (kk : zN X mc ms fr lo B nL (pc + 2) lv (.int x :: st) ws ck sk) : zN X mc ms fr lo B nL pc lv st ws ck sk := by
  obtain ⟨p, l, e, s, m, args, below, meth, c, D, cA, ad, A⟩ := X
  obtain ⟨⟨hx, hb, hml, hown, hts, hlk, hK, hA, hE, htr⟩, hAr⟩ := F
  exact fun H locs ls hl hP hD hS => lv_iload hx hb hd (lv_at hl k hL) (kk H locs ls hl hP hD hS)

theorem zn_aload (F : zLr X cc nL own) {i k : Nat} {x : Nat} (hd : decode cc pc = .ok (.aload i, 2)) (hL : lv[k]? = some (i, .ref x)) (kk : zN X mc ms fr lo B nL (pc + 2) lv (.ref x :: st) ws ck sk) : zN X mc ms fr lo B nL pc lv st ws ck sk := by
  obtain ⟨p, l, e, s, m, args, below, meth, c, D, cA, ad, A⟩ := X
  obtain ⟨⟨hx, hb, hml, hown, hts, hlk, hK, hA, hE, htr⟩, hAr⟩ := F
  exact fun H locs ls hl hP hD hS => lv_aload hx hb hd (lv_at hl k hL) (kk H locs ls hl hP hD hS)

theorem zn_lload_n (F : zLr X cc nL own) {j : Fin 4} {i k : Nat} {x : Int64} (hd : decode cc pc = .ok (.lload_n j, 1)) (hi : (j : Nat) = i) (hL : lv[k]? = some (i, .long x)) (kk : zN X mc ms fr lo B nL (pc + 1) lv (.long x :: st) ws ck sk) : zN X mc ms fr lo B nL pc lv st ws ck sk := by
  obtain ⟨p, l, e, s, m, args, below, meth, c, D, cA, ad, A⟩ := X
  obtain ⟨⟨hx, hb, hml, hown, hts, hlk, hK, hA, hE, htr⟩, hAr⟩ := F
  exact fun H locs ls hl hP hD hS => lv_lload_n hx hb hd hi (lv_at hl k hL) (kk H locs ls hl hP hD hS)

theorem zn_lload (F : zLr X cc nL own) {i k : Nat} {x : Int64} (hd : decode cc pc = .ok (.lload i, 2)) (hL : lv[k]? = some (i, .long x)) (kk : zN X mc ms fr lo B nL (pc + 2) lv (.long x :: st) ws ck sk) : zN X mc ms fr lo B nL pc lv st ws ck sk := by
  obtain ⟨p, l, e, s, m, args, below, meth, c, D, cA, ad, A⟩ := X
  obtain ⟨⟨hx, hb, hml, hown, hts, hlk, hK, hA, hE, htr⟩, hAr⟩ := F
  exact fun H locs ls hl hP hD hS => lv_lload hx hb hd (lv_at hl k hL) (kk H locs ls hl hP hD hS)

theorem zn_istore (F : zLr X cc nL own) {i : Nat} {x : Int32} (hd : decode cc pc = .ok (.istore i, 2)) (hn : i < nL) (hL : (i, Value.int x) :: lv.filter (fun q => !(q.1 == i) && !(q.1 + 1 == i && q.2.category == 2)) = lv') (kk : zN X mc ms fr lo B nL (pc + 2) lv' st ws ck sk) : zN X mc ms fr lo B nL pc lv (.int x :: st) ws ck sk := by
  obtain ⟨p, l, e, s, m, args, below, meth, c, D, cA, ad, A⟩ := X
  obtain ⟨⟨hx, hb, hml, hown, hts, hlk, hK, hA, hE, htr⟩, hAr⟩ := F
  exact fun H locs ls hl hP hD hS => lv_istore hx hb hd hl hn hL fun ls' h' => kk H locs ls' h' hP hD hS

theorem zn_astore_n (F : zLr X cc nL own) {j : Fin 4} {i : Nat} {x : Nat} (hd : decode cc pc = .ok (.astore_n j, 1)) (hi : (j : Nat) = i) (hn : i < nL) (hL : (i, Value.ref x) :: lv.filter (fun q => !(q.1 == i) && !(q.1 + 1 == i && q.2.category == 2)) = lv') (kk : zN X mc ms fr lo B nL (pc + 1) lv' st ws ck sk) : zN X mc ms fr lo B nL pc lv (.ref x :: st) ws ck sk := by
  obtain ⟨p, l, e, s, m, args, below, meth, c, D, cA, ad, A⟩ := X
  obtain ⟨⟨hx, hb, hml, hown, hts, hlk, hK, hA, hE, htr⟩, hAr⟩ := F
  exact fun H locs ls hl hP hD hS => lv_astore_n hx hb hd hi hl hn hL fun ls' h' => kk H locs ls' h' hP hD hS

theorem zn_astore (F : zLr X cc nL own) {i : Nat} {x : Nat} (hd : decode cc pc = .ok (.astore i, 2)) (hn : i < nL) (hL : (i, Value.ref x) :: lv.filter (fun q => !(q.1 == i) && !(q.1 + 1 == i && q.2.category == 2)) = lv') (kk : zN X mc ms fr lo B nL (pc + 2) lv' st ws ck sk) : zN X mc ms fr lo B nL pc lv (.ref x :: st) ws ck sk := by
  obtain ⟨p, l, e, s, m, args, below, meth, c, D, cA, ad, A⟩ := X
  obtain ⟨⟨hx, hb, hml, hown, hts, hlk, hK, hA, hE, htr⟩, hAr⟩ := F
  exact fun H locs ls hl hP hD hS => lv_astore hx hb hd hl hn hL fun ls' h' => kk H locs ls' h' hP hD hS

theorem zn_lstore_n (F : zLr X cc nL own) {j : Fin 4} {i : Nat} {x : Int64} (hd : decode cc pc = .ok (.lstore_n j, 1)) (hi : (j : Nat) = i) (hn : i + 1 < nL) (hL : (i, Value.long x) :: lv.filter (fun q => !(q.1 == i) && (!(q.1 == i + 1) && !(q.1 + 1 == i && q.2.category == 2))) = lv') (kk : zN X mc ms fr lo B nL (pc + 1) lv' st ws ck sk) : zN X mc ms fr lo B nL pc lv (.long x :: st) ws ck sk := by
  obtain ⟨p, l, e, s, m, args, below, meth, c, D, cA, ad, A⟩ := X
  obtain ⟨⟨hx, hb, hml, hown, hts, hlk, hK, hA, hE, htr⟩, hAr⟩ := F
  exact fun H locs ls hl hP hD hS => lv_lstore_n hx hb hd hi hl hn hL fun ls' h' => kk H locs ls' h' hP hD hS

theorem zn_lstore (F : zLr X cc nL own) {i : Nat} {x : Int64} (hd : decode cc pc = .ok (.lstore i, 2)) (hn : i + 1 < nL) (hL : (i, Value.long x) :: lv.filter (fun q => !(q.1 == i) && (!(q.1 == i + 1) && !(q.1 + 1 == i && q.2.category == 2))) = lv') (kk : zN X mc ms fr lo B nL (pc + 2) lv' st ws ck sk) : zN X mc ms fr lo B nL pc lv (.long x :: st) ws ck sk := by
  obtain ⟨p, l, e, s, m, args, below, meth, c, D, cA, ad, A⟩ := X
  obtain ⟨⟨hx, hb, hml, hown, hts, hlk, hK, hA, hE, htr⟩, hAr⟩ := F
  exact fun H locs ls hl hP hD hS => lv_lstore hx hb hd hl hn hL fun ls' h' => kk H locs ls' h' hP hD hS

theorem zn_icmp_eq (F : zLr X cc nL own) {x y : Int32} {off : Int} {tgt : Nat} (hd : decode cc pc = .ok (.if_icmp .eq off, 3)) (ht : (pc : Int) + off = (tgt : Int)) (kt : x = y → zN X mc ms fr lo B nL tgt lv st ws ck sk) (kf : ¬ (x = y) → zN X mc ms fr lo B nL (pc + 3) lv st ws ck sk) : zN X mc ms fr lo B nL pc lv (.int y :: .int x :: st) ws ck sk := by
  obtain ⟨p, l, e, s, m, args, below, meth, c, D, cA, ad, A⟩ := X
  obtain ⟨⟨hx, hb, hml, hown, hts, hlk, hK, hA, hE, htr⟩, hAr⟩ := F
  exact fun H locs ls hl hP hD hS => lv_icmp_eq hx hb hd ht (fun h => kt h H locs ls hl hP hD hS) (fun h => kf h H locs ls hl hP hD hS)

theorem zn_if_eq (F : zLr X cc nL own) {x : Int32} {off : Int} {tgt : Nat} (hd : decode cc pc = .ok (.ifCond .eq off, 3)) (ht : (pc : Int) + off = (tgt : Int)) (kt : x = 0 → zN X mc ms fr lo B nL tgt lv st ws ck sk) (kf : ¬ (x = 0) → zN X mc ms fr lo B nL (pc + 3) lv st ws ck sk) : zN X mc ms fr lo B nL pc lv (.int x :: st) ws ck sk := by
  obtain ⟨p, l, e, s, m, args, below, meth, c, D, cA, ad, A⟩ := X
  obtain ⟨⟨hx, hb, hml, hown, hts, hlk, hK, hA, hE, htr⟩, hAr⟩ := F
  exact fun H locs ls hl hP hD hS => lv_if_eq hx hb hd ht (fun h => kt h H locs ls hl hP hD hS) (fun h => kf h H locs ls hl hP hD hS)

theorem zn_icmp_ne (F : zLr X cc nL own) {x y : Int32} {off : Int} {tgt : Nat} (hd : decode cc pc = .ok (.if_icmp .ne off, 3)) (ht : (pc : Int) + off = (tgt : Int)) (kt : ¬ x = y → zN X mc ms fr lo B nL tgt lv st ws ck sk) (kf : x = y → zN X mc ms fr lo B nL (pc + 3) lv st ws ck sk) : zN X mc ms fr lo B nL pc lv (.int y :: .int x :: st) ws ck sk := by
  obtain ⟨p, l, e, s, m, args, below, meth, c, D, cA, ad, A⟩ := X
  obtain ⟨⟨hx, hb, hml, hown, hts, hlk, hK, hA, hE, htr⟩, hAr⟩ := F
  exact fun H locs ls hl hP hD hS => lv_icmp_ne hx hb hd ht (fun h => kt h H locs ls hl hP hD hS) (fun h => kf h H locs ls hl hP hD hS)

theorem zn_if_ne (F : zLr X cc nL own) {x : Int32} {off : Int} {tgt : Nat} (hd : decode cc pc = .ok (.ifCond .ne off, 3)) (ht : (pc : Int) + off = (tgt : Int)) (kt : ¬ x = 0 → zN X mc ms fr lo B nL tgt lv st ws ck sk) (kf : x = 0 → zN X mc ms fr lo B nL (pc + 3) lv st ws ck sk) : zN X mc ms fr lo B nL pc lv (.int x :: st) ws ck sk := by
  obtain ⟨p, l, e, s, m, args, below, meth, c, D, cA, ad, A⟩ := X
  obtain ⟨⟨hx, hb, hml, hown, hts, hlk, hK, hA, hE, htr⟩, hAr⟩ := F
  exact fun H locs ls hl hP hD hS => lv_if_ne hx hb hd ht (fun h => kt h H locs ls hl hP hD hS) (fun h => kf h H locs ls hl hP hD hS)

theorem zn_icmp_lt (F : zLr X cc nL own) {x y : Int32} {off : Int} {tgt : Nat} (hd : decode cc pc = .ok (.if_icmp .lt off, 3)) (ht : (pc : Int) + off = (tgt : Int)) (kt : x < y → zN X mc ms fr lo B nL tgt lv st ws ck sk) (kf : ¬ (x < y) → zN X mc ms fr lo B nL (pc + 3) lv st ws ck sk) : zN X mc ms fr lo B nL pc lv (.int y :: .int x :: st) ws ck sk := by
  obtain ⟨p, l, e, s, m, args, below, meth, c, D, cA, ad, A⟩ := X
  obtain ⟨⟨hx, hb, hml, hown, hts, hlk, hK, hA, hE, htr⟩, hAr⟩ := F
  exact fun H locs ls hl hP hD hS => lv_icmp_lt hx hb hd ht (fun h => kt h H locs ls hl hP hD hS) (fun h => kf h H locs ls hl hP hD hS)

theorem zn_if_lt (F : zLr X cc nL own) {x : Int32} {off : Int} {tgt : Nat} (hd : decode cc pc = .ok (.ifCond .lt off, 3)) (ht : (pc : Int) + off = (tgt : Int)) (kt : x < 0 → zN X mc ms fr lo B nL tgt lv st ws ck sk) (kf : ¬ (x < 0) → zN X mc ms fr lo B nL (pc + 3) lv st ws ck sk) : zN X mc ms fr lo B nL pc lv (.int x :: st) ws ck sk := by
  obtain ⟨p, l, e, s, m, args, below, meth, c, D, cA, ad, A⟩ := X
  obtain ⟨⟨hx, hb, hml, hown, hts, hlk, hK, hA, hE, htr⟩, hAr⟩ := F
  exact fun H locs ls hl hP hD hS => lv_if_lt hx hb hd ht (fun h => kt h H locs ls hl hP hD hS) (fun h => kf h H locs ls hl hP hD hS)

theorem zn_icmp_ge (F : zLr X cc nL own) {x y : Int32} {off : Int} {tgt : Nat} (hd : decode cc pc = .ok (.if_icmp .ge off, 3)) (ht : (pc : Int) + off = (tgt : Int)) (kt : y ≤ x → zN X mc ms fr lo B nL tgt lv st ws ck sk) (kf : ¬ (y ≤ x) → zN X mc ms fr lo B nL (pc + 3) lv st ws ck sk) : zN X mc ms fr lo B nL pc lv (.int y :: .int x :: st) ws ck sk := by
  obtain ⟨p, l, e, s, m, args, below, meth, c, D, cA, ad, A⟩ := X
  obtain ⟨⟨hx, hb, hml, hown, hts, hlk, hK, hA, hE, htr⟩, hAr⟩ := F
  exact fun H locs ls hl hP hD hS => lv_icmp_ge hx hb hd ht (fun h => kt h H locs ls hl hP hD hS) (fun h => kf h H locs ls hl hP hD hS)

theorem zn_if_ge (F : zLr X cc nL own) {x : Int32} {off : Int} {tgt : Nat} (hd : decode cc pc = .ok (.ifCond .ge off, 3)) (ht : (pc : Int) + off = (tgt : Int)) (kt : 0 ≤ x → zN X mc ms fr lo B nL tgt lv st ws ck sk) (kf : ¬ (0 ≤ x) → zN X mc ms fr lo B nL (pc + 3) lv st ws ck sk) : zN X mc ms fr lo B nL pc lv (.int x :: st) ws ck sk := by
  obtain ⟨p, l, e, s, m, args, below, meth, c, D, cA, ad, A⟩ := X
  obtain ⟨⟨hx, hb, hml, hown, hts, hlk, hK, hA, hE, htr⟩, hAr⟩ := F
  exact fun H locs ls hl hP hD hS => lv_if_ge hx hb hd ht (fun h => kt h H locs ls hl hP hD hS) (fun h => kf h H locs ls hl hP hD hS)

theorem zn_icmp_gt (F : zLr X cc nL own) {x y : Int32} {off : Int} {tgt : Nat} (hd : decode cc pc = .ok (.if_icmp .gt off, 3)) (ht : (pc : Int) + off = (tgt : Int)) (kt : y < x → zN X mc ms fr lo B nL tgt lv st ws ck sk) (kf : ¬ (y < x) → zN X mc ms fr lo B nL (pc + 3) lv st ws ck sk) : zN X mc ms fr lo B nL pc lv (.int y :: .int x :: st) ws ck sk := by
  obtain ⟨p, l, e, s, m, args, below, meth, c, D, cA, ad, A⟩ := X
  obtain ⟨⟨hx, hb, hml, hown, hts, hlk, hK, hA, hE, htr⟩, hAr⟩ := F
  exact fun H locs ls hl hP hD hS => lv_icmp_gt hx hb hd ht (fun h => kt h H locs ls hl hP hD hS) (fun h => kf h H locs ls hl hP hD hS)

theorem zn_if_gt (F : zLr X cc nL own) {x : Int32} {off : Int} {tgt : Nat} (hd : decode cc pc = .ok (.ifCond .gt off, 3)) (ht : (pc : Int) + off = (tgt : Int)) (kt : 0 < x → zN X mc ms fr lo B nL tgt lv st ws ck sk) (kf : ¬ (0 < x) → zN X mc ms fr lo B nL (pc + 3) lv st ws ck sk) : zN X mc ms fr lo B nL pc lv (.int x :: st) ws ck sk := by
  obtain ⟨p, l, e, s, m, args, below, meth, c, D, cA, ad, A⟩ := X
  obtain ⟨⟨hx, hb, hml, hown, hts, hlk, hK, hA, hE, htr⟩, hAr⟩ := F
  exact fun H locs ls hl hP hD hS => lv_if_gt hx hb hd ht (fun h => kt h H locs ls hl hP hD hS) (fun h => kf h H locs ls hl hP hD hS)

theorem zn_icmp_le (F : zLr X cc nL own) {x y : Int32} {off : Int} {tgt : Nat} (hd : decode cc pc = .ok (.if_icmp .le off, 3)) (ht : (pc : Int) + off = (tgt : Int)) (kt : x ≤ y → zN X mc ms fr lo B nL tgt lv st ws ck sk) (kf : ¬ (x ≤ y) → zN X mc ms fr lo B nL (pc + 3) lv st ws ck sk) : zN X mc ms fr lo B nL pc lv (.int y :: .int x :: st) ws ck sk := by
  obtain ⟨p, l, e, s, m, args, below, meth, c, D, cA, ad, A⟩ := X
  obtain ⟨⟨hx, hb, hml, hown, hts, hlk, hK, hA, hE, htr⟩, hAr⟩ := F
  exact fun H locs ls hl hP hD hS => lv_icmp_le hx hb hd ht (fun h => kt h H locs ls hl hP hD hS) (fun h => kf h H locs ls hl hP hD hS)

theorem zn_if_le (F : zLr X cc nL own) {x : Int32} {off : Int} {tgt : Nat} (hd : decode cc pc = .ok (.ifCond .le off, 3)) (ht : (pc : Int) + off = (tgt : Int)) (kt : x ≤ 0 → zN X mc ms fr lo B nL tgt lv st ws ck sk) (kf : ¬ (x ≤ 0) → zN X mc ms fr lo B nL (pc + 3) lv st ws ck sk) : zN X mc ms fr lo B nL pc lv (.int x :: st) ws ck sk := by
  obtain ⟨p, l, e, s, m, args, below, meth, c, D, cA, ad, A⟩ := X
  obtain ⟨⟨hx, hb, hml, hown, hts, hlk, hK, hA, hE, htr⟩, hAr⟩ := F
  exact fun H locs ls hl hP hD hS => lv_if_le hx hb hd ht (fun h => kt h H locs ls hl hP hD hS) (fun h => kf h H locs ls hl hP hD hS)

theorem zn_tableOut (F : zLr X cc nL own) {dflt lw hi : Int} {offs : Array Int} {len tgt : Nat} {x : Int32} (hd : decode cc pc = .ok (.tableswitch dflt lw hi offs, len)) (h : x.toInt < lw ∨ hi < x.toInt) (ht : (pc : Int) + dflt = (tgt : Int)) (kk : zN X mc ms fr lo B nL tgt lv st ws ck sk) : zN X mc ms fr lo B nL pc lv (.int x :: st) ws ck sk := by
  obtain ⟨p, l, e, s, m, args, below, meth, c, D, cA, ad, A⟩ := X
  obtain ⟨⟨hx, hb, hml, hown, hts, hlk, hK, hA, hE, htr⟩, hAr⟩ := F
  exact fun H locs ls hl hP hD hS => lv_tableOut hx hb hd h ht (kk H locs ls hl hP hD hS)
theorem zn_tableIn (F : zLr X cc nL own) {dflt lw hi off : Int} {offs : Array Int} {len tgt : Nat} {x : Int32} (hd : decode cc pc = .ok (.tableswitch dflt lw hi offs, len)) (h1 : ¬ x.toInt < lw) (h2 : ¬ hi < x.toInt) (ho : offs[(x.toInt - lw).toNat]? = some off) (ht : (pc : Int) + off = (tgt : Int)) (kk : zN X mc ms fr lo B nL tgt lv st ws ck sk) : zN X mc ms fr lo B nL pc lv (.int x :: st) ws ck sk := by
  obtain ⟨p, l, e, s, m, args, below, meth, c, D, cA, ad, A⟩ := X
  obtain ⟨⟨hx, hb, hml, hown, hts, hlk, hK, hA, hE, htr⟩, hAr⟩ := F
  exact fun H locs ls hl hP hD hS => lv_tableIn hx hb hd h1 h2 ho ht (kk H locs ls hl hP hD hS)

theorem zn_ireturn (F : zLr X cc nL own) (hr : zRt X (some .int)) {x : Int32} {Bo : Option Value → va_W → Prop} (hd : decode cc pc = .ok (.ireturn, 1)) (hB : Bo (some (.int x)) ws) (hck : ck ≤ mc) (hsk : sk ≤ ms) : zN X mc ms fr lo (zNQ X mc ms Bo) nL pc lv [.int x] ws ck sk := by
  obtain ⟨p, l, e, s, m, args, below, meth, c, D, cA, ad, A⟩ := X
  obtain ⟨⟨hx, hb, hml, hown, hts, hlk, hK, hA, hE, htr⟩, hAr⟩ := F
  intro H locs ls hl hP hD hS
  refine W.widen (k := mc) (n := ms) hck hsk ?_
  exact W.iret hx hb hr (fun t ht hW => ⟨_, rfl, ⟨ws, hB, by rw [ht]; exact hP, hD⟩, hS.F ht⟩) hS.2.2 hd hlk

theorem zn_lreturn (F : zLr X cc nL own) (hr : zRt X (some .long)) {x : Int64} {Bo : Option Value → va_W → Prop} (hd : decode cc pc = .ok (.lreturn, 1)) (hB : Bo (some (.long x)) ws) (hck : ck ≤ mc) (hsk : sk ≤ ms) : zN X mc ms fr lo (zNQ X mc ms Bo) nL pc lv [.long x] ws ck sk := by
  obtain ⟨p, l, e, s, m, args, below, meth, c, D, cA, ad, A⟩ := X
  obtain ⟨⟨hx, hb, hml, hown, hts, hlk, hK, hA, hE, htr⟩, hAr⟩ := F
  intro H locs ls hl hP hD hS
  refine W.widen (k := mc) (n := ms) hck hsk ?_
  exact W.lret hx hb hr (fun t ht hW => ⟨_, rfl, ⟨ws, hB, by rw [ht]; exact hP, hD⟩, hS.F ht⟩) hS.2.2 hd hlk

theorem zn_zreturn (F : zLr X cc nL own) (hr : zRt X (some .boolean)) {x : Int32} {Bo : Option Value → va_W → Prop} (hd : decode cc pc = .ok (.ireturn, 1)) (hn : narrow .boolean (.int x) = .int x) (hB : Bo (some (.int x)) ws) (hck : ck ≤ mc) (hsk : sk ≤ ms) : zN X mc ms fr lo (zNQ X mc ms Bo) nL pc lv [.int x] ws ck sk := by
  obtain ⟨p, l, e, s, m, args, below, meth, c, D, cA, ad, A⟩ := X
  obtain ⟨⟨hx, hb, hml, hown, hts, hlk, hK, hA, hE, htr⟩, hAr⟩ := F
  intro H locs ls hl hP hD hS
  refine W.widen (k := mc) (n := ms) hck hsk ?_
  exact W.zret hx hb hr hn (fun t ht hW => ⟨_, rfl, ⟨ws, hB, by rw [ht]; exact hP, hD⟩, hS.F ht⟩) hS.2.2 hd hlk
theorem zn_iald (F : zLr X cc nL own) {a q0 n : Nat} {f : Nat → Int32} {i : Int32} {jn : Nat} {x : Int32} (hd : decode cc pc = .ok (.iaload, 1)) (ha : ws[q0]? = some (a, .inl (X.2.2.2.2.2.2.2.2.2.2.1 0, n, .inl f))) (hin0 : vp_in i n) (hjn : i.toNatClampNeg = jn) (hx0 : f jn = x) (kk : zN X mc ms fr lo B nL (pc + 1) lv (.int x :: st) ws ck sk) : zN X mc ms fr lo B nL pc lv (.int i :: .ref a :: st) ws ck sk := by
  obtain ⟨p, l, e, s, m, args, below, meth, c, D, cA, ad, A⟩ := X
  obtain ⟨⟨hx, hb, hml, hown, hts, hlk, hK, hA, hE, htr⟩, hAr⟩ := F
  subst hjn; subst hx0
  exact fun H locs ls hl hP hD hS => va_iald hx hb hK hP q0 0 ha (ztl_at (by decide)) hin0 hd (kk H locs ls hl hP hD hS)
theorem zn_copy (F : zLr X cc nL own) {idx q0 q1 a0 a1 n0 n1 : Nat} {f g h : Nat → Int32} {sp dp n : Int32} (hd : decode cc pc = .ok (.invokestatic idx, 3)) (hw : Cond.methodLink own idx arraycopyName ∈ zTg ∧ Cond.native arraycopyName ∈ zTg ∧ Cond.static arraycopyName ∈ zTg ∧ Cond.initialized "java/lang/System" ∈ zTg)
    (ha0 : ws[q0]? = some (a0, .inl (X.2.2.2.2.2.2.2.2.2.2.1 0, n0, .inl f))) (ha1 : ws[q1]? = some (a1, .inl (X.2.2.2.2.2.2.2.2.2.2.1 0, n1, .inl g))) (h1 : ¬ sp < 0) (h2 : ¬ dp < 0) (h3 : ¬ n < 0) (h4 : sp.toNatClampNeg + n.toNatClampNeg ≤ n0) (h5 : dp.toNatClampNeg + n.toNatClampNeg ≤ n1) (hfr : 1 ≤ fr) (hlo : (st.map fun v => v.category).sum + (nativeFrameWords "java/lang/System" "arraycopy" 5 + 11) ≤ lo)
    (hh : va_cpy f g sp.toNatClampNeg dp.toNatClampNeg n.toNatClampNeg = h) (hws : ws.set q1 (a1, .inl (X.2.2.2.2.2.2.2.2.2.2.1 0, n1, .inl h)) = ws') (kk : zN X mc ms fr lo B nL (pc + 3) lv st ws' ck sk) : zN X mc ms fr lo B nL pc lv (.int n :: .int dp :: .ref a1 :: .int sp :: .ref a0 :: st) ws ck sk := by
  obtain ⟨p, l, e, s, m, args, below, meth, c, D, cA, ad, A⟩ := X
  obtain ⟨⟨hx, hb, hml, hown, hts, hlk, hK, hA, hE, htr⟩, hAr⟩ := F
  subst hh; subst hws
  intro H locs ls hl hP hD hS
  exact va_copyi hx hb (hml.trans hl.1.symm) hown (hts _ hw.1) (hts _ hw.2.1) (hts _ hw.2.2.1) (hts _ hw.2.2.2) hK hP hD hS q0 q1 0 0 ha0 ha1 (ty := .int) (ztl_at (by decide)) (ztl_at (by decide)) rfl h1 h2 h3 h4 h5 (fun i _ => rfl) hfr hlo hd fun H1 locs1 hP1 hD1 hS1 => kk H1 locs1 ls hl hP1 hD1 hS1
theorem zn_max (F : zLr X cc nL own) {x y : Int32} {idx : Nat} (hd : decode cc pc = .ok (.invokestatic idx, 3)) (hw : Cond.methodLink own idx Lib.Math.max.name ∈ zTg ∧ Cond.static Lib.Math.max.name ∈ zTg ∧ Cond.initialized "java/lang/Math" ∈ zTg ∧ Cond.code Lib.Math.max.name Lib.Math.max.code 2 (some .int) ∈ zTg) (hfr : 1 ≤ fr) (hlo : (st.map fun v => v.category).sum + 13 ≤ lo) (hck : ck ≤ mc) (hsk : sk ≤ ms) (kk : zN X mc ms fr lo B nL (pc + 3) lv (.int (if x < y then y else x) :: st) ws ck sk) : zN X mc ms fr lo B nL pc lv (.int y :: .int x :: st) ws ck sk := by
  obtain ⟨p, l, e, s, m, args, below, meth, c, D, cA, ad, A⟩ := X
  obtain ⟨⟨hx, hb, hml, hown, hts, hlk, hK, hA, hE, htr⟩, hAr⟩ := F
  exact fun H locs ls hl hP hD hS => va_mmax hx hb (hml.trans hl.1.symm) hown (hts _ hw.1) (hts _ hw.2.1) (hts _ hw.2.2.1) (hts _ hw.2.2.2) hfr hlo hck hsk hd (kk H locs ls hl hP hD hS)
theorem zn_areturn (F : zLr X cc nL own) {C : String} (hr : zRt X (some (.object C))) {a : Nat} {Bo : Option Value → va_W → Prop} (hd : decode cc pc = .ok (.areturn, 1)) (hB : Bo (some (.ref a)) ws) (hck : ck ≤ mc) (hsk : sk ≤ ms) : zN X mc ms fr lo (zNQ X mc ms Bo) nL pc lv [.ref a] ws ck sk := by
  obtain ⟨p, l, e, s, m, args, below, meth, c, D, cA, ad, A⟩ := X
  obtain ⟨⟨hx, hb, hml, hown, hts, hlk, hK, hA, hE, htr⟩, hAr⟩ := F
  intro H locs ls hl hP hD hS
  refine W.widen (k := mc) (n := ms) hck hsk ?_
  exact W.aret hx hb hr (Or.inl ⟨_, rfl⟩) (Or.inr ⟨_, rfl⟩) (fun t ht hW => ⟨_, rfl, ⟨ws, hB, by rw [ht]; exact hP, hD⟩, hS.F ht⟩) hS.2.2 hd hlk
theorem zn_dreturn (F : zLr X cc nL own) (hr : zRt X (some .double)) {x : UInt64} {Bo : Option Value → va_W → Prop} (hd : decode cc pc = .ok (.dreturn, 1)) (hB : Bo (some (.double x)) ws) (hck : ck ≤ mc) (hsk : sk ≤ ms) : zN X mc ms fr lo (zNQ X mc ms Bo) nL pc lv [.double x] ws ck sk := by
  obtain ⟨p, l, e, s, m, args, below, meth, c, D, cA, ad, A⟩ := X
  obtain ⟨⟨hx, hb, hml, hown, hts, hlk, hK, hA, hE, htr⟩, hAr⟩ := F
  intro H locs ls hl hP hD hS
  refine W.widen (k := mc) (n := ms) hck hsk ?_
  exact W.dret hx hb hr (fun t ht hW => ⟨_, rfl, ⟨ws, hB, by rw [ht]; exact hP, hD⟩, hS.F ht⟩) hS.2.2 hd hlk
theorem zn_dconst0 (F : zLr X cc nL own) (hd : decode cc pc = .ok (.dconst 0, 1)) (kk : zN X mc ms fr lo B nL (pc + 1) lv (.double FP.dconst0 :: st) ws ck sk) : zN X mc ms fr lo B nL pc lv st ws ck sk := by
  obtain ⟨p, l, e, s, m, args, below, meth, c, D, cA, ad, A⟩ := X
  obtain ⟨⟨hx, hb, hml, hown, hts, hlk, hK, hA, hE, htr⟩, hAr⟩ := F
  exact fun H locs ls hl hP hD hS => lv_dconst0 hx hb hd (kk H locs ls hl hP hD hS)
theorem zn_dload (F : zLr X cc nL own) {i k : Nat} {x : UInt64} (hd : decode cc pc = .ok (.dload i, 2)) (hL : lv[k]? = some (i, .double x)) (kk : zN X mc ms fr lo B nL (pc + 2) lv (.double x :: st) ws ck sk) : zN X mc ms fr lo B nL pc lv st ws ck sk := by
  obtain ⟨p, l, e, s, m, args, below, meth, c, D, cA, ad, A⟩ := X
  obtain ⟨⟨hx, hb, hml, hown, hts, hlk, hK, hA, hE, htr⟩, hAr⟩ := F
  exact fun H locs ls hl hP hD hS => lv_dload hx hb hd (lv_at hl k hL) (kk H locs ls hl hP hD hS)
theorem zn_dstore (F : zLr X cc nL own) {i : Nat} {x : UInt64} (hd : decode cc pc = .ok (.dstore i, 2)) (hn : i + 1 < nL) (hL : (i, Value.double x) :: lv.filter (fun q => !(q.1 == i) && (!(q.1 == i + 1) && !(q.1 + 1 == i && q.2.category == 2))) = lv') (kk : zN X mc ms fr lo B nL (pc + 2) lv' st ws ck sk) : zN X mc ms fr lo B nL pc lv (.double x :: st) ws ck sk := by
  obtain ⟨p, l, e, s, m, args, below, meth, c, D, cA, ad, A⟩ := X
  obtain ⟨⟨hx, hb, hml, hown, hts, hlk, hK, hA, hE, htr⟩, hAr⟩ := F
  exact fun H locs ls hl hP hD hS => lv_dstore hx hb hd hl hn hL fun ls' h' => kk H locs ls' h' hP hD hS
theorem zn_dcmp (F : zLr X cc nL own) {x y : UInt64} {op : CmpOp} (hd : decode cc pc = .ok (.dcmp op, 1)) (kk : zN X mc ms fr lo B nL (pc + 1) lv (.int (Op.cmpValue (FP.dcmp x y) op) :: st) ws ck sk) : zN X mc ms fr lo B nL pc lv (.double y :: .double x :: st) ws ck sk := by
  obtain ⟨p, l, e, s, m, args, below, meth, c, D, cA, ad, A⟩ := X
  obtain ⟨⟨hx, hb, hml, hown, hts, hlk, hK, hA, hE, htr⟩, hAr⟩ := F
  exact fun H locs ls hl hP hD hS => lv_dcmp hx hb hd (kk H locs ls hl hP hD hS)
theorem zn_alen (F : zLr X cc nL own) {a q0 n t : Nat} {x} {v : Int32} (hd : decode cc pc = .ok (.arraylength, 1)) (ha : ws[q0]? = some (a, .inl (X.2.2.2.2.2.2.2.2.2.2.1 t, n, x))) (ht : t < zTn) (hv : Int32.ofNat n = v) (kk : zN X mc ms fr lo B nL (pc + 1) lv (.int v :: st) ws ck sk) : zN X mc ms fr lo B nL pc lv (.ref a :: st) ws ck sk := by
  obtain ⟨p, l, e, s, m, args, below, meth, c, D, cA, ad, A⟩ := X
  obtain ⟨⟨hx, hb, hml, hown, hts, hlk, hK, hA, hE, htr⟩, hAr⟩ := F
  exact fun H locs ls hl hP hD hS => va_alen hx hb hK hP q0 t ha (ztl_at ht) hv hd (kk H locs ls hl hP hD hS)
theorem zn_aald (F : zLr X cc nL own) {a q0 n b : Nat} {f : Nat → Option Nat} {i : Int32} {jn : Nat} (hd : decode cc pc = .ok (.aaload, 1)) (ha : ws[q0]? = some (a, .inl (X.2.2.2.2.2.2.2.2.2.2.1 4, n, .inr (.inr (.inr (.inr f)))))) (hin0 : vp_in i n) (hjn : i.toNatClampNeg = jn) (hx0 : f jn = some b) (kk : zN X mc ms fr lo B nL (pc + 1) lv (.ref b :: st) ws ck sk) : zN X mc ms fr lo B nL pc lv (.int i :: .ref a :: st) ws ck sk := by
  obtain ⟨p, l, e, s, m, args, below, meth, c, D, cA, ad, A⟩ := X
  obtain ⟨⟨hx, hb, hml, hown, hts, hlk, hK, hA, hE, htr⟩, hAr⟩ := F
  subst hjn
  have hlt : i.toNatClampNeg < n := Nat.not_le.mp fun q => hin0 (Or.inr q)
  exact fun H locs ls hl hP hD hS => W.aald (v := .ref b) (ty := .array .int) hx hb (hP q0 _ ha) ((hK.2 4 _ (ztl_at (by decide))).1 n (fun j => va_rf (f j))) rfl (fun q => by cases q) (by show ¬ (i < 0 ∨ (arrV _ _ _).slots.size ≤ _); rw [arrV_size]; exact hin0) (by show (arrV _ _ _).slots[_]? = _; rw [arrV_read _ _ hlt, hx0]; rfl) rfl rfl hd (kk H locs ls hl hP hD hS)
theorem zn_last (F : zLr X cc nL own) {a q0 n t : Nat} {f : Nat → Int64} {i : Int32} {jn : Nat} {x : Int64} (hd : decode cc pc = .ok (.lastore, 1)) (ha : ws[q0]? = some (a, .inl (X.2.2.2.2.2.2.2.2.2.2.1 t, n, .inr (.inl f)))) (ht : t < zTn) (hty : zty t = .long) (hin0 : vp_in i n) (hjn : i.toNatClampNeg = jn) (hws : ws.set q0 (a, .inl (X.2.2.2.2.2.2.2.2.2.2.1 t, n, .inr (.inl (vp_updL f jn x)))) = ws') (kk : zN X mc ms fr lo B nL (pc + 1) lv st ws' ck sk) : zN X mc ms fr lo B nL pc lv (.long x :: .int i :: .ref a :: st) ws ck sk := by
  obtain ⟨p, l, e, s, m, args, below, meth, c, D, cA, ad, A⟩ := X
  obtain ⟨⟨hx, hb, hml, hown, hts, hlk, hK, hA, hE, htr⟩, hAr⟩ := F
  subst hjn; subst hws
  exact fun H locs ls hl hP hD hS => va_last hx hb hK hP hD hS q0 t ha (by rw [ztl_at ht, hty]) hin0 hd fun H1 locs1 hP1 hD1 hS1 => kk H1 locs1 ls hl hP1 hD1 hS1
theorem zn_lald (F : zLr X cc nL own) {a q0 n t : Nat} {f : Nat → Int64} {i : Int32} {jn : Nat} {x : Int64} (hd : decode cc pc = .ok (.laload, 1)) (ha : ws[q0]? = some (a, .inl (X.2.2.2.2.2.2.2.2.2.2.1 t, n, .inr (.inl f)))) (ht : t < zTn) (hty : zty t = .long) (hin0 : vp_in i n) (hjn : i.toNatClampNeg = jn) (hx0 : f jn = x) (kk : zN X mc ms fr lo B nL (pc + 1) lv (.long x :: st) ws ck sk) : zN X mc ms fr lo B nL pc lv (.int i :: .ref a :: st) ws ck sk := by
  obtain ⟨p, l, e, s, m, args, below, meth, c, D, cA, ad, A⟩ := X
  obtain ⟨⟨hx, hb, hml, hown, hts, hlk, hK, hA, hE, htr⟩, hAr⟩ := F
  subst hjn; subst hx0
  exact fun H locs ls hl hP hD hS => va_lald hx hb hK hP q0 t ha (by rw [ztl_at ht, hty]) hin0 hd (kk H locs ls hl hP hD hS)
theorem zn_newl (F : zLr X cc nL own) {n : Int32} {N t : Nat} (hd : decode cc pc = .ok (.newarray .long, 2)) (hw : Cond.arrayClass .long ∈ zTg) (ht : t < zTn) (hty : zty t = .long) (hn : ¬ n < 0) (hN : n.toNatClampNeg = N) (hb8 : N * 8 ≤ 536870912) (hck : ck + 1 ≤ mc) (hsk : sk + N ≤ ms) (kk : ∀ q : Nat, zN X mc ms fr lo B nL (pc + 2) lv (.ref q :: st) (ws ++ [(q, .inl (X.2.2.2.2.2.2.2.2.2.2.1 t, N, .inr (.inl (fun _ => 0))))]) (ck + 1) (sk + N)) : zN X mc ms fr lo B nL pc lv (.int n :: st) ws ck sk := by
  obtain ⟨p, l, e, s, m, args, below, meth, c, D, cA, ad, A⟩ := X
  obtain ⟨⟨hx, hb, hml, hown, hts, hlk, hK, hA, hE, htr⟩, hAr⟩ := F
  intro H locs ls hl hP hD hS
  refine va_newa hx hb (atype := .long) (hts _ hw) (ty := .long) rfl hK hP hD hS hA (a0 := (N, .inr (.inl (fun _ => 0)))) (fun _ => rfl) hn hN hb8 hck hsk hd fun q cA' H1 hK1 hP1 hD1 hS1 => ?_
  have e1 := (hK.2 t _ (ztl_at ht)).2
  rw [hty] at e1
  have e1 : s.vm.findClass ("[" ++ FieldType.long.toString) = some (cA t) := e1
  have e2 : s.vm.findClass ("[" ++ FieldType.long.toString) = some cA' := (hK1.2 (ztl cA).length (cA', .long) (by rw [List.getElem?_append_right (Nat.le_refl _), Nat.sub_self]; rfl)).2
  cases zcls_eq e1 e2
  exact kk q H1 locs ls hl hP1 hD1 hS1
/-- the cells in any other order -/
theorem zn_perm (h : ws.Perm ws') (kk : zN X mc ms fr lo B nL pc lv st ws' ck sk) : zN X mc ms fr lo B nL pc lv st ws ck sk := by
  obtain ⟨p, l, e, s, m, args, below, meth, c, D, cA, ad, A⟩ := X
  refine fun H locs ls hl hP hD hS => kk H locs ls hl (va_P_perm hP fun x hx => h.mem_iff.mpr hx) ⟨fun i j x y hi hj hxy => ?_, fun k x hx => ?_⟩ hS
  · have hnd : (ws.map Prod.fst).Nodup := by
      unfold List.Nodup
      rw [List.pairwise_iff_getElem]
      intro i j hi hj hij e
      rw [List.length_map] at hi hj
      rw [List.getElem_map, List.getElem_map] at e
      have := hD.1 i j ws[i] ws[j] (List.getElem?_eq_getElem hi) (List.getElem?_eq_getElem hj) e
      omega
    have hnd' : (ws'.map Prod.fst).Nodup := (h.map Prod.fst).nodup_iff.mp hnd
    unfold List.Nodup at hnd'
    rw [List.pairwise_iff_getElem] at hnd'
    obtain ⟨hi1, hi2⟩ := List.getElem?_eq_some_iff.mp hi
    obtain ⟨hj1, hj2⟩ := List.getElem?_eq_some_iff.mp hj
    rcases Nat.lt_trichotomy i j with q | q | q
    · exact absurd (by rw [List.getElem_map, List.getElem_map, hi2, hj2, hxy]) (hnd' i j (by rw [List.length_map]; exact hi1) (by rw [List.length_map]; exact hj1) q)
    · exact q
    · exact absurd (by rw [List.getElem_map, List.getElem_map, hi2, hj2, hxy]) (hnd' j i (by rw [List.length_map]; exact hj1) (by rw [List.length_map]; exact hi1) q)
  · obtain ⟨k, hk⟩ := List.getElem?_of_mem (h.mem_iff.mpr (List.mem_of_getElem? hx))
    exact hD.2 k x hk
end ZNR

