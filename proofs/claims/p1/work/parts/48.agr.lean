/-! ===== one round of the law on the fresh objects ===== -/
section ZLC
variable {X : zX} {cc : ByteArray} {nL : Nat} {own : String} {mc ms fr lo pc ck sk : Nat} {B : State → Prop} {lv : List (Nat × Value)} {st : List Value} {w : va_W}
theorem zn_laldE (F : zLr X cc nL own) {a n t : Nat} {f : Nat → Int64} {i : Int32} {jn : Nat} {x : Int64} (hd : decode cc pc = .ok (.laload, 1)) (ht : t < zTn) (hty : zty t = .long) (hin0 : vp_in i n) (hjn : i.toNatClampNeg = jn) (hx : f jn = x) (kk : zN X mc ms fr lo B nL (pc + 1) lv (.long x :: st) (w ++ [(a, .inl (X.2.2.2.2.2.2.2.2.2.2.1 t, n, .inr (.inl f)))]) ck sk) : zN X mc ms fr lo B nL pc lv (.int i :: .ref a :: st) (w ++ [(a, .inl (X.2.2.2.2.2.2.2.2.2.2.1 t, n, .inr (.inl f)))]) ck sk :=
  zn_lald F (q0 := w.length) hd (by rw [List.getElem?_append_right (Nat.le_refl _), Nat.sub_self]; rfl) ht hty hin0 hjn hx kk
end ZLC
/-- the law's method on the class, and the reference's, answer alike: k which exception, b what -/
def zAgr (yL : MethodName) (cL : ByteArray) (nl : Nat) (hh : List (Nat × Nat × Nat × Nat)) (frL loL : Nat) (yM : MethodName) (cM : ByteArray) (nB : Nat) (as : List Value) (q : Nat) (f : Nat → Int64) (ad1 : zR → Nat) (h0 : Nat) (l : List Nat) : Prop :=
  ∃ (k b : Int32) (mcc msc : Nat) (BL : (Nat → ClassId) → Option Value → va_W → Prop) (fb lb mcr msr : Nat) (BR : (Nat → ClassId) → Option Value → va_W → Prop), (mcc ≤ 1 ∧ msc ≤ 6 ∧ mcr ≤ 30 ∧ msr ≤ 568 ∧ fb ≤ 10 ∧ lb ≤ 330) ∧
    zAw yL cL nl (some .int) hh frL loL mcc msc (.ref (ad1 (0, 0, 0)) :: (as ++ [.ref q])) (fun cA => zwl cA ad1 [(2, [1, 2, 3]), (0, []), (0, []), (1, [])] [zm0, zfr0, zfr0, zm0] ++ [(q, .inl (cA 5, 1, .inr (.inl f)))]) BL ∧
    (∀ cA v ws, BL cA v ws → v = some (.int k) ∧ ∃ (w' : va_W) (f' : Nat → Int64), ws = w' ++ [(q, .inl (cA 5, 1, .inr (.inl f')))] ∧ (k = 0 → f' 0 = b.toInt64)) ∧
    zAl yM cM nB (some .int) fb lb mcr msr (.ref h0 :: as) (fun cA => zwl cA (zadM h0 l) [(4, [1]), (3, [])] [zm0, zfr3]) BR ∧
    (∀ cA v ws, BR cA v ws → v = some (.int b) ∧ ∃ (s : Nat) (tl : va_W), ws = (h0, .inr (10, [.int k, .ref s])) :: tl)
theorem zhd {ws : va_W} {x : Nat × va_E} (h : ws[0]? = some x) : ∃ tl, ws = x :: tl := by
  cases ws with
  | nil => cases h
  | cons y tl => exact ⟨tl, by rw [show y = x from Option.some.inj h]⟩
theorem yfRX11_16t : zFl RX11 16 10 0 := ⟨_, rfl, by decide, zm_f 1060 (by decide +kernel) rfl⟩
theorem zrM_thrown (h0 : Nat) (k : Int32) (s : Nat) : zAl yX11_thrown cX11_thrown 1 (some .int) 1 30 0 0 [.ref h0] (fun _ => [(h0, .inr (10, [.int k, .ref s]))]) (fun _ v ws => v = some (.int k) ∧ ws = [(h0, .inr (10, [.int k, .ref s]))]) := by
  refine zAl_of (by decide) (Nat.le_of_ble_eq_true rfl) fun X F T hex => ?_
  refine zn_aload_n F (i := 0) (k := 0) dX11_thrown_0 rfl rfl ?_
  refine zn_get F (j := 0) (v := .int k) dX11_thrown_1 yfRX11_16t zCl_10 rfl rfl ?_
  exact zn_ireturn F T dX11_thrown_4 ⟨rfl, rfl⟩ (Nat.le_refl _) (Nat.le_refl _)
set_option maxHeartbeats 1000000 in
set_option maxRecDepth 20000 in
theorem zag_string (a1 : Int32) (q : Nat) (f : Nat → Int64) (ad1 : zR → Nat) (h0 : Nat) (l : List Nat) : zAgr yL_string cL_string 4 [(0, 9, 12, 13), (0, 9, 15, 15)] 7 111 yX11_string cX11_string 2 [.int a1] q f ad1 h0 l := by
  rcases q_string a1 with ⟨b, c, e1, e2, e4, e3⟩ | ⟨b, c, e1, e2, e3⟩
  · exact ⟨0, c.1, _, _, _, _, _, _, _, _, ⟨by decide, by decide, by decide, by decide, by decide, by decide⟩, (zwL_string a1 zm0 zfr0 zfr0 zm0 q f ad1 b e1), (fun cA v ws hB => by obtain ⟨rfl, rfl⟩ := hB; exact ⟨rfl, _, _, rfl, fun _ => by rw [e4]; rfl⟩), (zAl_z (v := some (zi c.1)) (as := [zr 0 0 0, zi a1]) (Rg := [(4, [1]), (3, [])]) (Ms := [zm0, zfr3]) (Ms' := [c.2.1, c.2.2]) (zfMO_string a1 zm0 zfr3 _ e2) rfl (zadM h0 l)), (fun cA v ws hB => by obtain ⟨rfl, rfl⟩ := hB; exact ⟨rfl, _, _, (show (_ : va_W) = (h0, Sum.inr (10, [Value.int 0, Value.ref (zadM h0 l (1, 0, 0))])) :: _ by rw [← e3]; rfl)⟩)⟩
  · exact ⟨1, c.1, _, _, _, _, _, _, _, _, ⟨by decide, by decide, by decide, by decide, by decide, by decide⟩, (zwL_string_1 a1 zm0 zfr0 zfr0 zm0 q f ad1 b e1), (fun cA v ws hB => by obtain ⟨rfl, rfl⟩ := hB; exact ⟨rfl, _, f, rfl, fun z => absurd z (by decide)⟩), (zAl_z (v := some (zi c.1)) (as := [zr 0 0 0, zi a1]) (Rg := [(4, [1]), (3, [])]) (Ms := [zm0, zfr3]) (Ms' := [c.2.1, c.2.2]) (zfMO_string a1 zm0 zfr3 _ e2) rfl (zadM h0 l)), (fun cA v ws hB => by obtain ⟨rfl, rfl⟩ := hB; exact ⟨rfl, _, _, (show (_ : va_W) = (h0, Sum.inr (10, [Value.int 1, Value.ref (zadM h0 l (1, 0, 0))])) :: _ by rw [← e3]; rfl)⟩)⟩

set_option maxHeartbeats 1000000 in
set_option maxRecDepth 20000 in
theorem zag_turbine (a1 a2 a3 : Int32) (q : Nat) (f : Nat → Int64) (ad1 : zR → Nat) (h0 : Nat) (l : List Nat) : zAgr yL_turbine cL_turbine 6 [(0, 12, 15, 21), (0, 12, 19, 13), (0, 12, 23, 15)] 8 134 yX11_turbine cX11_turbine 5 [.int a1, .int a2, .int a3] q f ad1 h0 l := by
  obtain ⟨b, c, e1, e2, e3⟩ := q_turbine a1 a2 a3
  exact ⟨1, c.1, _, _, _, _, _, _, _, _, ⟨by decide, by decide, by decide, by decide, by decide, by decide⟩, (zwL_turbine_1 a1 a2 a3 zm0 zfr0 zfr0 zm0 q f ad1 b e1), (fun cA v ws hB => by obtain ⟨rfl, rfl⟩ := hB; exact ⟨rfl, _, f, rfl, fun z => absurd z (by decide)⟩), (zAl_z (v := some (zi c.1)) (as := [zr 0 0 0, zi a1, zi a2, zi a3]) (Rg := [(4, [1]), (3, [])]) (Ms := [zm0, zfr3]) (Ms' := [c.2.1, c.2.2]) (zfMO_turbine a1 a2 a3 zm0 zfr3 _ e2) rfl (zadM h0 l)), (fun cA v ws hB => by obtain ⟨rfl, rfl⟩ := hB; exact ⟨rfl, _, _, (show (_ : va_W) = (h0, Sum.inr (10, [Value.int 1, Value.ref (zadM h0 l (1, 0, 0))])) :: _ by rw [← e3]; rfl)⟩)⟩

set_option maxHeartbeats 1000000 in
set_option maxRecDepth 20000 in
theorem zag_vessel (a1 : Int32) (q : Nat) (f : Nat → Int64) (ad1 : zR → Nat) (h0 : Nat) (l : List Nat) : zAgr yL_vessel cL_vessel 4 [(0, 9, 12, 13), (0, 9, 15, 15)] 7 111 yX11_vessel cX11_vessel 3 [.int a1] q f ad1 h0 l := by
  rcases q_vessel a1 with ⟨h, b, e1, e4⟩ | ⟨b, c, e1, e2, e3⟩
  · exact ⟨0, 0, _, _, _, _, _, _, _, _, ⟨by decide, by decide, by decide, by decide, by decide, by decide⟩, (zwL_vessel a1 zm0 zfr0 zfr0 zm0 q f ad1 b e1), (fun cA v ws hB => by obtain ⟨rfl, rfl⟩ := hB; exact ⟨rfl, _, _, rfl, fun _ => by rw [← e4]; rfl⟩), zrM_vessel a1 h0 l h, (fun cA v ws hB => by obtain ⟨h1, s, h2⟩ := hB; obtain ⟨tl, h3⟩ := zhd h2; exact ⟨h1, s, tl, h3⟩)⟩
  · exact ⟨1, c.1, _, _, _, _, _, _, _, _, ⟨by decide, by decide, by decide, by decide, by decide, by decide⟩, (zwL_vessel_1 a1 zm0 zfr0 zfr0 zm0 q f ad1 b e1), (fun cA v ws hB => by obtain ⟨rfl, rfl⟩ := hB; exact ⟨rfl, _, f, rfl, fun z => absurd z (by decide)⟩), (zAl_z (v := some (zi c.1)) (as := [zr 0 0 0, zi a1]) (Rg := [(4, [1]), (3, [])]) (Ms := [zm0, zfr3]) (Ms' := [c.2, zfr3]) (zfMO_vessel a1 zm0 zfr3 _ e2) rfl (zadM h0 l)), (fun cA v ws hB => by obtain ⟨rfl, rfl⟩ := hB; exact ⟨rfl, _, _, (show (_ : va_W) = (h0, Sum.inr (10, [Value.int 1, Value.ref (zadM h0 l (1, 0, 0))])) :: _ by rw [← e3]; rfl)⟩)⟩

set_option maxHeartbeats 1000000 in
set_option maxRecDepth 20000 in
theorem zag_nominate (a1 a2 : Int32) (q : Nat) (f : Nat → Int64) (ad1 : zR → Nat) (h0 : Nat) (l : List Nat) : zAgr yL_nominate cL_nominate 5 [(0, 10, 13, 13)] 7 112 yX11_nominate cX11_nominate 3 [.int a1, .int a2] q f ad1 h0 l := by
  rcases q_nominate a1 a2 with ⟨b, c, e1, e2, e4, e3⟩ | ⟨b, c, e1, e2, e3⟩
  · exact ⟨0, c.1, _, _, _, _, _, _, _, _, ⟨by decide, by decide, by decide, by decide, by decide, by decide⟩, (zwL_nominate a1 a2 zm0 zfr0 zfr0 zm0 q f ad1 b e1), (fun cA v ws hB => by obtain ⟨rfl, rfl⟩ := hB; exact ⟨rfl, _, _, rfl, fun _ => by rw [e4]; rfl⟩), (zAl_z (v := some (zi c.1)) (as := [zr 0 0 0, zi a1, zi a2]) (Rg := [(4, [1]), (3, [])]) (Ms := [zm0, zfr3]) (Ms' := [c.2.1, c.2.2]) (zfMO_nominate a1 a2 zm0 zfr3 _ e2) rfl (zadM h0 l)), (fun cA v ws hB => by obtain ⟨rfl, rfl⟩ := hB; exact ⟨rfl, _, _, (show (_ : va_W) = (h0, Sum.inr (10, [Value.int 0, Value.ref (zadM h0 l (1, 0, 0))])) :: _ by rw [← e3]; rfl)⟩)⟩
  · exact ⟨1, c.1, _, _, _, _, _, _, _, _, ⟨by decide, by decide, by decide, by decide, by decide, by decide⟩, (zwL_nominate_1 a1 a2 zm0 zfr0 zfr0 zm0 q f ad1 b e1), (fun cA v ws hB => by obtain ⟨rfl, rfl⟩ := hB; exact ⟨rfl, _, f, rfl, fun z => absurd z (by decide)⟩), (zAl_z (v := some (zi c.1)) (as := [zr 0 0 0, zi a1, zi a2]) (Rg := [(4, [1]), (3, [])]) (Ms := [zm0, zfr3]) (Ms' := [c.2.1, c.2.2]) (zfMO_nominate a1 a2 zm0 zfr3 _ e2) rfl (zadM h0 l)), (fun cA v ws hB => by obtain ⟨rfl, rfl⟩ := hB; exact ⟨rfl, _, _, (show (_ : va_W) = (h0, Sum.inr (10, [Value.int 1, Value.ref (zadM h0 l (1, 0, 0))])) :: _ by rw [← e3]; rfl)⟩)⟩

set_option maxHeartbeats 1000000 in
set_option maxRecDepth 20000 in
theorem zag_blow (a1 a2 a3 a4 a5 a6 : Int32) (q : Nat) (f : Nat → Int64) (ad1 : zR → Nat) (h0 : Nat) (l : List Nat) : zAgr yL_blow cL_blow 9 [(0, 18, 21, 13)] 7 159 yX11_blow cX11_blow 7 [.int a1, .int a2, .int a3, .int a4, .int a5, .int a6] q f ad1 h0 l := by
  rcases q_blow a1 a2 a3 a4 a5 a6 with ⟨b, c, e1, e2, e4, e3⟩ | ⟨b, c, e1, e2, e3⟩
  · exact ⟨0, c.1, _, _, _, _, _, _, _, _, ⟨by decide, by decide, by decide, by decide, by decide, by decide⟩, (zwL_blow a1 a2 a3 a4 a5 a6 zm0 zfr0 zfr0 zm0 q f ad1 b e1), (fun cA v ws hB => by obtain ⟨rfl, rfl⟩ := hB; exact ⟨rfl, _, _, rfl, fun _ => by rw [e4]; rfl⟩), (zAl_z (v := some (zi c.1)) (as := [zr 0 0 0, zi a1, zi a2, zi a3, zi a4, zi a5, zi a6]) (Rg := [(4, [1]), (3, [])]) (Ms := [zm0, zfr3]) (Ms' := [c.2.1, c.2.2]) (zfMO_blow a1 a2 a3 a4 a5 a6 zm0 zfr3 _ e2) rfl (zadM h0 l)), (fun cA v ws hB => by obtain ⟨rfl, rfl⟩ := hB; exact ⟨rfl, _, _, (show (_ : va_W) = (h0, Sum.inr (10, [Value.int 0, Value.ref (zadM h0 l (1, 0, 0))])) :: _ by rw [← e3]; rfl)⟩)⟩
  · exact ⟨1, c.1, _, _, _, _, _, _, _, _, ⟨by decide, by decide, by decide, by decide, by decide, by decide⟩, (zwL_blow_1 a1 a2 a3 a4 a5 a6 zm0 zfr0 zfr0 zm0 q f ad1 b e1), (fun cA v ws hB => by obtain ⟨rfl, rfl⟩ := hB; exact ⟨rfl, _, f, rfl, fun z => absurd z (by decide)⟩), (zAl_z (v := some (zi c.1)) (as := [zr 0 0 0, zi a1, zi a2, zi a3, zi a4, zi a5, zi a6]) (Rg := [(4, [1]), (3, [])]) (Ms := [zm0, zfr3]) (Ms' := [c.2.1, c.2.2]) (zfMO_blow a1 a2 a3 a4 a5 a6 zm0 zfr3 _ e2) rfl (zadM h0 l)), (fun cA v ws hB => by obtain ⟨rfl, rfl⟩ := hB; exact ⟨rfl, _, _, (show (_ : va_W) = (h0, Sum.inr (10, [Value.int 1, Value.ref (zadM h0 l (1, 0, 0))])) :: _ by rw [← e3]; rfl)⟩)⟩

set_option maxHeartbeats 1000000 in
set_option maxRecDepth 20000 in
theorem zag_turn (a1 a2 : Int32) (q : Nat) (f : Nat → Int64) (ad1 : zR → Nat) (h0 : Nat) (l : List Nat) : zAgr yL_turn cL_turn 5 [(0, 10, 13, 21), (0, 10, 17, 13)] 8 135 yX11_turn cX11_turn 4 [.int a1, .int a2] q f ad1 h0 l := by
  obtain ⟨b, c, e1, e2, e3⟩ := q_turn a1 a2
  exact ⟨1, c.1, _, _, _, _, _, _, _, _, ⟨by decide, by decide, by decide, by decide, by decide, by decide⟩, (zwL_turn_1 a1 a2 zm0 zfr0 zfr0 zm0 q f ad1 b e1), (fun cA v ws hB => by obtain ⟨rfl, rfl⟩ := hB; exact ⟨rfl, _, f, rfl, fun z => absurd z (by decide)⟩), (zAl_z (v := some (zi c.1)) (as := [zr 0 0 0, zi a1, zi a2]) (Rg := [(4, [1]), (3, [])]) (Ms := [zm0, zfr3]) (Ms' := [c.2.1, c.2.2]) (zfMO_turn a1 a2 zm0 zfr3 _ e2) rfl (zadM h0 l)), (fun cA v ws hB => by obtain ⟨rfl, rfl⟩ := hB; exact ⟨rfl, _, _, (show (_ : va_W) = (h0, Sum.inr (10, [Value.int 1, Value.ref (zadM h0 l (1, 0, 0))])) :: _ by rw [← e3]; rfl)⟩)⟩

set_option maxHeartbeats 1000000 in
set_option maxRecDepth 20000 in
theorem zag_call (a1 a2 : Int32) (q : Nat) (f : Nat → Int64) (ad1 : zR → Nat) (h0 : Nat) (l : List Nat) : zAgr yL_call cL_call 5 [(0, 10, 13, 21), (0, 10, 17, 15)] 8 135 yX11_call cX11_call 6 [.int a1, .int a2] q f ad1 h0 l := by
  obtain ⟨b, c, e1, e2, e3⟩ := q_call a1 a2
  exact ⟨1, c.1, _, _, _, _, _, _, _, _, ⟨by decide, by decide, by decide, by decide, by decide, by decide⟩, (zwL_call_1 a1 a2 zm0 zfr0 zfr0 zm0 q f ad1 b e1), (fun cA v ws hB => by obtain ⟨rfl, rfl⟩ := hB; exact ⟨rfl, _, f, rfl, fun z => absurd z (by decide)⟩), (zAl_z (v := some (zi c.1)) (as := [zr 0 0 0, zi a1, zi a2]) (Rg := [(4, [1]), (3, [])]) (Ms := [zm0, zfr3]) (Ms' := [c.2.1, c.2.2]) (zfMO_call a1 a2 zm0 zfr3 _ e2) rfl (zadM h0 l)), (fun cA v ws hB => by obtain ⟨rfl, rfl⟩ := hB; exact ⟨rfl, _, _, (show (_ : va_W) = (h0, Sum.inr (10, [Value.int 1, Value.ref (zadM h0 l (1, 0, 0))])) :: _ by rw [← e3]; rfl)⟩)⟩

set_option maxHeartbeats 1000000 in
set_option maxRecDepth 20000 in
theorem zag_floor (a1 : Int32) (q : Nat) (f : Nat → Int64) (ad1 : zR → Nat) (h0 : Nat) (l : List Nat) : zAgr yL_floor cL_floor 4 [(0, 9, 12, 13)] 7 112 yX11_floor cX11_floor 3 [.int a1] q f ad1 h0 l := by
  rcases q_floor a1 with ⟨b, c, e1, e2, e4, e3⟩ | ⟨b, c, e1, e2, e3⟩
  · exact ⟨0, c.1, _, _, _, _, _, _, _, _, ⟨by decide, by decide, by decide, by decide, by decide, by decide⟩, (zwL_floor a1 zm0 zfr0 zfr0 zm0 q f ad1 b e1), (fun cA v ws hB => by obtain ⟨rfl, rfl⟩ := hB; exact ⟨rfl, _, _, rfl, fun _ => by rw [e4]; rfl⟩), (zAl_z (v := some (zi c.1)) (as := [zr 0 0 0, zi a1]) (Rg := [(4, [1]), (3, [])]) (Ms := [zm0, zfr3]) (Ms' := [c.2.1, c.2.2]) (zfMO_floor a1 zm0 zfr3 _ e2) rfl (zadM h0 l)), (fun cA v ws hB => by obtain ⟨rfl, rfl⟩ := hB; exact ⟨rfl, _, _, (show (_ : va_W) = (h0, Sum.inr (10, [Value.int 0, Value.ref (zadM h0 l (1, 0, 0))])) :: _ by rw [← e3]; rfl)⟩)⟩
  · exact ⟨1, c.1, _, _, _, _, _, _, _, _, ⟨by decide, by decide, by decide, by decide, by decide, by decide⟩, (zwL_floor_1 a1 zm0 zfr0 zfr0 zm0 q f ad1 b e1), (fun cA v ws hB => by obtain ⟨rfl, rfl⟩ := hB; exact ⟨rfl, _, f, rfl, fun z => absurd z (by decide)⟩), (zAl_z (v := some (zi c.1)) (as := [zr 0 0 0, zi a1]) (Rg := [(4, [1]), (3, [])]) (Ms := [zm0, zfr3]) (Ms' := [c.2.1, c.2.2]) (zfMO_floor a1 zm0 zfr3 _ e2) rfl (zadM h0 l)), (fun cA v ws hB => by obtain ⟨rfl, rfl⟩ := hB; exact ⟨rfl, _, _, (show (_ : va_W) = (h0, Sum.inr (10, [Value.int 1, Value.ref (zadM h0 l (1, 0, 0))])) :: _ by rw [← e3]; rfl)⟩)⟩

set_option maxHeartbeats 1000000 in
set_option maxRecDepth 20000 in
theorem zag_sail (a1 a2 : Int32) (q : Nat) (f : Nat → Int64) (ad1 : zR → Nat) (h0 : Nat) (l : List Nat) : zAgr yL_sail cL_sail 5 [(0, 10, 13, 21), (0, 10, 17, 15)] 8 135 yX11_sail cX11_sail 6 [.int a1, .int a2] q f ad1 h0 l := by
  obtain ⟨b, c, e1, e2, e3⟩ := q_sail a1 a2
  exact ⟨1, c.1, _, _, _, _, _, _, _, _, ⟨by decide, by decide, by decide, by decide, by decide, by decide⟩, (zwL_sail_1 a1 a2 zm0 zfr0 zfr0 zm0 q f ad1 b e1), (fun cA v ws hB => by obtain ⟨rfl, rfl⟩ := hB; exact ⟨rfl, _, f, rfl, fun z => absurd z (by decide)⟩), (zAl_z (v := some (zi c.1)) (as := [zr 0 0 0, zi a1, zi a2]) (Rg := [(4, [1]), (3, [])]) (Ms := [zm0, zfr3]) (Ms' := [c.2.1, c.2.2]) (zfMO_sail a1 a2 zm0 zfr3 _ e2) rfl (zadM h0 l)), (fun cA v ws hB => by obtain ⟨rfl, rfl⟩ := hB; exact ⟨rfl, _, _, (show (_ : va_W) = (h0, Sum.inr (10, [Value.int 1, Value.ref (zadM h0 l (1, 0, 0))])) :: _ by rw [← e3]; rfl)⟩)⟩

set_option maxHeartbeats 1000000 in
set_option maxRecDepth 20000 in
theorem zag_lock (a1 a2 : Int32) (q : Nat) (f : Nat → Int64) (ad1 : zR → Nat) (h0 : Nat) (l : List Nat) : zAgr yL_lock cL_lock 5 [(0, 10, 13, 21), (0, 10, 17, 15)] 8 135 yX11_lock cX11_lock 5 [.int a1, .int a2] q f ad1 h0 l := by
  obtain ⟨b, c, e1, e2, e3⟩ := q_lock a1 a2
  exact ⟨1, c.1, _, _, _, _, _, _, _, _, ⟨by decide, by decide, by decide, by decide, by decide, by decide⟩, (zwL_lock_1 a1 a2 zm0 zfr0 zfr0 zm0 q f ad1 b e1), (fun cA v ws hB => by obtain ⟨rfl, rfl⟩ := hB; exact ⟨rfl, _, f, rfl, fun z => absurd z (by decide)⟩), (zAl_z (v := some (zi c.1)) (as := [zr 0 0 0, zi a1, zi a2]) (Rg := [(4, [1]), (3, [])]) (Ms := [zm0, zfr3]) (Ms' := [c.2.1, c.2.2]) (zfMO_lock a1 a2 zm0 zfr3 _ e2) rfl (zadM h0 l)), (fun cA v ws hB => by obtain ⟨rfl, rfl⟩ := hB; exact ⟨rfl, _, _, (show (_ : va_W) = (h0, Sum.inr (10, [Value.int 1, Value.ref (zadM h0 l (1, 0, 0))])) :: _ by rw [← e3]; rfl)⟩)⟩

set_option maxHeartbeats 1000000 in
set_option maxRecDepth 20000 in
theorem zag_climb (a1 a2 : Int32) (q : Nat) (f : Nat → Int64) (ad1 : zR → Nat) (h0 : Nat) (l : List Nat) : zAgr yL_climb cL_climb 5 [(0, 10, 13, 21)] 8 134 yX11_climb cX11_climb 4 [.int a1, .int a2] q f ad1 h0 l := by
  obtain ⟨b, c, e1, e2, e3⟩ := q_climb a1 a2
  exact ⟨1, c.1, _, _, _, _, _, _, _, _, ⟨by decide, by decide, by decide, by decide, by decide, by decide⟩, (zwL_climb_1 a1 a2 zm0 zfr0 zfr0 zm0 q f ad1 b e1), (fun cA v ws hB => by obtain ⟨rfl, rfl⟩ := hB; exact ⟨rfl, _, f, rfl, fun z => absurd z (by decide)⟩), (zAl_z (v := some (zi c.1)) (as := [zr 0 0 0, zi a1, zi a2]) (Rg := [(4, [1]), (3, [])]) (Ms := [zm0, zfr3]) (Ms' := [c.2.1, c.2.2]) (zfMO_climb a1 a2 zm0 zfr3 _ e2) rfl (zadM h0 l)), (fun cA v ws hB => by obtain ⟨rfl, rfl⟩ := hB; exact ⟨rfl, _, _, (show (_ : va_W) = (h0, Sum.inr (10, [Value.int 1, Value.ref (zadM h0 l (1, 0, 0))])) :: _ by rw [← e3]; rfl)⟩)⟩

set_option maxHeartbeats 1000000 in
set_option maxRecDepth 20000 in
theorem zag_down (a1 : Int32) (q : Nat) (f : Nat → Int64) (ad1 : zR → Nat) (h0 : Nat) (l : List Nat) : zAgr yL_down cL_down 4 [(0, 9, 12, 21), (0, 9, 15, 15)] 8 133 yX11_down cX11_down 4 [.int a1] q f ad1 h0 l := by
  obtain ⟨b, c, e1, e2, e3⟩ := q_down a1
  exact ⟨1, c.1, _, _, _, _, _, _, _, _, ⟨by decide, by decide, by decide, by decide, by decide, by decide⟩, (zwL_down_1 a1 zm0 zfr0 zfr0 zm0 q f ad1 b e1), (fun cA v ws hB => by obtain ⟨rfl, rfl⟩ := hB; exact ⟨rfl, _, f, rfl, fun z => absurd z (by decide)⟩), (zAl_z (v := some (zi c.1)) (as := [zr 0 0 0, zi a1]) (Rg := [(4, [1]), (3, [])]) (Ms := [zm0, zfr3]) (Ms' := [c.2.1, c.2.2]) (zfMO_down a1 zm0 zfr3 _ e2) rfl (zadM h0 l)), (fun cA v ws hB => by obtain ⟨rfl, rfl⟩ := hB; exact ⟨rfl, _, _, (show (_ : va_W) = (h0, Sum.inr (10, [Value.int 1, Value.ref (zadM h0 l (1, 0, 0))])) :: _ by rw [← e3]; rfl)⟩)⟩

set_option maxHeartbeats 1000000 in
set_option maxRecDepth 20000 in
theorem zag_ofTurbine (a1 a2 : Int32) (q : Nat) (f : Nat → Int64) (ad1 : zR → Nat) (h0 : Nat) (l : List Nat) : zAgr yL_ofTurbine cL_ofTurbine 5 [(0, 10, 13, 21), (0, 10, 17, 13)] 8 134 yX11_ofTurbine cX11_ofTurbine 3 [.int a1, .int a2] q f ad1 h0 l := by
  obtain ⟨c, e1, e2, e3⟩ := q_ofTurbine a1 a2
  exact ⟨1, c.1, _, _, _, _, _, _, _, _, ⟨by decide, by decide, by decide, by decide, by decide, by decide⟩, (zwL_ofTurbine_1 a1 a2 zm0 zfr0 zfr0 zm0 q f ad1 e1), (fun cA v ws hB => by obtain ⟨rfl, rfl⟩ := hB; exact ⟨rfl, _, f, rfl, fun z => absurd z (by decide)⟩), (zAl_z (v := some (zi c.1)) (as := [zr 0 0 0, zi a1, zi a2]) (Rg := [(4, [1]), (3, [])]) (Ms := [zm0, zfr3]) (Ms' := [c.2, zfr3]) (zfMO_ofTurbine a1 a2 zm0 zfr3 _ e2) rfl (zadM h0 l)), (fun cA v ws hB => by obtain ⟨rfl, rfl⟩ := hB; exact ⟨rfl, _, _, (show (_ : va_W) = (h0, Sum.inr (10, [Value.int 1, Value.ref (zadM h0 l (1, 0, 0))])) :: _ by rw [← e3]; rfl)⟩)⟩

set_option maxHeartbeats 1000000 in
set_option maxRecDepth 20000 in
theorem zag_wear (a1 a2 : Int32) (q : Nat) (f : Nat → Int64) (ad1 : zR → Nat) (h0 : Nat) (l : List Nat) : zAgr yL_wear cL_wear 5 [(0, 10, 13, 21)] 8 133 yX11_wear cX11_wear 3 [.int a1, .int a2] q f ad1 h0 l := by
  obtain ⟨c, e1, e2, e3⟩ := q_wear a1 a2
  exact ⟨1, c.1, _, _, _, _, _, _, _, _, ⟨by decide, by decide, by decide, by decide, by decide, by decide⟩, (zwL_wear_1 a1 a2 zm0 zfr0 zfr0 zm0 q f ad1 e1), (fun cA v ws hB => by obtain ⟨rfl, rfl⟩ := hB; exact ⟨rfl, _, f, rfl, fun z => absurd z (by decide)⟩), (zAl_z (v := some (zi c.1)) (as := [zr 0 0 0, zi a1, zi a2]) (Rg := [(4, [1]), (3, [])]) (Ms := [zm0, zfr3]) (Ms' := [c.2, zfr3]) (zfMO_wear a1 a2 zm0 zfr3 _ e2) rfl (zadM h0 l)), (fun cA v ws hB => by obtain ⟨rfl, rfl⟩ := hB; exact ⟨rfl, _, _, (show (_ : va_W) = (h0, Sum.inr (10, [Value.int 1, Value.ref (zadM h0 l (1, 0, 0))])) :: _ by rw [← e3]; rfl)⟩)⟩

set_option maxHeartbeats 1000000 in
set_option maxRecDepth 20000 in
theorem zag_lost (a1 a2 : Int32) (q : Nat) (f : Nat → Int64) (ad1 : zR → Nat) (h0 : Nat) (l : List Nat) : zAgr yL_lost cL_lost 5 [(0, 10, 13, 21)] 8 133 yX11_lost cX11_lost 3 [.int a1, .int a2] q f ad1 h0 l := by
  obtain ⟨c, e1, e2, e3⟩ := q_lost a1 a2
  exact ⟨1, c.1, _, _, _, _, _, _, _, _, ⟨by decide, by decide, by decide, by decide, by decide, by decide⟩, (zwL_lost_1 a1 a2 zm0 zfr0 zfr0 zm0 q f ad1 e1), (fun cA v ws hB => by obtain ⟨rfl, rfl⟩ := hB; exact ⟨rfl, _, f, rfl, fun z => absurd z (by decide)⟩), (zAl_z (v := some (zi c.1)) (as := [zr 0 0 0, zi a1, zi a2]) (Rg := [(4, [1]), (3, [])]) (Ms := [zm0, zfr3]) (Ms' := [c.2, zfr3]) (zfMO_lost a1 a2 zm0 zfr3 _ e2) rfl (zadM h0 l)), (fun cA v ws hB => by obtain ⟨rfl, rfl⟩ := hB; exact ⟨rfl, _, _, (show (_ : va_W) = (h0, Sum.inr (10, [Value.int 1, Value.ref (zadM h0 l (1, 0, 0))])) :: _ by rw [← e3]; rfl)⟩)⟩

set_option maxHeartbeats 1000000 in
set_option maxRecDepth 20000 in
theorem zag_wake (a1 a2 : Int32) (q : Nat) (f : Nat → Int64) (ad1 : zR → Nat) (h0 : Nat) (l : List Nat) : zAgr yL_wake cL_wake 5 [(0, 10, 13, 21)] 8 133 yX11_wake cX11_wake 3 [.int a1, .int a2] q f ad1 h0 l := by
  obtain ⟨c, e1, e2, e3⟩ := q_wake a1 a2
  exact ⟨1, c.1, _, _, _, _, _, _, _, _, ⟨by decide, by decide, by decide, by decide, by decide, by decide⟩, (zwL_wake_1 a1 a2 zm0 zfr0 zfr0 zm0 q f ad1 e1), (fun cA v ws hB => by obtain ⟨rfl, rfl⟩ := hB; exact ⟨rfl, _, f, rfl, fun z => absurd z (by decide)⟩), (zAl_z (v := some (zi c.1)) (as := [zr 0 0 0, zi a1, zi a2]) (Rg := [(4, [1]), (3, [])]) (Ms := [zm0, zfr3]) (Ms' := [c.2, zfr3]) (zfMO_wake a1 a2 zm0 zfr3 _ e2) rfl (zadM h0 l)), (fun cA v ws hB => by obtain ⟨rfl, rfl⟩ := hB; exact ⟨rfl, _, _, (show (_ : va_W) = (h0, Sum.inr (10, [Value.int 1, Value.ref (zadM h0 l (1, 0, 0))])) :: _ by rw [← e3]; rfl)⟩)⟩

set_option maxHeartbeats 1000000 in
set_option maxRecDepth 20000 in
theorem zag_extreme (a1 a2 : Int32) (q : Nat) (f : Nat → Int64) (ad1 : zR → Nat) (h0 : Nat) (l : List Nat) : zAgr yL_extreme cL_extreme 5 [(0, 10, 13, 21)] 8 134 yX11_extreme cX11_extreme 3 [.int a1, .int a2] q f ad1 h0 l := by
  obtain ⟨c, e1, e2, e3⟩ := q_extreme a1 a2
  exact ⟨1, c.1, _, _, _, _, _, _, _, _, ⟨by decide, by decide, by decide, by decide, by decide, by decide⟩, (zwL_extreme_1 a1 a2 zm0 zfr0 zfr0 zm0 q f ad1 e1), (fun cA v ws hB => by obtain ⟨rfl, rfl⟩ := hB; exact ⟨rfl, _, f, rfl, fun z => absurd z (by decide)⟩), (zAl_z (v := some (zi c.1)) (as := [zr 0 0 0, zi a1, zi a2]) (Rg := [(4, [1]), (3, [])]) (Ms := [zm0, zfr3]) (Ms' := [c.2, zfr3]) (zfMO_extreme a1 a2 zm0 zfr3 _ e2) rfl (zadM h0 l)), (fun cA v ws hB => by obtain ⟨rfl, rfl⟩ := hB; exact ⟨rfl, _, _, (show (_ : va_W) = (h0, Sum.inr (10, [Value.int 1, Value.ref (zadM h0 l (1, 0, 0))])) :: _ by rw [← e3]; rfl)⟩)⟩

set_option maxHeartbeats 1000000 in
set_option maxRecDepth 20000 in
theorem zag_ofString (a1 a2 : Int32) (q : Nat) (f : Nat → Int64) (ad1 : zR → Nat) (h0 : Nat) (l : List Nat) : zAgr yL_ofString cL_ofString 5 [(0, 10, 13, 21), (0, 10, 17, 13)] 8 134 yX11_ofString cX11_ofString 3 [.int a1, .int a2] q f ad1 h0 l := by
  obtain ⟨c, e1, e2, e3⟩ := q_ofString a1 a2
  exact ⟨1, c.1, _, _, _, _, _, _, _, _, ⟨by decide, by decide, by decide, by decide, by decide, by decide⟩, (zwL_ofString_1 a1 a2 zm0 zfr0 zfr0 zm0 q f ad1 e1), (fun cA v ws hB => by obtain ⟨rfl, rfl⟩ := hB; exact ⟨rfl, _, f, rfl, fun z => absurd z (by decide)⟩), (zAl_z (v := some (zi c.1)) (as := [zr 0 0 0, zi a1, zi a2]) (Rg := [(4, [1]), (3, [])]) (Ms := [zm0, zfr3]) (Ms' := [c.2, zfr3]) (zfMO_ofString a1 a2 zm0 zfr3 _ e2) rfl (zadM h0 l)), (fun cA v ws hB => by obtain ⟨rfl, rfl⟩ := hB; exact ⟨rfl, _, _, (show (_ : va_W) = (h0, Sum.inr (10, [Value.int 1, Value.ref (zadM h0 l (1, 0, 0))])) :: _ by rw [← e3]; rfl)⟩)⟩

set_option maxHeartbeats 1000000 in
set_option maxRecDepth 20000 in
theorem zag_ofVessel (a1 a2 : Int32) (q : Nat) (f : Nat → Int64) (ad1 : zR → Nat) (h0 : Nat) (l : List Nat) : zAgr yL_ofVessel cL_ofVessel 5 [(0, 10, 13, 21), (0, 10, 17, 13)] 8 134 yX11_ofVessel cX11_ofVessel 3 [.int a1, .int a2] q f ad1 h0 l := by
  obtain ⟨c, e1, e2, e3⟩ := q_ofVessel a1 a2
  exact ⟨1, c.1, _, _, _, _, _, _, _, _, ⟨by decide, by decide, by decide, by decide, by decide, by decide⟩, (zwL_ofVessel_1 a1 a2 zm0 zfr0 zfr0 zm0 q f ad1 e1), (fun cA v ws hB => by obtain ⟨rfl, rfl⟩ := hB; exact ⟨rfl, _, f, rfl, fun z => absurd z (by decide)⟩), (zAl_z (v := some (zi c.1)) (as := [zr 0 0 0, zi a1, zi a2]) (Rg := [(4, [1]), (3, [])]) (Ms := [zm0, zfr3]) (Ms' := [c.2, zfr3]) (zfMO_ofVessel a1 a2 zm0 zfr3 _ e2) rfl (zadM h0 l)), (fun cA v ws hB => by obtain ⟨rfl, rfl⟩ := hB; exact ⟨rfl, _, _, (show (_ : va_W) = (h0, Sum.inr (10, [Value.int 1, Value.ref (zadM h0 l (1, 0, 0))])) :: _ by rw [← e3]; rfl)⟩)⟩

set_option maxHeartbeats 1000000 in
set_option maxRecDepth 20000 in
theorem zag_many (a1 : Int32) (q : Nat) (f : Nat → Int64) (ad1 : zR → Nat) (h0 : Nat) (l : List Nat) : zAgr yL_many cL_many 4 [(0, 9, 12, 13)] 7 111 yX11_many cX11_many 2 [.int a1] q f ad1 h0 l := by
  rcases q_many a1 with ⟨b, c, e1, e2, e4, e3⟩ | ⟨c, e1, e2, e3⟩
  · exact ⟨0, c.1, _, _, _, _, _, _, _, _, ⟨by decide, by decide, by decide, by decide, by decide, by decide⟩, (zwL_many a1 zm0 zfr0 zfr0 zm0 q f ad1 b e1), (fun cA v ws hB => by obtain ⟨rfl, rfl⟩ := hB; exact ⟨rfl, _, _, rfl, fun _ => by rw [e4]; rfl⟩), (zAl_z (v := some (zi c.1)) (as := [zr 0 0 0, zi a1]) (Rg := [(4, [1]), (3, [])]) (Ms := [zm0, zfr3]) (Ms' := [c.2, zfr3]) (zfMO_many a1 zm0 zfr3 _ e2) rfl (zadM h0 l)), (fun cA v ws hB => by obtain ⟨rfl, rfl⟩ := hB; exact ⟨rfl, _, _, (show (_ : va_W) = (h0, Sum.inr (10, [Value.int 0, Value.ref (zadM h0 l (1, 0, 0))])) :: _ by rw [← e3]; rfl)⟩)⟩
  · exact ⟨1, c.1, _, _, _, _, _, _, _, _, ⟨by decide, by decide, by decide, by decide, by decide, by decide⟩, (zwL_many_1 a1 zm0 zfr0 zfr0 zm0 q f ad1 e1), (fun cA v ws hB => by obtain ⟨rfl, rfl⟩ := hB; exact ⟨rfl, _, f, rfl, fun z => absurd z (by decide)⟩), (zAl_z (v := some (zi c.1)) (as := [zr 0 0 0, zi a1]) (Rg := [(4, [1]), (3, [])]) (Ms := [zm0, zfr3]) (Ms' := [c.2, zfr3]) (zfMO_many a1 zm0 zfr3 _ e2) rfl (zadM h0 l)), (fun cA v ws hB => by obtain ⟨rfl, rfl⟩ := hB; exact ⟨rfl, _, _, (show (_ : va_W) = (h0, Sum.inr (10, [Value.int 1, Value.ref (zadM h0 l (1, 0, 0))])) :: _ by rw [← e3]; rfl)⟩)⟩

set_option maxHeartbeats 1000000 in
set_option maxRecDepth 20000 in
theorem zag_wouldDeliver (a1 : Int32) (q : Nat) (f : Nat → Int64) (ad1 : zR → Nat) (h0 : Nat) (l : List Nat) : zAgr yL_wouldDeliver cL_wouldDeliver 4 [(0, 9, 12, 13)] 7 154 yX11_wouldDeliver cX11_wouldDeliver 2 [.int a1] q f ad1 h0 l := by
  rcases q_wouldDeliver a1 with ⟨h, k1, k2, b, e1, e4⟩ | ⟨b, c, e1, e2, e3⟩
  · exact ⟨0, 0, _, _, _, _, _, _, _, _, ⟨by decide, by decide, by decide, by decide, by decide, by decide⟩, (zwL_wouldDeliver a1 zm0 zfr0 zfr0 zm0 q f ad1 b e1), (fun cA v ws hB => by obtain ⟨rfl, rfl⟩ := hB; exact ⟨rfl, _, _, rfl, fun _ => by rw [← e4]; rfl⟩), zrM_wouldDeliver a1 h0 l h k1 k2, (fun cA v ws hB => by obtain ⟨h1, s, h2⟩ := hB; obtain ⟨tl, h3⟩ := zhd h2; exact ⟨h1, s, tl, h3⟩)⟩
  · exact ⟨1, c.1, _, _, _, _, _, _, _, _, ⟨by decide, by decide, by decide, by decide, by decide, by decide⟩, (zwL_wouldDeliver_1 a1 zm0 zfr0 zfr0 zm0 q f ad1 b e1), (fun cA v ws hB => by obtain ⟨rfl, rfl⟩ := hB; exact ⟨rfl, _, f, rfl, fun z => absurd z (by decide)⟩), (zAl_z (v := some (zi c.1)) (as := [zr 0 0 0, zi a1]) (Rg := [(4, [1]), (3, [])]) (Ms := [zm0, zfr3]) (Ms' := [c.2, zfr3]) (zfMO_wouldDeliver a1 zm0 zfr3 _ e2) rfl (zadM h0 l)), (fun cA v ws hB => by obtain ⟨rfl, rfl⟩ := hB; exact ⟨rfl, _, _, (show (_ : va_W) = (h0, Sum.inr (10, [Value.int 1, Value.ref (zadM h0 l (1, 0, 0))])) :: _ by rw [← e3]; rfl)⟩)⟩

set_option maxHeartbeats 1000000 in
set_option maxRecDepth 20000 in
theorem zag_bestTurn (a1 : Int32) (q : Nat) (f : Nat → Int64) (ad1 : zR → Nat) (h0 : Nat) (l : List Nat) : zAgr yL_bestTurn cL_bestTurn 4 [(0, 9, 12, 21)] 8 149 yX11_bestTurn cX11_bestTurn 2 [.int a1] q f ad1 h0 l := by
  obtain ⟨b, c, e1, e2, e3⟩ := q_bestTurn a1
  exact ⟨1, c.1, _, _, _, _, _, _, _, _, ⟨by decide, by decide, by decide, by decide, by decide, by decide⟩, (zwL_bestTurn_1 a1 zm0 zfr0 zfr0 zm0 q f ad1 b e1), (fun cA v ws hB => by obtain ⟨rfl, rfl⟩ := hB; exact ⟨rfl, _, f, rfl, fun z => absurd z (by decide)⟩), (zAl_z (v := some (zi c.1)) (as := [zr 0 0 0, zi a1]) (Rg := [(4, [1]), (3, [])]) (Ms := [zm0, zfr3]) (Ms' := [c.2, zfr3]) (zfMO_bestTurn a1 zm0 zfr3 _ e2) rfl (zadM h0 l)), (fun cA v ws hB => by obtain ⟨rfl, rfl⟩ := hB; exact ⟨rfl, _, _, (show (_ : va_W) = (h0, Sum.inr (10, [Value.int 1, Value.ref (zadM h0 l (1, 0, 0))])) :: _ by rw [← e3]; rfl)⟩)⟩
