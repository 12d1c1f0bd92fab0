/-! ===== the start of the law: what stands around ===== -/
theorem ze_D {S : State} {av : Array Value} (hts : ∀ w ∈ lw_tbl, w.before av S = true) : ∃ D : va_G, ∀ (c : Nat) (q : vw_C), zcl[c]? = some q → u_Kn S q.1 q.2.1 q.2.2 (D.1 c) (D.2 c) := by
  have hg : ∀ w ∈ zTg, w.before av S = true := fun w hw => hts w (List.mem_filter.mp hw).1
  have key : ∀ c : Nat, ∃ (cC : ClassId) (iS : Nat → Nat), ∀ q : vw_C, zcl[c]? = some q → u_Kn S q.1 q.2.1 q.2.2 cC iS := by
    intro c
    match c with
    | 0 =>
      obtain ⟨cC, iS, h⟩ := u_known (C := RX0) (T := TX0) (N := 3) (n := 3) hg (zCl_0 _ rfl).1 (hts _ (List.mem_of_getElem? (i := 591) (by decide +kernel)))
      exact ⟨cC, iS, fun q hq => by cases hq; exact h⟩
    | 1 =>
      obtain ⟨cC, iS, h⟩ := u_known (C := RX1) (T := TX1) (N := 4) (n := 4) hg (zCl_1 _ rfl).1 (hts _ (List.mem_of_getElem? (i := 250) (by decide +kernel)))
      exact ⟨cC, iS, fun q hq => by cases hq; exact h⟩
    | 2 =>
      obtain ⟨cC, iS, h⟩ := u_known (C := RX2) (T := TX2) (N := 5) (n := 5) hg (zCl_2 _ rfl).1 (hts _ (List.mem_of_getElem? (i := 228) (by decide +kernel)))
      exact ⟨cC, iS, fun q hq => by cases hq; exact h⟩
    | 3 =>
      obtain ⟨cC, iS, h⟩ := u_known (C := RX3) (T := TX3) (N := 11) (n := 11) hg (zCl_3 _ rfl).1 (hts _ (List.mem_of_getElem? (i := 202) (by decide +kernel)))
      exact ⟨cC, iS, fun q hq => by cases hq; exact h⟩
    | 4 =>
      obtain ⟨cC, iS, h⟩ := u_known (C := RX4) (T := TX4) (N := 2) (n := 2) hg (zCl_4 _ rfl).1 (hts _ (List.mem_of_getElem? (i := 691) (by decide +kernel)))
      exact ⟨cC, iS, fun q hq => by cases hq; exact h⟩
    | 5 =>
      obtain ⟨cC, iS, h⟩ := u_known (C := RX5) (T := TX5) (N := 14) (n := 14) hg (zCl_5 _ rfl).1 (hts _ (List.mem_of_getElem? (i := 143) (by decide +kernel)))
      exact ⟨cC, iS, fun q hq => by cases hq; exact h⟩
    | 6 =>
      obtain ⟨cC, iS, h⟩ := u_known (C := RX6) (T := TX6) (N := 6) (n := 6) hg (zCl_6 _ rfl).1 (hts _ (List.mem_of_getElem? (i := 610) (by decide +kernel)))
      exact ⟨cC, iS, fun q hq => by cases hq; exact h⟩
    | 7 =>
      obtain ⟨cC, iS, h⟩ := u_known (C := RX8) (T := TX8) (N := 5) (n := 5) hg (zCl_7 _ rfl).1 (hts _ (List.mem_of_getElem? (i := 448) (by decide +kernel)))
      exact ⟨cC, iS, fun q hq => by cases hq; exact h⟩
    | 8 =>
      obtain ⟨cC, iS, h⟩ := u_known (C := RX9) (T := TX9) (N := 3) (n := 3) hg (zCl_8 _ rfl).1 (hts _ (List.mem_of_getElem? (i := 280) (by decide +kernel)))
      exact ⟨cC, iS, fun q hq => by cases hq; exact h⟩
    | 9 =>
      obtain ⟨cC, iS, h⟩ := u_known (C := RX10) (T := TX10) (N := 20) (n := 20) hg (zCl_9 _ rfl).1 (hts _ (List.mem_of_getElem? (i := 426) (by decide +kernel)))
      exact ⟨cC, iS, fun q hq => by cases hq; exact h⟩
    | n + 10 => exact ⟨0, fun _ => 0, fun q hq => by cases hq⟩
  exact ⟨(fun c => Classical.choose (key c), fun c => Classical.choose (Classical.choose_spec (key c))), fun c q hq => Classical.choose_spec (Classical.choose_spec (key c)) q hq⟩
theorem ze_ap {S : State} {av : Array Value} {ty : FieldType} (h : (Cond.arrayClass ty).before av S = true) : ∃ c : ClassId, ArrOfT S c ty ∧ S.vm.findClass ("[" ++ ty.toString) = some c := by
  obtain ⟨c, k, comp, h1, h2, h3⟩ := Cond.arrayClass_spec h
  exact ⟨c, fun n z => ⟨fun k h => (by cases h), k, h2, comp, h3⟩, h1⟩
theorem ze_ao {S : State} {av : Array Value} {C : String} (h : (Cond.arrayOver (.object C)).before av S = true) : ∃ c : ClassId, ArrOfT S c (.object C) ∧ va_RA S c (.object C) := by
  obtain ⟨comp, c, k, h1, h2, h3, h4, h5⟩ := Cond.arrayOver_spec h
  exact ⟨c, fun n z => ⟨fun k h => (by cases h), k, h3, comp, h4⟩, k, comp, h3, h4, h1, h5⟩
theorem ze_aa {S : State} {av : Array Value} {t : FieldType} (h : (Cond.arrayOver (.array t)).before av S = true) : ∃ c : ClassId, ArrOfT S c (.array t) ∧ va_RA S c (.array t) := by
  obtain ⟨comp, c, k, h1, h2, h3, h4⟩ := Cond.arrayOver_specA h
  exact ⟨c, fun n z => ⟨fun k h => (by cases h), k, h2, comp, h3⟩, h4⟩
theorem ze_A {S : State} {av : Array Value} (hts : ∀ w ∈ lw_tbl, w.before av S = true) : ∃ cA : Nat → ClassId, ∀ (k : Nat) (q : ClassId × FieldType), (ztl cA)[k]? = some q → ArrOfT S q.1 q.2 ∧ va_RA S q.1 q.2 := by
  obtain ⟨c0, a0, r0⟩ := ze_ap (ty := .int) (hts _ (List.mem_of_getElem? (i := 501) (by decide +kernel)))
  obtain ⟨c1, a1, r1⟩ := ze_ao (C := "WakeBanks$Turbine") (hts _ (List.mem_of_getElem? (i := 442) (by decide +kernel)))
  obtain ⟨c2, a2, r2⟩ := ze_ao (C := "WakeBanks$Cable") (hts _ (List.mem_of_getElem? (i := 444) (by decide +kernel)))
  obtain ⟨c3, a3, r3⟩ := ze_ao (C := "WakeBanks$Vessel") (hts _ (List.mem_of_getElem? (i := 446) (by decide +kernel)))
  obtain ⟨c4, a4, r4⟩ := ze_aa (t := .int) (hts _ (List.mem_of_getElem? (i := 714) (by decide +kernel)))
  refine ⟨fun j => match j with | 0 => c0 | 1 => c1 | 2 => c2 | 3 => c3 | _ => c4, fun k q hq => ?_⟩
  match k, hq with
  | 0, hq => cases hq; exact ⟨a0, r0⟩
  | 1, hq => cases hq; exact ⟨a1, r1⟩
  | 2, hq => cases hq; exact ⟨a2, r2⟩
  | 3, hq => cases hq; exact ⟨a3, r3⟩
  | 4, hq => cases hq; exact ⟨a4, r4⟩
  | k + 5, hq => cases hq
theorem ze_T {S : State} {av : Array Value} {C n d : String} {N : Nat} {g : Nat → Int32} {A : Nat → Prop} (hN : N < 2 ^ 31) (hl : (Cond.laysStatic C n d).before av S = true) (hini : (Cond.initialized C).before av S = true) (harr : (Cond.arrayOf (.static C n d) .int).before av S = true) (hlen : (Cond.eq (.length (.static C n d)) (.int (Int32.ofNat N))).before av S = true) (hel : ∀ j : Nat, j < N → (Cond.eq (.elem (.static C n d) (.int (Int32.ofNat j))) (.int (g j))).before av S = true) (hA : ∀ a : Nat, a < S.heap.size → ¬ A a) : ∃ t : Nat, va_Z C n d (.ref t) A S S.heap ∧ va_T .int t N (fun i => .int (g i)) A S S.heap := by
  obtain ⟨t, h1, h2⟩ := va_Tof (f := fun i => .int (g i)) hN harr (va_eqt hlen) (fun j hj => va_eqt (hel j hj)) hA
  exact ⟨t, va_Zof hl hini h1 hA, h2⟩
theorem ze_S {S : State} {av : Array Value} {A : Nat → Prop} (hts : ∀ w ∈ lw_tbl, w.before av S = true) (hn : (Jvm.Cond.and given_1 narrow_1).before av S = true) (hA : ∀ a : Nat, a < S.heap.size → ¬ A a) : ∃ T : Nat → Nat, ∀ (j : Nat) (q : String × String × List Int32), zst[j]? = some q → va_Z q.1 q.2.1 "[I" (.ref (T j)) A S S.heap ∧ va_T .int (T j) q.2.2.length (fun i => .int (q.2.2.getD i 0)) A S S.heap := by
  have hs := flat_of_before _ hn
  obtain ⟨t0, z0, y0⟩ := ze_T (C := "WakeBanks") (n := "WIND_P") (d := "[I") (N := 8) (g := fun i => zk0.getD i 0) (A := A) (by decide) (hts _ (List.mem_of_getElem? (i := 173) (by decide +kernel))) (hts _ (List.mem_of_getElem? (i := 21) (by decide +kernel))) (hs _ (by decide +kernel)) (hs _ (by decide +kernel)) (fun j hj => by
    rcases (show j = 0 ∨ j = 1 ∨ j = 2 ∨ j = 3 ∨ j = 4 ∨ j = 5 ∨ j = 6 ∨ j = 7 by omega) with rfl | rfl | rfl | rfl | rfl | rfl | rfl | rfl
    all_goals exact hs _ (by decide +kernel)) hA
  obtain ⟨t1, z1, y1⟩ := ze_T (C := "WakeBanks") (n := "WIND_Q") (d := "[I") (N := 8) (g := fun i => zk1.getD i 0) (A := A) (by decide) (hts _ (List.mem_of_getElem? (i := 175) (by decide +kernel))) (hts _ (List.mem_of_getElem? (i := 21) (by decide +kernel))) (hs _ (by decide +kernel)) (hs _ (by decide +kernel)) (fun j hj => by
    rcases (show j = 0 ∨ j = 1 ∨ j = 2 ∨ j = 3 ∨ j = 4 ∨ j = 5 ∨ j = 6 ∨ j = 7 by omega) with rfl | rfl | rfl | rfl | rfl | rfl | rfl | rfl
    all_goals exact hs _ (by decide +kernel)) hA
  obtain ⟨t2, z2, y2⟩ := ze_T (C := "WakeBanks") (n := "WEAR_LIMITS") (d := "[I") (N := 3) (g := fun i => zk2.getD i 0) (A := A) (by decide) (hts _ (List.mem_of_getElem? (i := 146) (by decide +kernel))) (hts _ (List.mem_of_getElem? (i := 21) (by decide +kernel))) (hs _ (by decide +kernel)) (hs _ (by decide +kernel)) (fun j hj => by
    rcases (show j = 0 ∨ j = 1 ∨ j = 2 by omega) with rfl | rfl | rfl
    all_goals exact hs _ (by decide +kernel)) hA
  obtain ⟨t3, z3, y3⟩ := ze_T (C := "WakeBanks") (n := "WIND_P") (d := "[I") (N := 8) (g := fun i => zk3.getD i 0) (A := A) (by decide) (hts _ (List.mem_of_getElem? (i := 173) (by decide +kernel))) (hts _ (List.mem_of_getElem? (i := 21) (by decide +kernel))) (hs _ (by decide +kernel)) (hs _ (by decide +kernel)) (fun j hj => by
    rcases (show j = 0 ∨ j = 1 ∨ j = 2 ∨ j = 3 ∨ j = 4 ∨ j = 5 ∨ j = 6 ∨ j = 7 by omega) with rfl | rfl | rfl | rfl | rfl | rfl | rfl | rfl
    all_goals exact hs _ (by decide +kernel)) hA
  obtain ⟨t4, z4, y4⟩ := ze_T (C := "WakeBanks") (n := "TURNS") (d := "[I") (N := 5) (g := fun i => zk4.getD i 0) (A := A) (by decide) (hts _ (List.mem_of_getElem? (i := 344) (by decide +kernel))) (hts _ (List.mem_of_getElem? (i := 21) (by decide +kernel))) (hs _ (by decide +kernel)) (hs _ (by decide +kernel)) (fun j hj => by
    rcases (show j = 0 ∨ j = 1 ∨ j = 2 ∨ j = 3 ∨ j = 4 by omega) with rfl | rfl | rfl | rfl | rfl
    all_goals exact hs _ (by decide +kernel)) hA
  refine ⟨fun j => match j with | 0 => t0 | 1 => t1 | 2 => t2 | 3 => t3 | _ => t4, fun j q hq => ?_⟩
  match j, hq with
  | 0, hq => cases hq; exact ⟨z0, y0⟩
  | 1, hq => cases hq; exact ⟨z1, y1⟩
  | 2, hq => cases hq; exact ⟨z2, y2⟩
  | 3, hq => cases hq; exact ⟨z3, y3⟩
  | 4, hq => cases hq; exact ⟨z4, y4⟩
  | k + 5, hq => cases hq
theorem ze_R {S : State} {av : Array Value} {own tx : String} {k : Nat} (h1 : (Cond.stringRef own k tx).before av S = true) (h2 : (Cond.exactly (.string own k) "java/lang/String").before av S = true) : ∃ a : Nat, vk_R own k tx a S := by
  obtain ⟨a, c, cell, kk, q1, q2⟩ := Cond.exactly_spec (args := av) (first := S) (o := none) (s := S) (idx := []) (t := .string own k) (cls := "java/lang/String") h2
  exact ⟨a, vk_R.of h1 q1⟩
theorem ze_str {S : State} {av : Array Value} (hts : ∀ w ∈ lw_tbl, w.before av S = true) (hn : (Jvm.Cond.and given_1 narrow_1).before av S = true) : ∀ q ∈ zstr, ∃ a : Nat, vk_R q.1 q.2.1 q.2.2 a S := by
  have hs := flat_of_before _ hn
  intro q hq
  obtain ⟨j, hj⟩ := List.getElem?_of_mem hq
  match j, hj with
  | 0, hj => cases hj; exact ze_R (hts _ (List.mem_of_getElem? (i := 299) (by decide +kernel))) (hs _ (by decide +kernel))
  | 1, hj => cases hj; exact ze_R (hts _ (List.mem_of_getElem? (i := 378) (by decide +kernel))) (hs _ (by decide +kernel))
  | 2, hj => cases hj; exact ze_R (hts _ (List.mem_of_getElem? (i := 391) (by decide +kernel))) (hs _ (by decide +kernel))
  | 3, hj => cases hj; exact ze_R (hts _ (List.mem_of_getElem? (i := 396) (by decide +kernel))) (hs _ (by decide +kernel))
  | 4, hj => cases hj; exact ze_R (hts _ (List.mem_of_getElem? (i := 413) (by decide +kernel))) (hs _ (by decide +kernel))
  | 5, hj => cases hj; exact ze_R (hts _ (List.mem_of_getElem? (i := 423) (by decide +kernel))) (hs _ (by decide +kernel))
  | 6, hj => cases hj; exact ze_R (hts _ (List.mem_of_getElem? (i := 368) (by decide +kernel))) (hs _ (by decide +kernel))
  | 7, hj => cases hj; exact ze_R (hts _ (List.mem_of_getElem? (i := 304) (by decide +kernel))) (hs _ (by decide +kernel))
  | 8, hj => cases hj; exact ze_R (hts _ (List.mem_of_getElem? (i := 797) (by decide +kernel))) (hs _ (by decide +kernel))
  | 9, hj => cases hj; exact ze_R (hts _ (List.mem_of_getElem? (i := 292) (by decide +kernel))) (hs _ (by decide +kernel))
  | 10, hj => cases hj; exact ze_R (hts _ (List.mem_of_getElem? (i := 411) (by decide +kernel))) (hs _ (by decide +kernel))
  | 11, hj => cases hj; exact ze_R (hts _ (List.mem_of_getElem? (i := 422) (by decide +kernel))) (hs _ (by decide +kernel))
  | 12, hj => cases hj; exact ze_R (hts _ (List.mem_of_getElem? (i := 386) (by decide +kernel))) (hs _ (by decide +kernel))
  | 13, hj => cases hj; exact ze_R (hts _ (List.mem_of_getElem? (i := 807) (by decide +kernel))) (hs _ (by decide +kernel))
  | 14, hj => cases hj; exact ze_R (hts _ (List.mem_of_getElem? (i := 826) (by decide +kernel))) (hs _ (by decide +kernel))
  | 15, hj => cases hj; exact ze_R (hts _ (List.mem_of_getElem? (i := 831) (by decide +kernel))) (hs _ (by decide +kernel))
  | 16, hj => cases hj; exact ze_R (hts _ (List.mem_of_getElem? (i := 89) (by decide +kernel))) (hs _ (by decide +kernel))
  | k + 17, hj => cases hj
theorem ze_Nws : zNws = ([145, 174, 172, 692, 449, 502, 592, 611, 507, 776, 780, 48, 800, 285, 51, 52, 49, 50, 53, 54] : List Nat).filterMap (fun i => lw_tbl[i]?) := by decide +kernel
theorem ze_N {S : State} {av : Array Value} (hts : ∀ w ∈ lw_tbl, w.before av S = true) : ∀ w ∈ zNws, va_Nw w S := by
  intro w hw
  have h0 := hw
  rw [ze_Nws] at h0
  obtain ⟨i, -, hi⟩ := List.mem_filterMap.mp h0
  exact va_tabs (zNw_on (List.all_eq_true.mp zNws_ok w hw)) rfl (hts w (List.mem_of_getElem? hi))
theorem ze_all {S : State} {av : Array Value} {A : Nat → Prop} (hts : ∀ w ∈ lw_tbl, w.before av S = true) (hn : (Jvm.Cond.and given_1 narrow_1).before av S = true) (hA : ∀ a : Nat, a < S.heap.size → ¬ A a) : ∃ (D : va_G) (cA : Nat → ClassId) (ad : zR → Nat), va_K D zcl (ztl cA) S ∧ zEv ad A S S.heap ∧ zAr S := by
  have hs := flat_of_before _ hn
  obtain ⟨D, hD⟩ := ze_D hts
  obtain ⟨cA, hcA⟩ := ze_A hts
  obtain ⟨T, hT⟩ := ze_S hts hn hA
  refine ⟨D, cA, fun q => T (q.1 - 100), ⟨hD, hcA⟩, ⟨fun j q hq => ?_, ze_str hts hn, ze_N hts, vx_Zqof (hts _ (List.mem_of_getElem? (i := 75) (by decide +kernel))) (hts _ (List.mem_of_getElem? (i := 30) (by decide +kernel))) (hs _ (by decide +kernel)) hA, vx_Zqof (hts _ (List.mem_of_getElem? (i := 77) (by decide +kernel))) (hts _ (List.mem_of_getElem? (i := 30) (by decide +kernel))) (hs _ (by decide +kernel)) hA⟩, ?_, ?_, ?_⟩
  · have h := hT j q hq
    dsimp only
    rw [Nat.add_sub_cancel_left]
    exact h
  · intro C hC
    obtain ⟨j, hj⟩ := List.getElem?_of_mem hC
    match j, hj with
    | 0, hj => cases hj; exact va_AO.of (hts _ (List.mem_of_getElem? (i := 444) (by decide +kernel)))
    | 1, hj => cases hj; exact va_AO.of (hts _ (List.mem_of_getElem? (i := 442) (by decide +kernel)))
    | 2, hj => cases hj; exact va_AO.of (hts _ (List.mem_of_getElem? (i := 446) (by decide +kernel)))
    | k + 3, hj => cases hj
  · intro C hC
    obtain ⟨j, hj⟩ := List.getElem?_of_mem hC
    match j, hj with
    | 0, hj => cases hj; exact va_AOA.of (hts _ (List.mem_of_getElem? (i := 714) (by decide +kernel)))
    | k + 1, hj => cases hj
  · intro q hq
    cases hq
