section
-- ===== PART A: goes FIRST, ahead of the names: the tables' words, and 'selects' of the private methods out of them =====
/-- a private method of a class that the tables say can be made, by its rows of tables_1 -/
def lw_okq (q : MethodName × Nat) : Prop := (q.1.cls ≠ "java/lang/invoke/MethodHandle" ∧ q.1.cls ≠ "java/lang/invoke/VarHandle") ∧ Cond.instantiable q.1.cls q.2 ∈ tables_1 ∧ Cond.privateMethod q.1 ∈ tables_1 ∧ Cond.instanceMethod q.1 ∈ tables_1
theorem lw_p0 : lw_okq (⟨"WakeBanks$Siting", "takeDeficits", "(LWakeBanks$Sea;I)V"⟩, 2) := ⟨⟨by decide +kernel, by decide +kernel⟩, List.mem_of_getElem? (i := 291) (by decide +kernel), List.mem_of_getElem? (i := 326) (by decide +kernel), List.mem_of_getElem? (i := 327) (by decide +kernel)⟩
theorem lw_p1 : lw_okq (⟨"WakeBanks$Siting", "powerWith", "(LWakeBanks$Sea;II)I"⟩, 2) := ⟨⟨by decide +kernel, by decide +kernel⟩, List.mem_of_getElem? (i := 291) (by decide +kernel), List.mem_of_getElem? (i := 344) (by decide +kernel), List.mem_of_getElem? (i := 345) (by decide +kernel)⟩
theorem lw_p2 : lw_okq (⟨"java/lang/Throwable", "fillInStackTrace", "(I)Ljava/lang/Throwable;"⟩, 6) := ⟨⟨by decide +kernel, by decide +kernel⟩, List.mem_of_getElem? (i := 423) (by decide +kernel), List.mem_of_getElem? (i := 421) (by decide +kernel), List.mem_of_getElem? (i := 422) (by decide +kernel)⟩
theorem lw_p3 : lw_okq (⟨"WakeBanks", "digestTurbine", "(JI)J"⟩, 3) := ⟨⟨by decide +kernel, by decide +kernel⟩, List.mem_of_getElem? (i := 22) (by decide +kernel), List.mem_of_getElem? (i := 453) (by decide +kernel), List.mem_of_getElem? (i := 454) (by decide +kernel)⟩
theorem lw_p4 : lw_okq (⟨"WakeBanks", "checkTurbine", "(I)V"⟩, 3) := ⟨⟨by decide +kernel, by decide +kernel⟩, List.mem_of_getElem? (i := 22) (by decide +kernel), List.mem_of_getElem? (i := 461) (by decide +kernel), List.mem_of_getElem? (i := 462) (by decide +kernel)⟩
theorem lw_p5 : lw_okq (⟨"WakeBanks$Turbine", "wornPart", "()I"⟩, 14) := ⟨⟨by decide +kernel, by decide +kernel⟩, List.mem_of_getElem? (i := 98) (by decide +kernel), List.mem_of_getElem? (i := 582) (by decide +kernel), List.mem_of_getElem? (i := 583) (by decide +kernel)⟩
theorem lw_p6 : lw_okq (⟨"WakeBanks$Turbine", "mayStart", "(IZ)Z"⟩, 14) := ⟨⟨by decide +kernel, by decide +kernel⟩, List.mem_of_getElem? (i := 98) (by decide +kernel), List.mem_of_getElem? (i := 592) (by decide +kernel), List.mem_of_getElem? (i := 593) (by decide +kernel)⟩
theorem lw_p7 : lw_okq (⟨"WakeBanks$Turbine", "causeOfStanding", "()I"⟩, 14) := ⟨⟨by decide +kernel, by decide +kernel⟩, List.mem_of_getElem? (i := 98) (by decide +kernel), List.mem_of_getElem? (i := 609) (by decide +kernel), List.mem_of_getElem? (i := 610) (by decide +kernel)⟩
theorem lw_p8 : lw_okq (⟨"WakeBanks$Sea", "loadStrings", "()V"⟩, 11) := ⟨⟨by decide +kernel, by decide +kernel⟩, List.mem_of_getElem? (i := 30) (by decide +kernel), List.mem_of_getElem? (i := 613) (by decide +kernel), List.mem_of_getElem? (i := 614) (by decide +kernel)⟩
theorem lw_p9 : lw_okq (⟨"WakeBanks$Sea", "giveUp", "(III)I"⟩, 11) := ⟨⟨by decide +kernel, by decide +kernel⟩, List.mem_of_getElem? (i := 30) (by decide +kernel), List.mem_of_getElem? (i := 621) (by decide +kernel), List.mem_of_getElem? (i := 622) (by decide +kernel)⟩
theorem lw_p10 : lw_okq (⟨"WakeBanks$Sea", "isOn", "(II)Z"⟩, 11) := ⟨⟨by decide +kernel, by decide +kernel⟩, List.mem_of_getElem? (i := 30) (by decide +kernel), List.mem_of_getElem? (i := 625) (by decide +kernel), List.mem_of_getElem? (i := 626) (by decide +kernel)⟩
theorem lw_p11 : lw_okq (⟨"WakeBanks$Ledger", "takeNominated", "()I"⟩, 5) := ⟨⟨by decide +kernel, by decide +kernel⟩, List.mem_of_getElem? (i := 72) (by decide +kernel), List.mem_of_getElem? (i := 638) (by decide +kernel), List.mem_of_getElem? (i := 639) (by decide +kernel)⟩
theorem lw_p12 : lw_okq (⟨"WakeBanks$Turbine", "wearPart", "(II)V"⟩, 14) := ⟨⟨by decide +kernel, by decide +kernel⟩, List.mem_of_getElem? (i := 98) (by decide +kernel), List.mem_of_getElem? (i := 649) (by decide +kernel), List.mem_of_getElem? (i := 650) (by decide +kernel)⟩
theorem lw_p13 : lw_okq (⟨"WakeBanks$Extremes", "goesOn", "(I)Z"⟩, 4) := ⟨⟨by decide +kernel, by decide +kernel⟩, List.mem_of_getElem? (i := 104) (by decide +kernel), List.mem_of_getElem? (i := 659) (by decide +kernel), List.mem_of_getElem? (i := 660) (by decide +kernel)⟩
theorem lw_p14 : lw_okq (⟨"WakeBanks$Extremes", "takeOut", "(II)V"⟩, 4) := ⟨⟨by decide +kernel, by decide +kernel⟩, List.mem_of_getElem? (i := 104) (by decide +kernel), List.mem_of_getElem? (i := 663) (by decide +kernel), List.mem_of_getElem? (i := 664) (by decide +kernel)⟩
theorem lw_p15 : lw_okq (⟨"WakeBanks$Extremes", "hasCycle", "()Z"⟩, 4) := ⟨⟨by decide +kernel, by decide +kernel⟩, List.mem_of_getElem? (i := 104) (by decide +kernel), List.mem_of_getElem? (i := 667) (by decide +kernel), List.mem_of_getElem? (i := 668) (by decide +kernel)⟩
def lw_privs_1 : List (MethodName × Nat) := [(⟨"WakeBanks$Siting", "takeDeficits", "(LWakeBanks$Sea;I)V"⟩, 2), (⟨"WakeBanks$Siting", "powerWith", "(LWakeBanks$Sea;II)I"⟩, 2), (⟨"java/lang/Throwable", "fillInStackTrace", "(I)Ljava/lang/Throwable;"⟩, 6), (⟨"WakeBanks", "digestTurbine", "(JI)J"⟩, 3), (⟨"WakeBanks", "checkTurbine", "(I)V"⟩, 3), (⟨"WakeBanks$Turbine", "wornPart", "()I"⟩, 14), (⟨"WakeBanks$Turbine", "mayStart", "(IZ)Z"⟩, 14), (⟨"WakeBanks$Turbine", "causeOfStanding", "()I"⟩, 14), (⟨"WakeBanks$Sea", "loadStrings", "()V"⟩, 11), (⟨"WakeBanks$Sea", "giveUp", "(III)I"⟩, 11), (⟨"WakeBanks$Sea", "isOn", "(II)Z"⟩, 11), (⟨"WakeBanks$Ledger", "takeNominated", "()I"⟩, 5), (⟨"WakeBanks$Turbine", "wearPart", "(II)V"⟩, 14), (⟨"WakeBanks$Extremes", "goesOn", "(I)Z"⟩, 4), (⟨"WakeBanks$Extremes", "takeOut", "(II)V"⟩, 4), (⟨"WakeBanks$Extremes", "hasCycle", "()Z"⟩, 4)]
theorem lw_r1 : ∀ q ∈ lw_privs_1, lw_okq q := List.forall_mem_cons.mpr ⟨lw_p0, List.forall_mem_cons.mpr ⟨lw_p1, List.forall_mem_cons.mpr ⟨lw_p2, List.forall_mem_cons.mpr ⟨lw_p3, List.forall_mem_cons.mpr ⟨lw_p4, List.forall_mem_cons.mpr ⟨lw_p5, List.forall_mem_cons.mpr ⟨lw_p6, List.forall_mem_cons.mpr ⟨lw_p7, List.forall_mem_cons.mpr ⟨lw_p8, List.forall_mem_cons.mpr ⟨lw_p9, List.forall_mem_cons.mpr ⟨lw_p10, List.forall_mem_cons.mpr ⟨lw_p11, List.forall_mem_cons.mpr ⟨lw_p12, List.forall_mem_cons.mpr ⟨lw_p13, List.forall_mem_cons.mpr ⟨lw_p14, List.forall_mem_cons.mpr ⟨lw_p15, fun _ h => absurd h List.not_mem_nil⟩⟩⟩⟩⟩⟩⟩⟩⟩⟩⟩⟩⟩⟩⟩⟩
theorem lw_p16 : lw_okq (⟨"WakeBanks$Sea", "work", "(LWakeBanks$Vessel;)V"⟩, 11) := ⟨⟨by decide +kernel, by decide +kernel⟩, List.mem_of_getElem? (i := 30) (by decide +kernel), List.mem_of_getElem? (i := 672) (by decide +kernel), List.mem_of_getElem? (i := 673) (by decide +kernel)⟩
theorem lw_p17 : lw_okq (⟨"WakeBanks", "checkString", "(I)V"⟩, 3) := ⟨⟨by decide +kernel, by decide +kernel⟩, List.mem_of_getElem? (i := 22) (by decide +kernel), List.mem_of_getElem? (i := 685) (by decide +kernel), List.mem_of_getElem? (i := 686) (by decide +kernel)⟩
theorem lw_p18 : lw_okq (⟨"WakeBanks", "checkVessel", "(I)V"⟩, 3) := ⟨⟨by decide +kernel, by decide +kernel⟩, List.mem_of_getElem? (i := 22) (by decide +kernel), List.mem_of_getElem? (i := 696) (by decide +kernel), List.mem_of_getElem? (i := 697) (by decide +kernel)⟩
theorem lw_p19 : lw_okq (⟨"WakeBanksModel", "no", "(I)I"⟩, 2) := ⟨⟨by decide +kernel, by decide +kernel⟩, List.mem_of_getElem? (i := 919) (by decide +kernel), List.mem_of_getElem? (i := 1043) (by decide +kernel), List.mem_of_getElem? (i := 1044) (by decide +kernel)⟩
theorem lw_p20 : lw_okq (⟨"WakeBanksModel", "isTaken", "(II)Z"⟩, 2) := ⟨⟨by decide +kernel, by decide +kernel⟩, List.mem_of_getElem? (i := 919) (by decide +kernel), List.mem_of_getElem? (i := 1051) (by decide +kernel), List.mem_of_getElem? (i := 1052) (by decide +kernel)⟩
theorem lw_p21 : lw_okq (⟨"WakeBanksModel$Sea", "turn", "([I)V"⟩, 23) := ⟨⟨by decide +kernel, by decide +kernel⟩, List.mem_of_getElem? (i := 925) (by decide +kernel), List.mem_of_getElem? (i := 1080) (by decide +kernel), List.mem_of_getElem? (i := 1081) (by decide +kernel)⟩
theorem lw_p22 : lw_okq (⟨"WakeBanksModel$Sea", "make", "([II)I"⟩, 23) := ⟨⟨by decide +kernel, by decide +kernel⟩, List.mem_of_getElem? (i := 925) (by decide +kernel), List.mem_of_getElem? (i := 1108) (by decide +kernel), List.mem_of_getElem? (i := 1109) (by decide +kernel)⟩
theorem lw_p23 : lw_okq (⟨"WakeBanksModel$Sea", "fit", "(III)I"⟩, 23) := ⟨⟨by decide +kernel, by decide +kernel⟩, List.mem_of_getElem? (i := 925) (by decide +kernel), List.mem_of_getElem? (i := 1116) (by decide +kernel), List.mem_of_getElem? (i := 1117) (by decide +kernel)⟩
theorem lw_p24 : lw_okq (⟨"WakeBanksModel$Sea", "isOn", "(II)Z"⟩, 23) := ⟨⟨by decide +kernel, by decide +kernel⟩, List.mem_of_getElem? (i := 925) (by decide +kernel), List.mem_of_getElem? (i := 1120) (by decide +kernel), List.mem_of_getElem? (i := 1121) (by decide +kernel)⟩
theorem lw_p25 : lw_okq (⟨"WakeBanksModel$Sea", "give", "(III)I"⟩, 23) := ⟨⟨by decide +kernel, by decide +kernel⟩, List.mem_of_getElem? (i := 925) (by decide +kernel), List.mem_of_getElem? (i := 1124) (by decide +kernel), List.mem_of_getElem? (i := 1125) (by decide +kernel)⟩
theorem lw_p26 : lw_okq (⟨"WakeBanksModel$Sea", "wear", "(I[I)V"⟩, 23) := ⟨⟨by decide +kernel, by decide +kernel⟩, List.mem_of_getElem? (i := 925) (by decide +kernel), List.mem_of_getElem? (i := 1128) (by decide +kernel), List.mem_of_getElem? (i := 1129) (by decide +kernel)⟩
theorem lw_p27 : lw_okq (⟨"WakeBanksModel$Sea", "load", "([I[I)I"⟩, 23) := ⟨⟨by decide +kernel, by decide +kernel⟩, List.mem_of_getElem? (i := 925) (by decide +kernel), List.mem_of_getElem? (i := 1135) (by decide +kernel), List.mem_of_getElem? (i := 1136) (by decide +kernel)⟩
theorem lw_p28 : lw_okq (⟨"WakeBanksModel$Sea", "work", "([I)V"⟩, 23) := ⟨⟨by decide +kernel, by decide +kernel⟩, List.mem_of_getElem? (i := 925) (by decide +kernel), List.mem_of_getElem? (i := 1143) (by decide +kernel), List.mem_of_getElem? (i := 1144) (by decide +kernel)⟩
theorem lw_p29 : lw_okq (⟨"WakeBanksModel", "isTurbine", "(I)Z"⟩, 2) := ⟨⟨by decide +kernel, by decide +kernel⟩, List.mem_of_getElem? (i := 919) (by decide +kernel), List.mem_of_getElem? (i := 1151) (by decide +kernel), List.mem_of_getElem? (i := 1152) (by decide +kernel)⟩
theorem lw_p30 : lw_okq (⟨"WakeBanksModel", "isVessel", "(I)Z"⟩, 2) := ⟨⟨by decide +kernel, by decide +kernel⟩, List.mem_of_getElem? (i := 919) (by decide +kernel), List.mem_of_getElem? (i := 1169) (by decide +kernel), List.mem_of_getElem? (i := 1170) (by decide +kernel)⟩
theorem lw_p31 : lw_okq (⟨"WakeBanksModel", "turbineNow", "(II)I"⟩, 2) := ⟨⟨by decide +kernel, by decide +kernel⟩, List.mem_of_getElem? (i := 919) (by decide +kernel), List.mem_of_getElem? (i := 1189) (by decide +kernel), List.mem_of_getElem? (i := 1190) (by decide +kernel)⟩
def lw_privs_2 : List (MethodName × Nat) := [(⟨"WakeBanks$Sea", "work", "(LWakeBanks$Vessel;)V"⟩, 11), (⟨"WakeBanks", "checkString", "(I)V"⟩, 3), (⟨"WakeBanks", "checkVessel", "(I)V"⟩, 3), (⟨"WakeBanksModel", "no", "(I)I"⟩, 2), (⟨"WakeBanksModel", "isTaken", "(II)Z"⟩, 2), (⟨"WakeBanksModel$Sea", "turn", "([I)V"⟩, 23), (⟨"WakeBanksModel$Sea", "make", "([II)I"⟩, 23), (⟨"WakeBanksModel$Sea", "fit", "(III)I"⟩, 23), (⟨"WakeBanksModel$Sea", "isOn", "(II)Z"⟩, 23), (⟨"WakeBanksModel$Sea", "give", "(III)I"⟩, 23), (⟨"WakeBanksModel$Sea", "wear", "(I[I)V"⟩, 23), (⟨"WakeBanksModel$Sea", "load", "([I[I)I"⟩, 23), (⟨"WakeBanksModel$Sea", "work", "([I)V"⟩, 23), (⟨"WakeBanksModel", "isTurbine", "(I)Z"⟩, 2), (⟨"WakeBanksModel", "isVessel", "(I)Z"⟩, 2), (⟨"WakeBanksModel", "turbineNow", "(II)I"⟩, 2)]
theorem lw_r2 : ∀ q ∈ lw_privs_2, lw_okq q := List.forall_mem_cons.mpr ⟨lw_p16, List.forall_mem_cons.mpr ⟨lw_p17, List.forall_mem_cons.mpr ⟨lw_p18, List.forall_mem_cons.mpr ⟨lw_p19, List.forall_mem_cons.mpr ⟨lw_p20, List.forall_mem_cons.mpr ⟨lw_p21, List.forall_mem_cons.mpr ⟨lw_p22, List.forall_mem_cons.mpr ⟨lw_p23, List.forall_mem_cons.mpr ⟨lw_p24, List.forall_mem_cons.mpr ⟨lw_p25, List.forall_mem_cons.mpr ⟨lw_p26, List.forall_mem_cons.mpr ⟨lw_p27, List.forall_mem_cons.mpr ⟨lw_p28, List.forall_mem_cons.mpr ⟨lw_p29, List.forall_mem_cons.mpr ⟨lw_p30, List.forall_mem_cons.mpr ⟨lw_p31, fun _ h => absurd h List.not_mem_nil⟩⟩⟩⟩⟩⟩⟩⟩⟩⟩⟩⟩⟩⟩⟩⟩
theorem lw_p32 : lw_okq (⟨"WakeBanksModel", "stringNow", "(II)I"⟩, 2) := ⟨⟨by decide +kernel, by decide +kernel⟩, List.mem_of_getElem? (i := 919) (by decide +kernel), List.mem_of_getElem? (i := 1216) (by decide +kernel), List.mem_of_getElem? (i := 1217) (by decide +kernel)⟩
theorem lw_p33 : lw_okq (⟨"WakeBanksModel", "manyNow", "(I)I"⟩, 2) := ⟨⟨by decide +kernel, by decide +kernel⟩, List.mem_of_getElem? (i := 919) (by decide +kernel), List.mem_of_getElem? (i := 1228) (by decide +kernel), List.mem_of_getElem? (i := 1229) (by decide +kernel)⟩
theorem lw_p34 : lw_okq (⟨"WakeBanksModel", "inState", "(I)I"⟩, 2) := ⟨⟨by decide +kernel, by decide +kernel⟩, List.mem_of_getElem? (i := 919) (by decide +kernel), List.mem_of_getElem? (i := 1232) (by decide +kernel), List.mem_of_getElem? (i := 1233) (by decide +kernel)⟩
theorem lw_p35 : lw_okq (⟨"WakeBanksModel", "bestNow", "(I)I"⟩, 2) := ⟨⟨by decide +kernel, by decide +kernel⟩, List.mem_of_getElem? (i := 919) (by decide +kernel), List.mem_of_getElem? (i := 1254) (by decide +kernel), List.mem_of_getElem? (i := 1255) (by decide +kernel)⟩
def lw_privs_3 : List (MethodName × Nat) := [(⟨"WakeBanksModel", "stringNow", "(II)I"⟩, 2), (⟨"WakeBanksModel", "manyNow", "(I)I"⟩, 2), (⟨"WakeBanksModel", "inState", "(I)I"⟩, 2), (⟨"WakeBanksModel", "bestNow", "(I)I"⟩, 2)]
theorem lw_r3 : ∀ q ∈ lw_privs_3, lw_okq q := List.forall_mem_cons.mpr ⟨lw_p32, List.forall_mem_cons.mpr ⟨lw_p33, List.forall_mem_cons.mpr ⟨lw_p34, List.forall_mem_cons.mpr ⟨lw_p35, fun _ h => absurd h List.not_mem_nil⟩⟩⟩⟩
def lw_privs : List (MethodName × Nat) := lw_privs_1 ++ (lw_privs_2 ++ (lw_privs_3))
def lw_tbl : List Cond := k2_sels lw_privs ++ tables_1
theorem lw_privs_ok : ∀ q ∈ lw_privs, lw_okq q := by
  show ∀ q ∈ lw_privs_1 ++ (lw_privs_2 ++ (lw_privs_3)), lw_okq q
  exact List.forall_mem_append.mpr ⟨lw_r1, List.forall_mem_append.mpr ⟨lw_r2, lw_r3⟩⟩
/-- the streams that the claim lets the run draw from -/
abbrev lw_cs : List Choice := [Jvm.Choice.named "NaN.bits"]
theorem lw_bits : nanBits ∈ lw_cs := by first | decide | exact List.mem_cons_self | simp [lw_cs, nanBits]
end
section
/-- the kit's names speak of va_AOA (arrays over arrays), which it does not hold: made here as va_AO is -/
def va_AOA (ty : FieldType) (U : State) : Prop := (Cond.arrayOver (.array ty)).before #[] U = true
theorem va_AOA.of {ty : FieldType} {A : Array Value} {U : State} (h : (Cond.arrayOver (.array ty)).before A U = true) : va_AOA ty U := h
theorem va_AOA.use {ty : FieldType} {A : Array Value} {U : State} (h : va_AOA ty U) : (Cond.arrayOver (.array ty)).before A U = true := h
/-! ===== BEGIN words of one list among another's, by their places ===== -/
theorem goodIn_r {big : List Cond} (ws : List Cond) (ps : List Nat) (hp : ws = ps.filterMap (fun i => big[i]?)) (h : ws.all goodWord = true) : GoodIn big ws := by
  intro w hw
  have h1 := List.all_eq_true.mp h w hw
  rw [hp] at hw
  obtain ⟨i, -, hi⟩ := List.mem_filterMap.mp hw
  have hm : w ∈ big := by first | exact List.mem_of_getElem? hi | exact List.getElem?_mem hi
  exact ⟨hm, good_of_word h1⟩
theorem goodIn_app {big a b : List Cond} (ha : GoodIn big a) (hb : GoodIn big b) : GoodIn big (a ++ b) := fun w h => (List.mem_append.mp h).elim (ha w) (hb w)
theorem goodIn_ca {big a b : List Cond} {c : Cond} (ha : GoodIn big (c :: a)) (hb : GoodIn big b) : GoodIn big (c :: (a ++ b)) := fun w h => (List.mem_cons.mp h).elim (fun e => ha w (List.mem_cons.mpr (Or.inl e))) (fun h => (List.mem_append.mp h).elim (fun h => ha w (List.mem_cons.mpr (Or.inr h))) (hb w))
theorem goodIn_sub {big ws : List Cond} (hm : ∀ w ∈ ws, w ∈ big) (h : ws.all goodWord = true) : GoodIn big ws := fun w hw => ⟨hm w hw, good_of_word (List.all_eq_true.mp h w hw)⟩
/-! ===== END ===== -/

/-! ===== BEGIN new T[n][m]: the outer array a place, the inner ones among the pooled ===== -/
/-- f, but v at every address of l -/
def vr_up {α : Type} (f : Nat → α) (l : List Nat) (v : α) : Nat → α := fun a => if a ∈ l then v else f a
theorem vr_up_in {α : Type} {f : Nat → α} {l : List Nat} {v : α} {a : Nat} (h : a ∈ l) : vr_up f l v a = v := if_pos h
theorem vr_up_ne {α : Type} {f : Nat → α} {l : List Nat} {v : α} {a : Nat} (h : a ∉ l) : vr_up f l v a = f a := if_neg h
theorem vr_rows {L l : List Nat} {f : Nat → va_E} {e : va_E} (h : ∀ a, a ∈ l → a ∉ L) : va_pl L f ++ l.map (fun a => (a, e)) = va_pl (L ++ l) (vr_up f l e) := by
  unfold va_pl
  rw [List.map_append]
  congr 1
  · apply List.map_congr_left
    intro a ha
    rw [vr_up_ne (fun q => h a q ha)]
  · apply List.map_congr_left
    intro a ha
    rw [vr_up_in ha]
theorem vr_lay {X rows : va_W} {x : Nat × va_E} {pl : va_W} {D : va_G} {cl : List vw_C} {H : Heap} (hP : va_P D cl (((X ++ pl) ++ [x]) ++ rows) H) : va_P D cl ((X ++ [x]) ++ (pl ++ rows)) H := by
  rw [List.append_assoc (X ++ pl)] at hP
  have h := va_P.swap hP
  rw [← List.append_assoc X] at h
  have h2 := va_P.swap h
  rw [List.append_assoc (X ++ [x])] at h2
  exact h2
theorem vr_layD {X rows : va_W} {x : Nat × va_E} {pl : va_W} {A : Nat → Prop} (hD : va_D A (((X ++ pl) ++ [x]) ++ rows)) : va_D A ((X ++ [x]) ++ (pl ++ rows)) := by
  rw [List.append_assoc (X ++ pl)] at hD
  have h := va_D.swap hD
  rw [← List.append_assoc X] at h
  have h2 := va_D.swap h
  rw [List.append_assoc (X ++ [x])] at h2
  exact h2
theorem vr_outer (c : ClassId) (N h0 : Nat) : ∀ i : Nat, Jvm.Free.Multi.outerC c N h0 i = arrV c N (fun j => va_rf (if j < i then some (h0 + 1 + j) else none))
  | 0 => by
    show ({ cls := c, slots := Array.replicate N .null, vm := .none } : Cell) = _
    rw [arrV_new]
    refine congrArg (arrV c N) (funext fun j => ?_)
    simp [va_rf]
  | i + 1 => by
    show (Jvm.Free.Multi.outerC c N h0 i).setSlot i (.ref (h0 + 1 + i)) = _
    rw [vr_outer c N h0 i, arrV_store]
    refine congrArg (arrV c N) (funext fun j => ?_)
    by_cases e : j = i
    · subst e
      simp [updV, va_rf]
    · by_cases h : j < i
      · simp [updV, e, h, Nat.lt_succ_of_lt h]
      · simp [updV, e, h, show ¬ j < i + 1 by omega]
section VGM
variable {p : Program} {l : Launch} {e : Env} {R : Room} {s : State} {m : MethodId} {args : Array Value} {below : List Frame} {meth : Method} {c : Code} {H : Heap} {locs : List Loc} {cells slots : Nat} {Q : State → Prop}
variable {cc : ByteArray} {pc : Nat} {ls : Array Slot} {rest : List Value} {D : va_G} {cl : List vw_C} {A : Nat → Prop} {a : Nat} {tys : List (ClassId × FieldType)} {ws : va_W} {H0 : Heap}
theorem va_mna {X : va_W} {L : List Nat} {f : Nat → va_E} {cc : ByteArray} (hexec : p.tables.exec = Jvm.exec) (hb : c.code = cc) {own : String} {index : Nat} {ty : FieldType} {cy : ClassId} (hown : s.vm.findClass own = some m.cls) (hclink : (Cond.classLink own index ("[" ++ (FieldType.array ty).toString)).before args s = true) (hover : va_AOA ty s) (harr : (Cond.arrayClass ty).before args s = true) (hcy : s.vm.findClass (FieldType.array ty).toString = some cy)
    (hK : va_K D cl tys s) (hP : va_P D cl (X ++ va_pl L f) H) (hD : va_D A (X ++ va_pl L f)) (hS : va_S A H0 H locs) (hA : ∀ q, H0.size ≤ q → A q) {n k : Int32} {N' K' : Nat} {z : vp_A} (hn : ¬ n < 0) (hk : ¬ k < 0) (hN : n.toNatClampNeg = N') (hM : k.toNatClampNeg = K')
    (hb1 : N' * 4 ≤ 536870912) (hb2 : K' * componentBytes ty ≤ 536870912) (hb3 : K' ≤ 536870912) (hdf : fits ty (defaultValue ty) = true) (hdd : (defaultValue ty).isDefault = true) (hcells : cells + (1 + N') ≤ R.cells) (hslots : slots + (N' + N' * K') ≤ R.slots) (hz : ∀ c : ClassId, Jvm.Free.Multi.innerC c K' (defaultValue ty) = vp_cell c z) (hdg : decode cc pc = .ok (.multianewarray index 2, 4))
    (kk : ∀ (q : Nat) (r : Nat → Nat) (cA : ClassId) (H1 : Heap), (∀ i j : Nat, i < N' → j < N' → r i = r j → i = j) → (∀ i : Nat, i < N' → r i ∉ L) → va_K D cl (tys ++ [(cA, .array ty)]) s →
      va_P D cl ((X ++ [(q, .inl (cA, N', .inr (.inr (.inr (.inr (fun i => if i < N' then some (r i) else none))))))]) ++ va_pl (L ++ (List.range N').map r) (vr_up f ((List.range N').map r) (.inl (cy, z)))) H1 → va_D A ((X ++ [(q, .inl (cA, N', .inr (.inr (.inr (.inr (fun i => if i < N' then some (r i) else none))))))]) ++ va_pl (L ++ (List.range N').map r) (vr_up f ((List.range N').map r) (.inl (cy, z)))) → va_S A H0 H1 locs →
      W p l e R s m args below meth c H1 locs (cells + 1 + N') (slots + N' + N' * K') Q (F0 m (pc + 4) ls (.ref q :: rest))) : W p l e R s m args below meth c H locs cells slots Q (F0 m pc ls (.int k :: .int n :: rest)) := by
  subst hN
  subst hM
  intro T hT Xs
  obtain ⟨vm₁, cA, comp, -, fA, fC, hO, -, X', step⟩ := Xs.multianewarray2F hexec hown hclink (va_AOA.use hover) harr (g := F0 m pc ls (.int k :: .int n :: rest)) rfl (by rw [hb]; exact hdg) rfl hn hk hb1 hb2 hb3 hdf hdd hcells hslots
  have ec : some cy = some comp := hcy.symm.trans fC
  cases ec
  generalize hF : Jvm.Free.Multi.fill (T.setVm vm₁) cA cy n.toNatClampNeg k.toNatClampNeg (defaultValue ty) n.toNatClampNeg = F at X' step
  have hTh : (T.setVm vm₁).heap = H := hT
  obtain ⟨f1, f2, -, -⟩ := Jvm.Free.Multi.fill_facts (T.setVm vm₁) cA cy n.toNatClampNeg k.toNatClampNeg (defaultValue ty) n.toNatClampNeg
  rw [hF, hTh] at f1 f2
  have hold : ∀ x : Nat, x < H.size → F.heap[x]? = H[x]? := fun x hx => by
    have := Jvm.Free.Multi.fill_old (T.setVm vm₁) cA cy n.toNatClampNeg k.toNatClampNeg (defaultValue ty) (a := x) (by rw [hTh]; exact hx) n.toNatClampNeg
    rw [hF, hTh] at this
    exact this
  have hrow : ∀ j : Nat, j < n.toNatClampNeg → F.heap[H.size + 1 + j]? = some (vp_cell cy z) := fun j hj => by
    have := Jvm.Free.Multi.fill_inner (T.setVm vm₁) cA cy n.toNatClampNeg k.toNatClampNeg (defaultValue ty) n.toNatClampNeg j hj
    rw [hF, hTh, hz] at this
    exact this
  have hout : Jvm.Free.Multi.outerC cA n.toNatClampNeg H.size n.toNatClampNeg = vp_cell cA (n.toNatClampNeg, .inr (.inr (.inr (.inr (fun i => if i < n.toNatClampNeg then some (H.size + 1 + i) else none))))) := by
    rw [vp_cell_q]
    exact vr_outer cA n.toNatClampNeg H.size n.toNatClampNeg
  rw [hout] at f2
  have hlt : ∀ a, a ∈ L → a < H.size := fun a ha => by
    obtain ⟨k9, hk9⟩ := va_pl_get (X := X) (f := f) ha
    exact (hP k9 _ hk9).lt
  have hnl : ∀ i : Nat, i < n.toNatClampNeg → H.size + 1 + i ∉ L := fun i _ h => by
    have := hlt _ h
    omega
  have hnm : ∀ a, a ∈ (List.range n.toNatClampNeg).map (fun i => H.size + 1 + i) → a ∉ L := fun a ha h => by
    obtain ⟨i, -, rfl⟩ := List.mem_map.mp ha
    have := hlt _ h
    omega
  have hP0 : va_P D cl (X ++ va_pl L f) F.heap := hP.kept (fun k9 x hx => hold x.1 ((hP k9 x hx).lt))
  have hP1 : va_P D cl ((X ++ va_pl L f) ++ [(H.size, .inl (cA, n.toNatClampNeg, .inr (.inr (.inr (.inr (fun i => if i < n.toNatClampNeg then some (H.size + 1 + i) else none))))))]) F.heap := hP0.app (fun k9 x hx => by
    have h0 : k9 < 1 := (List.getElem?_eq_some_iff.mp hx).1
    rw [show k9 = 0 by omega] at hx
    cases hx
    exact f2)
  have hP2 : va_P D cl (((X ++ va_pl L f) ++ [(H.size, .inl (cA, n.toNatClampNeg, .inr (.inr (.inr (.inr (fun i => if i < n.toNatClampNeg then some (H.size + 1 + i) else none))))))]) ++ ((List.range n.toNatClampNeg).map (fun i => H.size + 1 + i)).map (fun a => (a, .inl (cy, z)))) F.heap := hP1.app (fun k9 x hx => by
    obtain ⟨a, ha, rfl⟩ := List.mem_map.mp (List.mem_of_getElem? hx)
    obtain ⟨i, hi, rfl⟩ := List.mem_map.mp ha
    exact hrow i (List.mem_range.mp hi))
  have hD2 : va_D A (((X ++ va_pl L f) ++ [(H.size, .inl (cA, n.toNatClampNeg, .inr (.inr (.inr (.inr (fun i => if i < n.toNatClampNeg then some (H.size + 1 + i) else none))))))]) ++ ((List.range n.toNatClampNeg).map (fun i => H.size + 1 + i)).map (fun a => (a, .inl (cy, z)))) := by
    have hD1 := hD.push (e := .inl (cA, n.toNatClampNeg, .inr (.inr (.inr (.inr (fun i => if i < n.toNatClampNeg then some (H.size + 1 + i) else none)))))) hP rfl (hA _ hS.1)
    generalize hW1 : (X ++ va_pl L f) ++ [(H.size, .inl (cA, n.toNatClampNeg, .inr (.inr (.inr (.inr (fun i => if i < n.toNatClampNeg then some (H.size + 1 + i) else none))))))] = W1 at hD1 hP1 ⊢
    have hle : ∀ (k9 : Nat) (x : Nat × va_E), W1[k9]? = some x → x.1 ≤ H.size := fun k9 x hx => by
      rw [← hW1] at hx
      by_cases hl : k9 < (X ++ va_pl L f).length
      · rw [List.getElem?_append_left hl] at hx
        exact Nat.le_of_lt ((hP k9 x hx).lt)
      · rw [List.getElem?_append_right (by omega)] at hx
        have h0 : k9 - (X ++ va_pl L f).length < 1 := (List.getElem?_eq_some_iff.mp hx).1
        rw [show k9 - (X ++ va_pl L f).length = 0 by omega] at hx
        cases hx
        exact Nat.le_refl _
    have hr : ∀ (k9 : Nat) (x : Nat × va_E), (((List.range n.toNatClampNeg).map (fun i => H.size + 1 + i)).map (fun a => ((a, .inl (cy, z)) : Nat × va_E)))[k9]? = some x → x.1 = H.size + 1 + k9 := fun k9 x hx => by
      rw [List.getElem?_map, List.getElem?_map] at hx
      by_cases h9 : k9 < n.toNatClampNeg
      · rw [List.getElem?_range h9] at hx
        cases hx
        rfl
      · have hn0 : (List.range n.toNatClampNeg)[k9]? = none := List.getElem?_eq_none (by rw [List.length_range]; omega)
        rw [hn0] at hx
        cases hx
    refine ⟨fun i j x y hi hj hxy => ?_, fun k9 x hx => ?_⟩
    · by_cases h1 : i < W1.length <;> by_cases h2 : j < W1.length
      · rw [List.getElem?_append_left h1] at hi
        rw [List.getElem?_append_left h2] at hj
        exact hD1.1 i j x y hi hj hxy
      · rw [List.getElem?_append_left h1] at hi
        rw [List.getElem?_append_right (by omega)] at hj
        have := hle _ _ hi
        have := hr _ _ hj
        omega
      · rw [List.getElem?_append_right (by omega)] at hi
        rw [List.getElem?_append_left h2] at hj
        have := hle _ _ hj
        have := hr _ _ hi
        omega
      · rw [List.getElem?_append_right (by omega)] at hi hj
        have := hr _ _ hi
        have := hr _ _ hj
        omega
    · by_cases h1 : k9 < W1.length
      · rw [List.getElem?_append_left h1] at hx
        exact hD1.2 k9 x hx
      · rw [List.getElem?_append_right (by omega)] at hx
        have := hr _ _ hx
        exact hA _ (by have := hS.1; omega)
  have hAr : ArrOfT s cA (.array ty) := fun N9 z9 => by
    obtain ⟨-, k9, hk9, cm9, hkk9⟩ := (hO 0 0 0).1
    exact ⟨(fun q hq => by cases hq), k9, hk9, cm9, hkk9⟩
  have hK2 : va_K D cl (tys ++ [(cA, .array ty)]) s := ⟨hK.1, fun k9 x hx => by
    by_cases hl : k9 < tys.length
    · rw [List.getElem?_append_left hl] at hx
      exact hK.2 k9 x hx
    · rw [List.getElem?_append_right (by omega)] at hx
      have h0 : k9 - tys.length < 1 := (List.getElem?_eq_some_iff.mp hx).1
      rw [show k9 - tys.length = 0 by omega] at hx
      cases hx
      exact ⟨hAr, fA⟩⟩
  obtain ⟨t, a1, b1⟩ := kk H.size (fun i => H.size + 1 + i) cA F.heap (fun i j _ _ h => by have h9 : H.size + 1 + i = H.size + 1 + j := h; omega) hnl hK2 (by rw [← vr_rows hnm]; exact vr_lay hP2) (by rw [← vr_rows hnm]; exact vr_layD hD2) ⟨by rw [f1]; have := hS.1; omega, fun x h1 h2 => (hold x (Nat.lt_of_lt_of_le h1 hS.1)).trans (hS.2.1 x h1 h2), hS.2.2⟩ F rfl X'
  refine ⟨t, step t ?_, b1⟩
  have e : T.heap.size = H.size := by rw [hT]
  rw [e]
  exact a1
end VGM
/-! ===== END ===== -/

/-! ===== BEGIN exceptions that leave a method, and their catching by the caller (launches without stack traces) ===== -/
section VXA
/-! The laws vx_back, vx_callV, vx_callS, vx_callSW, vx_throw0, vx_throwS follow proofs of the library, with one case more: JvmDerived/Free/Laws.lean (Back.of_free), Shelf42/LK1.lean (callV, callS), Shelf/KitTraced.lean (throwNew0V, throwNewS). -/
/-- where a method has thrown q: the class by its name, the cell, what was written, the world -/
def vx_T (XC : String → State → State → Prop) (st : State) (q : Addr) (t : State) (mc ms : Nat) (free : Addr → Prop) : Prop :=
  ∃ (E : String) (ce : Cell) (L : List Loc), XC E st t ∧ t.heap[q]? = some ce ∧ ce.vm = .none ∧ st.vm.findClass E = some ce.cls ∧ st.WarmedH t.vm ∧ st.sameButNew ({ t with vm := st.vm } : State) L mc ms ∧ ∀ z ∈ L, free z.base
def vx_Q (Qc : Array Value → State → Outcome → State → Prop) (XC : String → State → State → Prop) (mc ms : Nat) (free : Addr → Prop) : Array Value → State → Outcome → State → Prop := fun a st o t =>
  (Qc a st o t ∧ ∃ L, FrameEnd st o t L mc ms ∧ ∀ q ∈ L, free q.base) ∨ ∃ q, o = .threw q ∧ vx_T XC st q t mc ms free
/-- a callee that returns or throws -/
def vx_Met (l : Launch) (y : MethodName) (ws : List Cond) (rm : Room) (Pc : Array Value → State → Prop) (Qc : Array Value → State → Outcome → State → Prop) (XC : String → State → State → Prop) (mc ms : Nat) (free : Addr → Prop) : Prop :=
  MetFree l y (headSpec ws rm) Pc (fun _ _ _ _ _ => True) (vx_Q Qc XC mc ms free)
def vx_Post (XC : String → State → State → Prop) (mc ms : Nat) (free : Addr → Prop) : Pt → Array Value → Addr → Pt → Prop := fun A a q B =>
  ∃ (g : JFrame) (mk : MethodId) (t : State) (L : List Loc) (E : String) (ce : Cell), B.U.heap = t.heap ∧ B.U.vm = t.vm ∧ XC E (A.U.calling g mk a) t ∧ t.heap[q]? = some ce ∧ ce.vm = .none ∧ A.U.vm.findClass E = some ce.cls ∧ B.locs = A.locs ++ L ∧ (∀ z ∈ L, free z.base) ∧ B.cells = A.cells + mc ∧ B.slots = A.slots + ms
def vx_Back (l : Launch) (R : Room) (p : Program) (e : Env) (below : List Frame) (s : State) (sargs : Array Value) (y : MethodName) (len W9 : Nat)
    (Pre : Pt → Array Value → Prop) (Post : Pt → Array Value → Option Value → Pt → Prop) (PostX : Pt → Array Value → Addr → Pt → Prop) : Prop :=
  ∀ (m : MethodId) (meth : Method) (c : Code) (A : Pt) (g : JFrame) (ig : Instr) (mk : MethodId) (a : Array Value),
    Stand p l e R s m sargs below meth c A.U A.locs A.cells A.slots → g.method = m → g.locals.size = c.maxLocals → decode c.code g.pc = .ok (ig, len) →
    2 * g.monitorRoom + (g.stack.map fun v => v.category).sum ≤ W9 → A.U.methodNamed? y = some mk → Pre A a →
    (∃ (v : Option Value) (B : Pt), Stand p l e R s m sargs below meth c B.U B.locs B.cells B.slots ∧ Post A a v B ∧
      Steps p.tables e below (doInvoke e (A.U.setTop g) [] mk a).1 (B.U.setTop { g with pc := g.pc + len, stack := v.toList ++ g.stack })) ∨
    (∃ (q : Addr) (B : Pt), Stand p l e R s m sargs below meth c B.U B.locs B.cells B.slots ∧ PostX A a q B ∧
      Steps p.tables e below (doInvoke e (A.U.setTop g) [] mk a).1 ((B.U.setTop g).pushFrame (.throwing q)))
section Payer
variable {l : Launch} {R : Room} {p : Program} {e : Env} {below : List Frame} {s : State} {sargs : Array Value} {y : MethodName} {len W9 : Nat}
theorem vx_back {ws : List Cond} {rm : Room} {Pc : Array Value → State → Prop} {Qc : Array Value → State → Outcome → State → Prop} {XC : String → State → State → Prop} {mc ms : Nat} {free : Addr → Prop} {bytes : ByteArray} {maxL : Nat} {ret : Option FieldType}
    (hM : vx_Met l y ws rm Pc Qc XC mc ms free) (hblind : FrameBlind Pc) (hrc : rm.cells = mc) (hrs : rm.slots = ms)
    (hframes : rm.frames + 1 ≤ R.frames) (hlocals : W9 + (maxL + 11) + rm.locals ≤ R.locals)
    (hws : ∀ w ∈ ws, ∀ a' U, s.WarmedH U.vm → w.before a' U = true) (hcode : Cond.code y bytes maxL ret ∈ ws) (hinit : ∀ a' U, s.WarmedH U.vm → (Cond.initialized y.cls).before a' U = true) :
    vx_Back l R p e below s sargs y len W9 (PreOf R mc ms Pc) (PostOf Qc mc ms free) (vx_Post XC mc ms free) := by
  intro m meth c A g ig mk a X hg hsize hdg hW hn hp
  have h1 : (headSpec ws rm).pre.before a A.U = true := atoms_intro fun w hw => hws w hw _ _ X.warmed
  have h2 : (Cond.code y bytes maxL ret).before a A.U = true := hws _ hcode _ _ X.warmed
  have h3 : (Cond.initialized y.cls).before a A.U = true := hinit _ _ X.warmed
  have h4 : A.cells + (headSpec ws rm).room.cells ≤ R.cells := by rw [show (headSpec ws rm).room.cells = mc from hrc]; exact hp.1
  have h5 : A.slots + (headSpec ws rm).room.slots ≤ R.slots := by rw [show (headSpec ws rm).room.slots = ms from hrs]; exact hp.2.1
  have hPc : Pc a (A.U.calling g mk a) := hblind _ _ _ _ hp.2.2
  obtain ⟨U, Ls, c0, s0⟩ := A
  dsimp only [Pt.U, Pt.locs, Pt.cells, Pt.slots] at h1 h2 h3 h4 h5 X hn hPc ⊢
  obtain ⟨methY, cY, hmY, hcY, -, hlY, -, -, -, -⟩ := Cond.code_spec hn h2
  obtain ⟨kY, hkY, -⟩ := className_of_methodNamed hn
  have hinitY : kY.init = .initialized := Cond.initialized_spec (findClass_of_methodNamed hn) hkY h3
  have h : At U g.method c below := by rw [hg]; exact X.here
  have hlocals9 : W9 + (maxL + 11) + (headSpec ws rm).room.locals ≤ R.locals := hlocals
  have happ : (headSpec ws rm).appliesLoose y e.platform (U.calling g mk a) = true :=
    Spec.appliesLoose_calling (g := g) h hdg hn hkY hinitY
      (X.room_calling (g := g) (R' := (headSpec ws rm).room) hsize hmY hcY hframes (by rw [hlY]; omega) h4 h5) h1
  obtain ⟨mid, hmid⟩ := h.above
  have hfr : (U.setTop g).frames = (.java g :: mid) ++ below := by rw [State.frames_setTop' g h.top, hmid]; rfl
  obtain ⟨o, s₂, hsteps, -, hend, hq⟩ := Steps.callFree hM p X.admits X.cas X.clock (acts := []) hfr happ hPc trivial
  have hq' : vx_Q Qc XC mc ms free a (U.calling g mk a) o s₂ := hq
  rw [State.frames_setTop' g h.top] at hend
  obtain ⟨g₀, hg0⟩ := Option.isSome_iff_exists.mp h.top
  obtain ⟨r, hr⟩ := State.topJava?_eq_some.mp hg0
  have hr' : (({ U with heap := s₂.heap, slotsUsed := s₂.slotsUsed } : State).setVm s₂.vm).frames = .java g₀ :: r := hr
  rcases hq' with ⟨hqc, L, hfe, hL⟩ | ⟨q, rfl, E, ce, L, hx, hce, hcv, hcl, hW₂, hsm, hL⟩
  · obtain ⟨⟨v, rfl⟩, hW₂, e2, q2, q3, q4, q5, q6⟩ := id hfe
    have e3 : s₂ = ({ (U.calling g mk a).setFrames s₂.frames with heap := s₂.heap, slotsUsed := s₂.slotsUsed } : State).setVm s₂.vm := by
      have : s₂ = ({ s₂ with vm := (U.calling g mk a).vm } : State).setVm s₂.vm := rfl
      rw [e2] at this
      exact this
    obtain ⟨c₂, i₂, len₂, hc₂, hd₂, hf₂⟩ := hend
    have hW' : U.WarmedH s₂.vm := hW₂
    have hcc : c₂ = c := by
      have h1 : s₂.code? g.method = U.code? g.method := by
        rw [State.code?_eq, State.code?_eq, hW'.alike.method?]
      exact Option.some.inj (hc₂.symm.trans (h1.trans h.code))
    subst hcc
    have hlen : len₂ = len := by rw [hdg] at hd₂; cases hd₂; rfl
    subst hlen
    have hs₂ : s₂ = (({ U with heap := s₂.heap, slotsUsed := s₂.slotsUsed } : State).setVm s₂.vm).setTop { g with pc := g.pc + len₂, stack := v.toList ++ g.stack } := by
      refine e3.trans ?_
      rw [hf₂, State.calling_eq h.top, State.setFrames_setFrames, State.setTop_of_frames _ hr', hr]
      rfl
    have hsame : U.sameButNew ({ U with heap := s₂.heap, slotsUsed := s₂.slotsUsed } : State) L mc ms := by
      refine ⟨?_, q2, q3, q4, q5, q6⟩
      obtain ⟨t, ht, -⟩ := State.frames_cons hr
      show ({ U with heap := s₂.heap, slotsUsed := s₂.slotsUsed } : State) = { U.setFrames U.frames with heap := s₂.heap, slotsUsed := s₂.slotsUsed }
      rw [State.setFrames_self ht]
    subst hg
    refine Or.inl ⟨v, ⟨(({ U with heap := s₂.heap, slotsUsed := s₂.slotsUsed } : State).setVm s₂.vm), Ls ++ L, c0 + mc, s0 + ms⟩,
      ⟨X.admits, X.cas, X.clock, X.frames, X.room, X.hears, X.method, X.code, (X.here.setHeapUsed s₂.heap s₂.slotsUsed).setVm hW'.alike, X.tail, State.WarmedH.trans X.warmed hW', X.limits, X.bytes, X.same.trans (hsame.setVm s.vm)⟩,
      ⟨g, mk, s₂, L, rfl, rfl, hqc, rfl, hL, rfl, rfl⟩, ?_⟩
    show Steps p.tables e below _ ((({ U with heap := s₂.heap, slotsUsed := s₂.slotsUsed } : State).setVm s₂.vm).setTop { g with pc := g.pc + len₂, stack := v.toList ++ g.stack })
    rw [← hs₂]
    exact hsteps
  · obtain ⟨e2, q2, q3, q4, q5, q6⟩ := id hsm
    have e3 : s₂ = ({ (U.calling g mk a).setFrames s₂.frames with heap := s₂.heap, slotsUsed := s₂.slotsUsed } : State).setVm s₂.vm := by
      have : s₂ = ({ s₂ with vm := (U.calling g mk a).vm } : State).setVm s₂.vm := rfl
      rw [e2] at this
      exact this
    have hf₂ : s₂.frames = .throwing q :: .java g :: U.frames.tail := hend
    have hW' : U.WarmedH s₂.vm := hW₂
    have hs₂ : s₂ = ((({ U with heap := s₂.heap, slotsUsed := s₂.slotsUsed } : State).setVm s₂.vm).setTop g).pushFrame (.throwing q) := by
      refine e3.trans ?_
      rw [hf₂, State.calling_eq h.top, State.setFrames_setFrames, State.pushFrame, State.frames_setTop _ hr', State.setTop_of_frames _ hr', State.setFrames_setFrames, hr]
      rfl
    have hsame : U.sameButNew ({ U with heap := s₂.heap, slotsUsed := s₂.slotsUsed } : State) L mc ms := by
      refine ⟨?_, q2, q3, q4, q5, q6⟩
      obtain ⟨t, ht, -⟩ := State.frames_cons hr
      show ({ U with heap := s₂.heap, slotsUsed := s₂.slotsUsed } : State) = { U.setFrames U.frames with heap := s₂.heap, slotsUsed := s₂.slotsUsed }
      rw [State.setFrames_self ht]
    subst hg
    refine Or.inr ⟨q, ⟨(({ U with heap := s₂.heap, slotsUsed := s₂.slotsUsed } : State).setVm s₂.vm), Ls ++ L, c0 + mc, s0 + ms⟩,
      ⟨X.admits, X.cas, X.clock, X.frames, X.room, X.hears, X.method, X.code, (X.here.setHeapUsed s₂.heap s₂.slotsUsed).setVm hW'.alike, X.tail, State.WarmedH.trans X.warmed hW', X.limits, X.bytes, X.same.trans (hsame.setVm s.vm)⟩,
      ⟨g, mk, s₂, L, E, ce, rfl, rfl, hx, hce, hcv, hcl, rfl, hL, rfl, rfl⟩, ?_⟩
    show Steps p.tables e below _ (((({ U with heap := s₂.heap, slotsUsed := s₂.slotsUsed } : State).setVm s₂.vm).setTop g).pushFrame (.throwing q))
    rw [← hs₂]
    exact hsteps
end Payer
section Calls
variable {p : Program} {l : Launch} {e : Env} {R : Room} {s : State} {m : MethodId} {args : Array Value} {below : List Frame} {meth : Method} {c : Code} {T : State} {locs : List Loc} {cells slots : Nat}
theorem vx_callV (X : Stand p l e R s m args below meth c T locs cells slots) (hexec : p.tables.exec = Jvm.exec) {own C : String} {index : Nat} {y : MethodName} {bytes : ByteArray} {maxL : Nat} {ret : Option FieldType}
    (hown : s.vm.findClass own = some m.cls) (hlink : (Cond.methodLink own index y).before args s = true) (hinst : (Cond.instanceMethod y).before args s = true) (hsel : (Cond.selects C y y).before args s = true)
    (hcode : (Cond.code y bytes maxL ret).before args s = true) (hy : y.cls ≠ "java/lang/invoke/MethodHandle" ∧ y.cls ≠ "java/lang/invoke/VarHandle")
    {W9 : Nat} {Pre : Pt → Array Value → Prop} {Post : Pt → Array Value → Option Value → Pt → Prop} {PostX : Pt → Array Value → Addr → Pt → Prop} (hK : vx_Back l R p e below s args y 3 W9 Pre Post PostX)
    {b : Addr} {cellB : Cell} (hcell : T.heap[b]? = some cellB) (hobj : cellB.vm.isStatics = false) (hcls : s.vm.findClass C = some cellB.cls)
    {g : JFrame} (hg : g.method = m) (hsize : g.locals.size = c.maxLocals) {argsL rest : List Value} (hlen : ∀ sig, parseMethodDescriptor y.desc = some sig → argsL.length = sig.parameters.length)
    (hstack : g.stack = argsL.reverse ++ .ref b :: rest) (hW : 2 * g.monitorRoom + (rest.map fun v => v.category).sum ≤ W9) (hdg : decode c.code g.pc = .ok (.invokevirtual index, 3))
    (hpre : ∀ vm₁, s.WarmedH vm₁ → Pre ⟨T.setVm vm₁, locs, cells, slots⟩ (Value.ref b :: argsL).toArray) :
    (∃ (v : Option Value) (vm₁ : Vm) (B : Pt), s.WarmedH vm₁ ∧ Stand p l e R s m args below meth c B.U B.locs B.cells B.slots ∧ Post ⟨T.setVm vm₁, locs, cells, slots⟩ (Value.ref b :: argsL).toArray v B ∧
      ∀ target, Steps p.tables e below (B.U.setTop { g with pc := g.pc + 3, stack := v.toList ++ rest }) target → Steps p.tables e below (T.setTop g) target) ∨
    (∃ (q : Addr) (vm₁ : Vm) (B : Pt), s.WarmedH vm₁ ∧ Stand p l e R s m args below meth c B.U B.locs B.cells B.slots ∧ PostX ⟨T.setVm vm₁, locs, cells, slots⟩ (Value.ref b :: argsL).toArray q B ∧
      Steps p.tables e below (T.setTop g) ((B.U.setTop { g with stack := rest }).pushFrame (.throwing q))) := by
  obtain ⟨mk, methM, hnamed, hmethM, hstM, habM⟩ := Cond.instanceMethod_spec hinst
  obtain ⟨methM', cM, hmethM', -, -, -, -, -, -, hsigM⟩ := Cond.code_spec hnamed hcode
  cases hmethM.symm.trans hmethM'
  obtain ⟨c2, r2, m2, q1, q2, q3, q4, kP, hkP, hkPi⟩ := Cond.selects_spec hsel
  cases hcls.symm.trans q1
  cases (State.methodFound?_of_named hnamed hy).symm.trans q2
  cases hnamed.symm.trans q3
  have hselP : selectMethod e.platform s.vm cellB.cls mk = .method mk := by rw [Launch.admits_selectMethod X.admits]; exact q4
  obtain ⟨vm₁, X₁, hstep₁⟩ := X.invokevirtual hexec hown hlink hnamed hmethM hstM hkP hkPi hy (a := b) (cell := cellB) hcell
    (fun z h => by rw [h] at hobj; cases hobj) hselP hmethM habM hkP hkPi (g := g) hg (argsL := argsL) (rest := rest) (hlen _ hsigM) hstack hdg
  rcases hK m meth c ⟨T.setVm vm₁, locs, cells, slots⟩ { g with stack := rest } (.invokevirtual index) mk (Value.ref b :: argsL).toArray X₁ hg hsize hdg hW (X₁.named hnamed) (hpre vm₁ X₁.warmed) with ⟨v, B, X', hpost, hsteps⟩ | ⟨q, B, X', hpost, hsteps⟩
  · exact Or.inl ⟨v, vm₁, B, X₁.warmed, X', hpost, fun target h => hstep₁ _ fun acts => by rw [doInvoke_state]; exact hsteps.trans h⟩
  · exact Or.inr ⟨q, vm₁, B, X₁.warmed, X', hpost, hstep₁ _ fun acts => by rw [doInvoke_state]; exact hsteps⟩
theorem vx_callS (X : Stand p l e R s m args below meth c T locs cells slots) (hexec : p.tables.exec = Jvm.exec) {own : String} {index : Nat} {y : MethodName} {bytes : ByteArray} {maxL : Nat} {ret : Option FieldType}
    (hown : s.vm.findClass own = some m.cls) (hlink : (Cond.methodLink own index y).before args s = true) (hstat : (Cond.static y).before args s = true) (hinit : (Cond.initialized y.cls).before args s = true)
    (hcode : (Cond.code y bytes maxL ret).before args s = true) (hy : y.cls ≠ "java/lang/invoke/MethodHandle" ∧ y.cls ≠ "java/lang/invoke/VarHandle")
    {W9 : Nat} {Pre : Pt → Array Value → Prop} {Post : Pt → Array Value → Option Value → Pt → Prop} {PostX : Pt → Array Value → Addr → Pt → Prop} (hK : vx_Back l R p e below s args y 3 W9 Pre Post PostX)
    {g : JFrame} (hg : g.method = m) (hsize : g.locals.size = c.maxLocals) {argsL rest : List Value} (hlen : ∀ sig, parseMethodDescriptor y.desc = some sig → argsL.length = sig.parameters.length)
    (hstack : g.stack = argsL.reverse ++ rest) (hW : 2 * g.monitorRoom + (rest.map fun v => v.category).sum ≤ W9) (hdg : decode c.code g.pc = .ok (.invokestatic index, 3))
    (hpre : ∀ vm₁, s.WarmedH vm₁ → Pre ⟨T.setVm vm₁, locs, cells, slots⟩ argsL.toArray) :
    (∃ (v : Option Value) (vm₁ : Vm) (B : Pt), s.WarmedH vm₁ ∧ Stand p l e R s m args below meth c B.U B.locs B.cells B.slots ∧ Post ⟨T.setVm vm₁, locs, cells, slots⟩ argsL.toArray v B ∧
      ∀ target, Steps p.tables e below (B.U.setTop { g with pc := g.pc + 3, stack := v.toList ++ rest }) target → Steps p.tables e below (T.setTop g) target) ∨
    (∃ (q : Addr) (vm₁ : Vm) (B : Pt), s.WarmedH vm₁ ∧ Stand p l e R s m args below meth c B.U B.locs B.cells B.slots ∧ PostX ⟨T.setVm vm₁, locs, cells, slots⟩ argsL.toArray q B ∧
      Steps p.tables e below (T.setTop g) ((B.U.setTop { g with stack := rest }).pushFrame (.throwing q))) := by
  obtain ⟨mk, hnamed⟩ := Cond.code_named hcode
  obtain ⟨methM, cM, hmethM, -, -, -, -, -, -, hsigM⟩ := Cond.code_spec hnamed hcode
  have hstatic : methM.isStatic = true := Cond.static_spec hnamed hmethM hstat
  obtain ⟨kP, hkP, -⟩ := className_of_methodNamed hnamed
  have hinitP : kP.init = .initialized := Cond.initialized_spec (findClass_of_methodNamed hnamed) hkP hinit
  obtain ⟨vm₁, X₁, hstep₁⟩ := X.invokestatic hexec hown hlink hnamed hmethM hstatic hkP hinitP hy (g := g) hg (argsL := argsL) (rest := rest) (hlen _ hsigM) hstack hdg
  rcases hK m meth c ⟨T.setVm vm₁, locs, cells, slots⟩ { g with stack := rest } (.invokestatic index) mk argsL.toArray X₁ hg hsize hdg hW (X₁.named hnamed) (hpre vm₁ X₁.warmed) with ⟨v, B, X', hpost, hsteps⟩ | ⟨q, B, X', hpost, hsteps⟩
  · exact Or.inl ⟨v, vm₁, B, X₁.warmed, X', hpost, fun target h => hstep₁ _ fun acts => by rw [doInvoke_state]; exact hsteps.trans h⟩
  · exact Or.inr ⟨q, vm₁, B, X₁.warmed, X', hpost, hstep₁ _ fun acts => by rw [doInvoke_state]; exact hsteps⟩
end Calls
theorem vx_cls {s : State} {T : State} {vm₁ : Vm} {E : String} {k : ClassId} (hW : s.WarmedH vm₁) (h : (T.setVm vm₁).vm.findClass E = some k) : s.vm.findClass E = some k := by
  have h1 : vm₁.findClass E = some k := h
  rw [hW.alike.findClass] at h1
  exact h1
/-- the method's frame g, with q thrown over it -/
def vx_W (p : Program) (l : Launch) (e : Env) (R : Room) (s : State) (m : MethodId) (args : Array Value) (below : List Frame) (meth : Method) (c : Code) (H : Heap) (locs : List Loc) (cells slots : Nat) (Q : State → Prop) (g : JFrame) (q : Addr) : Prop :=
  ∀ T : State, T.heap = H → Stand p l e R s m args below meth c T locs cells slots → ∃ t, Steps p.tables e below ((T.setTop g).pushFrame (.throwing q)) t ∧ Q t
def vx_Run (p : Program) (l : Launch) (e : Env) (R : Room) (s : State) (m : MethodId) (args : Array Value) (below : List Frame) (meth : Method) (c : Code) (H : Heap) (locs : List Loc) (cells slots mc ms : Nat) (g : JFrame) (rest : List Value) (Qa : State → Outcome → State → Prop) (XC : String → State → State → Prop) (free : Addr → Prop) : Prop :=
  ∀ T : State, T.heap = H → Stand p l e R s m args below meth c T locs cells slots →
    (∃ (v : Option Value) (st₀ t T' : State) (L : List Loc), st₀.heap = H ∧ Stand p l e R s m args below meth c T' (locs ++ L) (cells + mc) (slots + ms) ∧ (∀ q ∈ L, free q.base) ∧ T'.heap = t.heap ∧ T'.vm = t.vm ∧ Qa st₀ (.returned v) t ∧
      Goes p e below T g T' { g with pc := g.pc + 3, stack := v.toList ++ rest }) ∨
    (∃ (q : Addr) (st₀ t T' : State) (L : List Loc) (E : String) (ce : Cell), st₀.heap = H ∧ Stand p l e R s m args below meth c T' (locs ++ L) (cells + mc) (slots + ms) ∧ (∀ z ∈ L, free z.base) ∧ T'.heap = t.heap ∧ T'.vm = t.vm ∧ XC E st₀ t ∧ t.heap[q]? = some ce ∧ ce.vm = .none ∧ s.vm.findClass E = some ce.cls ∧
      Steps p.tables e below (T.setTop g) ((T'.setTop { g with stack := rest }).pushFrame (.throwing q)))
def vx_X {S : Type} (px : S → Prop) (B : String → S → State → Prop) (A : Nat → Prop) : String → State → State → Prop := fun E st t => ∃ u : S, px u ∧ B E u t ∧ va_F A st t
section Runs
variable {p : Program} {l : Launch} {e : Env} {R : Room} {s : State} {m : MethodId} {args : Array Value} {below : List Frame} {meth : Method} {c : Code} {H : Heap} {locs : List Loc} {cells slots : Nat}
variable {y : MethodName} {bytes cc : ByteArray} {maxL nL mc ms n index : Nat} {ret : Option FieldType} {ws : List Cond} {rm : Room} {Pc : Array Value → State → Prop} {Qc : Array Value → State → Outcome → State → Prop} {XC : String → State → State → Prop} {free : Addr → Prop} {Ts : List Cond} {own C : String} {b : Addr} {As rest : List Value} {g : JFrame}
theorem vx_callBack (cb : CallB R s args own index y bytes maxL ret ws rm mc ms n) (hM : vx_Met l y ws rm Pc Qc XC mc ms free) (hbl : FrameBlind Pc) : vx_Back l R p e below s args y 3 8 (PreOf R mc ms Pc) (PostOf Qc mc ms free) (vx_Post XC mc ms free) := by
  obtain ⟨hrc, hrs, hfr, hlo, hws, hcw, -, hini, -⟩ := cb
  exact vx_back (bytes := bytes) (maxL := maxL) (ret := ret) hM hbl hrc hrs hfr hlo hws hcw (fun a' U hW => word_at hW (Or.inl (by first | rfl | simp [Cond.onTables, Cond.keeps, Cond.steady])) hini)
theorem vx_runV (S : CallFix p m c cc nL s args Ts own) (hM : vx_Met l y ws rm Pc Qc XC mc ms free) (cw : CallW R s args own C index y bytes maxL ret ws rm mc ms n) (hp : PreV s H C b Pc As)
    (hg : g.method = m) (hn : As.length = n) (hsize : g.locals.size = nL) (hstack : g.stack = As.reverse ++ .ref b :: rest) (hW : 2 * g.monitorRoom + (rest.map fun v => v.category).sum ≤ 8) (hdg : decode cc g.pc = .ok (.invokevirtual index, 3)) (hf : cells + mc ≤ R.cells ∧ slots + ms ≤ R.slots) :
    vx_Run p l e R s m args below meth c H locs cells slots mc ms g rest (Qc (Value.ref b :: As).toArray) XC free := by
  have hK : vx_Back l R p e below s args y 3 8 (PreOf R mc ms Pc) (PostOf Qc mc ms free) (vx_Post XC mc ms free) := vx_callBack cw.1 hM hp.1
  obtain ⟨⟨-, -, -, -, -, -, hcode, -, hy, hlen, hl⟩, hin, hse⟩ := cw
  obtain ⟨hx, hb, hml, ho, -⟩ := S
  obtain ⟨-, ⟨cellB, hcB, hoB, hclB⟩, hPc⟩ := hp
  intro T hT X
  rcases vx_callV X hx (C := C) (bytes := bytes) (maxL := maxL) (ret := ret) ho hl hin hse hcode hy hK (by rw [hT]; exact hcB) hoB hclB hg (hsize.trans hml.symm) (argsL := As) (rest := rest) (fun sig h => hn.trans (hlen sig h)) hstack hW (by rw [hb]; exact hdg)
    (fun vm₁ hW₁ => ⟨hf.1, hf.2, hPc (T.setVm vm₁) hT hW₁⟩) with ⟨v, vm₁, ⟨U', l2, c2, s2⟩, hW₁, X', ⟨g', mk, t, L, e1, e2, hq, h1, hL, h2, h3⟩, st⟩ | ⟨q, vm₁, ⟨U', l2, c2, s2⟩, hW₁, X', ⟨g', mk, t, L, E, ce, e1, e2, hq, hce, hcv, hcl, h1, hL, h2, h3⟩, st⟩
  · dsimp only [Pt.U, Pt.locs, Pt.cells, Pt.slots] at X' e1 e2 h1 h2 h3 st
    subst h1; subst h2; subst h3
    exact Or.inl ⟨v, (T.setVm vm₁).calling g' mk (Value.ref b :: As).toArray, t, U', L, hT, X', hL, e1, e2, hq, st⟩
  · dsimp only [Pt.U, Pt.locs, Pt.cells, Pt.slots] at X' e1 e2 h1 h2 h3 st hcl
    subst h1; subst h2; subst h3
    exact Or.inr ⟨q, (T.setVm vm₁).calling g' mk (Value.ref b :: As).toArray, t, U', L, E, ce, hT, X', hL, e1, e2, hq, hce, hcv, vx_cls hW₁ hcl, st⟩
theorem vx_runS (S : CallFix p m c cc nL s args Ts own) (hM : vx_Met l y ws rm Pc Qc XC mc ms free) (cw : CallB R s args own index y bytes maxL ret ws rm mc ms n ∧ (Cond.static y).before args s = true) (hp : PreS s H Pc As)
    (hg : g.method = m) (hn : As.length = n) (hsize : g.locals.size = nL) (hstack : g.stack = As.reverse ++ rest) (hW : 2 * g.monitorRoom + (rest.map fun v => v.category).sum ≤ 8) (hdg : decode cc g.pc = .ok (.invokestatic index, 3)) (hf : cells + mc ≤ R.cells ∧ slots + ms ≤ R.slots) :
    vx_Run p l e R s m args below meth c H locs cells slots mc ms g rest (Qc As.toArray) XC free := by
  have hK : vx_Back l R p e below s args y 3 8 (PreOf R mc ms Pc) (PostOf Qc mc ms free) (vx_Post XC mc ms free) := vx_callBack cw.1 hM hp.1
  obtain ⟨⟨-, -, -, -, -, -, hcode, hini, hy, hlen, hl⟩, hstt⟩ := cw
  obtain ⟨hx, hb, hml, ho, -⟩ := S
  intro T hT X
  rcases vx_callS X hx (bytes := bytes) (maxL := maxL) (ret := ret) ho hl hstt hini hcode hy hK hg (hsize.trans hml.symm) (argsL := As) (rest := rest) (fun sig h => hn.trans (hlen sig h)) hstack hW (by rw [hb]; exact hdg)
    (fun vm₁ hW₁ => ⟨hf.1, hf.2, hp.2 (T.setVm vm₁) hT hW₁⟩) with ⟨v, vm₁, ⟨U', l2, c2, s2⟩, hW₁, X', ⟨g', mk, t, L, e1, e2, hq, h1, hL, h2, h3⟩, st⟩ | ⟨q, vm₁, ⟨U', l2, c2, s2⟩, hW₁, X', ⟨g', mk, t, L, E, ce, e1, e2, hq, hce, hcv, hcl, h1, hL, h2, h3⟩, st⟩
  · dsimp only [Pt.U, Pt.locs, Pt.cells, Pt.slots] at X' e1 e2 h1 h2 h3 st
    subst h1; subst h2; subst h3
    exact Or.inl ⟨v, (T.setVm vm₁).calling g' mk As.toArray, t, U', L, hT, X', hL, e1, e2, hq, st⟩
  · dsimp only [Pt.U, Pt.locs, Pt.cells, Pt.slots] at X' e1 e2 h1 h2 h3 st hcl
    subst h1; subst h2; subst h3
    exact Or.inr ⟨q, (T.setVm vm₁).calling g' mk As.toArray, t, U', L, E, ce, hT, X', hL, e1, e2, hq, hce, hcv, vx_cls hW₁ hcl, st⟩
end Runs
section Rows
variable {p : Program} {l : Launch} {e : Env} {R : Room} {s : State} {m : MethodId} {args : Array Value} {below : List Frame} {meth : Method} {c : Code} {H : Heap} {locs : List Loc} {cells slots : Nat} {Q : State → Prop}
variable {mc ms : Nat} {free : Addr → Prop} {A0 A1 : Nat → Prop} {H0 : Heap} {a : Array Value} {pc : Nat} {ls : Array Slot} {st0 rest : List Value}
theorem vx_keep {st₀ t T' : State} {L : List Loc} (h0 : st₀.heap = H) (e1 : T'.heap = t.heap) (hS : va_S A0 H0 H locs) (hA : ∀ q, q < H.size → A1 q → A0 q) (hf : ∀ q, free q → A0 q) (hL : ∀ q ∈ L, free q.base) (hF : va_F A1 st₀ t) :
    H.size ≤ T'.heap.size ∧ (∀ q : Nat, q < H.size → ¬ A1 q → T'.heap[q]? = H[q]?) ∧ va_S A0 H0 T'.heap (locs ++ L) := by
  obtain ⟨hz, hk⟩ := hF
  rw [h0] at hz hk
  exact ⟨by rw [e1]; exact hz, fun q h1 h2 => by rw [e1]; exact hk q h1 h2,
    ⟨Nat.le_trans hS.1 (by rw [e1]; exact hz), fun q h1 h2 => by rw [e1, hk q (Nat.lt_of_lt_of_le h1 hS.1) (fun z => h2 (hA q (Nat.lt_of_lt_of_le h1 hS.1) z))]; exact hS.2.1 q h1 h2, fun q hq => by
      rcases List.mem_append.mp hq with h | h
      · exact hS.2.2 q h
      · exact hf _ (hL q h)⟩⟩
theorem vx_calli {S SX : Type} {post : Int32 → S → Prop} {px : SX → Prop} {B : S → State → Prop} {BX : String → SX → State → Prop} {AX : Nat → Prop} (hr : vx_Run p l e R s m args below meth c H locs cells slots mc ms (F0 m pc ls st0) rest (va_Qi post B A1 a) (vx_X px BX AX) free) (hS : va_S A0 H0 H locs) (hA : ∀ q, q < H.size → A1 q → A0 q) (hf : ∀ q, free q → A0 q) (hAX : ∀ q, q < H.size → AX q → A0 q)
    (kx : ∀ (E : String) (ce : Cell) (q9 : Addr) (u : SX) (t : State) (H1 : Heap) (locs1 : List Loc), t.heap = H1 → s.vm.Alike t.vm → px u → BX E u t → H.size ≤ H1.size → (∀ q : Nat, q < H.size → ¬ AX q → H1[q]? = H[q]?) → va_S A0 H0 H1 locs1 → H1[q9]? = some ce → ce.vm = .none → s.vm.findClass E = some ce.cls → vx_W p l e R s m args below meth c H1 locs1 (cells + mc) (slots + ms) Q (F0 m pc ls rest) q9)
    (kk : ∀ (r : Int32) (u : S) (t : State) (H1 : Heap) (locs1 : List Loc), t.heap = H1 → s.vm.Alike t.vm → post r u → B u t → H.size ≤ H1.size → (∀ q : Nat, q < H.size → ¬ A1 q → H1[q]? = H[q]?) → va_S A0 H0 H1 locs1 → W p l e R s m args below meth c H1 locs1 (cells + mc) (slots + ms) Q (F0 m (pc + 3) ls (.int r :: rest))) : W p l e R s m args below meth c H locs cells slots Q (F0 m pc ls st0) := by
  intro T hT X
  rcases hr T hT X with ⟨v, st₀, t, T', L, h0, X', hL, e1, e2, ⟨⟨r, u, hv, hp, hb⟩, hF⟩, st⟩ | ⟨q, st₀, t, T', L, E, ce, h0, X', hL, e1, e2, ⟨u, hp, hb, hF⟩, hce, hcv, hcl, st⟩
  · cases hv
    obtain ⟨k1, k2, k3⟩ := vx_keep h0 e1 hS hA hf hL hF
    obtain ⟨t2, a1, b1⟩ := kk r u t T'.heap (locs ++ L) e1.symm (by rw [← e2]; exact X'.warmed.alike) hp hb k1 k2 k3 T' rfl X'
    exact ⟨t2, st t2 a1, b1⟩
  · obtain ⟨k1, k2, k3⟩ := vx_keep h0 e1 hS hAX hf hL hF
    obtain ⟨t2, a1, b1⟩ := kx E ce q u t T'.heap (locs ++ L) e1.symm (by rw [← e2]; exact X'.warmed.alike) hp hb k1 k2 k3 (by rw [e1]; exact hce) hcv hcl T' rfl X'
    exact ⟨t2, st.trans a1, b1⟩
theorem vx_calll {S SX : Type} {post : Int64 → S → Prop} {px : SX → Prop} {B : S → State → Prop} {BX : String → SX → State → Prop} {AX : Nat → Prop} (hr : vx_Run p l e R s m args below meth c H locs cells slots mc ms (F0 m pc ls st0) rest (va_Ql post B A1 a) (vx_X px BX AX) free) (hS : va_S A0 H0 H locs) (hA : ∀ q, q < H.size → A1 q → A0 q) (hf : ∀ q, free q → A0 q) (hAX : ∀ q, q < H.size → AX q → A0 q)
    (kx : ∀ (E : String) (ce : Cell) (q9 : Addr) (u : SX) (t : State) (H1 : Heap) (locs1 : List Loc), t.heap = H1 → s.vm.Alike t.vm → px u → BX E u t → H.size ≤ H1.size → (∀ q : Nat, q < H.size → ¬ AX q → H1[q]? = H[q]?) → va_S A0 H0 H1 locs1 → H1[q9]? = some ce → ce.vm = .none → s.vm.findClass E = some ce.cls → vx_W p l e R s m args below meth c H1 locs1 (cells + mc) (slots + ms) Q (F0 m pc ls rest) q9)
    (kk : ∀ (r : Int64) (u : S) (t : State) (H1 : Heap) (locs1 : List Loc), t.heap = H1 → s.vm.Alike t.vm → post r u → B u t → H.size ≤ H1.size → (∀ q : Nat, q < H.size → ¬ A1 q → H1[q]? = H[q]?) → va_S A0 H0 H1 locs1 → W p l e R s m args below meth c H1 locs1 (cells + mc) (slots + ms) Q (F0 m (pc + 3) ls (.long r :: rest))) : W p l e R s m args below meth c H locs cells slots Q (F0 m pc ls st0) := by
  intro T hT X
  rcases hr T hT X with ⟨v, st₀, t, T', L, h0, X', hL, e1, e2, ⟨⟨r, u, hv, hp, hb⟩, hF⟩, st⟩ | ⟨q, st₀, t, T', L, E, ce, h0, X', hL, e1, e2, ⟨u, hp, hb, hF⟩, hce, hcv, hcl, st⟩
  · cases hv
    obtain ⟨k1, k2, k3⟩ := vx_keep h0 e1 hS hA hf hL hF
    obtain ⟨t2, a1, b1⟩ := kk r u t T'.heap (locs ++ L) e1.symm (by rw [← e2]; exact X'.warmed.alike) hp hb k1 k2 k3 T' rfl X'
    exact ⟨t2, st t2 a1, b1⟩
  · obtain ⟨k1, k2, k3⟩ := vx_keep h0 e1 hS hAX hf hL hF
    obtain ⟨t2, a1, b1⟩ := kx E ce q u t T'.heap (locs ++ L) e1.symm (by rw [← e2]; exact X'.warmed.alike) hp hb k1 k2 k3 (by rw [e1]; exact hce) hcv hcl T' rfl X'
    exact ⟨t2, st.trans a1, b1⟩
theorem vx_callf {S SX : Type} {post : UInt32 → S → Prop} {px : SX → Prop} {B : S → State → Prop} {BX : String → SX → State → Prop} {AX : Nat → Prop} (hr : vx_Run p l e R s m args below meth c H locs cells slots mc ms (F0 m pc ls st0) rest (va_Qf post B A1 a) (vx_X px BX AX) free) (hS : va_S A0 H0 H locs) (hA : ∀ q, q < H.size → A1 q → A0 q) (hf : ∀ q, free q → A0 q) (hAX : ∀ q, q < H.size → AX q → A0 q)
    (kx : ∀ (E : String) (ce : Cell) (q9 : Addr) (u : SX) (t : State) (H1 : Heap) (locs1 : List Loc), t.heap = H1 → s.vm.Alike t.vm → px u → BX E u t → H.size ≤ H1.size → (∀ q : Nat, q < H.size → ¬ AX q → H1[q]? = H[q]?) → va_S A0 H0 H1 locs1 → H1[q9]? = some ce → ce.vm = .none → s.vm.findClass E = some ce.cls → vx_W p l e R s m args below meth c H1 locs1 (cells + mc) (slots + ms) Q (F0 m pc ls rest) q9)
    (kk : ∀ (r : UInt32) (u : S) (t : State) (H1 : Heap) (locs1 : List Loc), t.heap = H1 → s.vm.Alike t.vm → post r u → B u t → H.size ≤ H1.size → (∀ q : Nat, q < H.size → ¬ A1 q → H1[q]? = H[q]?) → va_S A0 H0 H1 locs1 → W p l e R s m args below meth c H1 locs1 (cells + mc) (slots + ms) Q (F0 m (pc + 3) ls (.float r :: rest))) : W p l e R s m args below meth c H locs cells slots Q (F0 m pc ls st0) := by
  intro T hT X
  rcases hr T hT X with ⟨v, st₀, t, T', L, h0, X', hL, e1, e2, ⟨⟨r, u, hv, hp, hb⟩, hF⟩, st⟩ | ⟨q, st₀, t, T', L, E, ce, h0, X', hL, e1, e2, ⟨u, hp, hb, hF⟩, hce, hcv, hcl, st⟩
  · cases hv
    obtain ⟨k1, k2, k3⟩ := vx_keep h0 e1 hS hA hf hL hF
    obtain ⟨t2, a1, b1⟩ := kk r u t T'.heap (locs ++ L) e1.symm (by rw [← e2]; exact X'.warmed.alike) hp hb k1 k2 k3 T' rfl X'
    exact ⟨t2, st t2 a1, b1⟩
  · obtain ⟨k1, k2, k3⟩ := vx_keep h0 e1 hS hAX hf hL hF
    obtain ⟨t2, a1, b1⟩ := kx E ce q u t T'.heap (locs ++ L) e1.symm (by rw [← e2]; exact X'.warmed.alike) hp hb k1 k2 k3 (by rw [e1]; exact hce) hcv hcl T' rfl X'
    exact ⟨t2, st.trans a1, b1⟩
theorem vx_calld {S SX : Type} {post : UInt64 → S → Prop} {px : SX → Prop} {B : S → State → Prop} {BX : String → SX → State → Prop} {AX : Nat → Prop} (hr : vx_Run p l e R s m args below meth c H locs cells slots mc ms (F0 m pc ls st0) rest (va_Qd post B A1 a) (vx_X px BX AX) free) (hS : va_S A0 H0 H locs) (hA : ∀ q, q < H.size → A1 q → A0 q) (hf : ∀ q, free q → A0 q) (hAX : ∀ q, q < H.size → AX q → A0 q)
    (kx : ∀ (E : String) (ce : Cell) (q9 : Addr) (u : SX) (t : State) (H1 : Heap) (locs1 : List Loc), t.heap = H1 → s.vm.Alike t.vm → px u → BX E u t → H.size ≤ H1.size → (∀ q : Nat, q < H.size → ¬ AX q → H1[q]? = H[q]?) → va_S A0 H0 H1 locs1 → H1[q9]? = some ce → ce.vm = .none → s.vm.findClass E = some ce.cls → vx_W p l e R s m args below meth c H1 locs1 (cells + mc) (slots + ms) Q (F0 m pc ls rest) q9)
    (kk : ∀ (r : UInt64) (u : S) (t : State) (H1 : Heap) (locs1 : List Loc), t.heap = H1 → s.vm.Alike t.vm → post r u → B u t → H.size ≤ H1.size → (∀ q : Nat, q < H.size → ¬ A1 q → H1[q]? = H[q]?) → va_S A0 H0 H1 locs1 → W p l e R s m args below meth c H1 locs1 (cells + mc) (slots + ms) Q (F0 m (pc + 3) ls (.double r :: rest))) : W p l e R s m args below meth c H locs cells slots Q (F0 m pc ls st0) := by
  intro T hT X
  rcases hr T hT X with ⟨v, st₀, t, T', L, h0, X', hL, e1, e2, ⟨⟨r, u, hv, hp, hb⟩, hF⟩, st⟩ | ⟨q, st₀, t, T', L, E, ce, h0, X', hL, e1, e2, ⟨u, hp, hb, hF⟩, hce, hcv, hcl, st⟩
  · cases hv
    obtain ⟨k1, k2, k3⟩ := vx_keep h0 e1 hS hA hf hL hF
    obtain ⟨t2, a1, b1⟩ := kk r u t T'.heap (locs ++ L) e1.symm (by rw [← e2]; exact X'.warmed.alike) hp hb k1 k2 k3 T' rfl X'
    exact ⟨t2, st t2 a1, b1⟩
  · obtain ⟨k1, k2, k3⟩ := vx_keep h0 e1 hS hAX hf hL hF
    obtain ⟨t2, a1, b1⟩ := kx E ce q u t T'.heap (locs ++ L) e1.symm (by rw [← e2]; exact X'.warmed.alike) hp hb k1 k2 k3 (by rw [e1]; exact hce) hcv hcl T' rfl X'
    exact ⟨t2, st.trans a1, b1⟩
theorem vx_callv {S SX : Type} {post : S → Prop} {px : SX → Prop} {B : S → State → Prop} {BX : String → SX → State → Prop} {AX : Nat → Prop} (hr : vx_Run p l e R s m args below meth c H locs cells slots mc ms (F0 m pc ls st0) rest (va_Qv post B A1 a) (vx_X px BX AX) free) (hS : va_S A0 H0 H locs) (hA : ∀ q, q < H.size → A1 q → A0 q) (hf : ∀ q, free q → A0 q) (hAX : ∀ q, q < H.size → AX q → A0 q)
    (kx : ∀ (E : String) (ce : Cell) (q9 : Addr) (u : SX) (t : State) (H1 : Heap) (locs1 : List Loc), t.heap = H1 → s.vm.Alike t.vm → px u → BX E u t → H.size ≤ H1.size → (∀ q : Nat, q < H.size → ¬ AX q → H1[q]? = H[q]?) → va_S A0 H0 H1 locs1 → H1[q9]? = some ce → ce.vm = .none → s.vm.findClass E = some ce.cls → vx_W p l e R s m args below meth c H1 locs1 (cells + mc) (slots + ms) Q (F0 m pc ls rest) q9)
    (kk : ∀ (u : S) (t : State) (H1 : Heap) (locs1 : List Loc), t.heap = H1 → s.vm.Alike t.vm → post u → B u t → H.size ≤ H1.size → (∀ q : Nat, q < H.size → ¬ A1 q → H1[q]? = H[q]?) → va_S A0 H0 H1 locs1 → W p l e R s m args below meth c H1 locs1 (cells + mc) (slots + ms) Q (F0 m (pc + 3) ls (rest))) : W p l e R s m args below meth c H locs cells slots Q (F0 m pc ls st0) := by
  intro T hT X
  rcases hr T hT X with ⟨v, st₀, t, T', L, h0, X', hL, e1, e2, ⟨⟨u, hv, hp, hb⟩, hF⟩, st⟩ | ⟨q, st₀, t, T', L, E, ce, h0, X', hL, e1, e2, ⟨u, hp, hb, hF⟩, hce, hcv, hcl, st⟩
  · cases hv
    obtain ⟨k1, k2, k3⟩ := vx_keep h0 e1 hS hA hf hL hF
    obtain ⟨t2, a1, b1⟩ := kk u t T'.heap (locs ++ L) e1.symm (by rw [← e2]; exact X'.warmed.alike) hp hb k1 k2 k3 T' rfl X'
    exact ⟨t2, st t2 a1, b1⟩
  · obtain ⟨k1, k2, k3⟩ := vx_keep h0 e1 hS hAX hf hL hF
    obtain ⟨t2, a1, b1⟩ := kx E ce q u t T'.heap (locs ++ L) e1.symm (by rw [← e2]; exact X'.warmed.alike) hp hb k1 k2 k3 (by rw [e1]; exact hce) hcv hcl T' rfl X'
    exact ⟨t2, st.trans a1, b1⟩
/-- caught by the row x of this method's table; the rows ahead don't take it -/
theorem vx_catch {own name : String} {E : String} {ce : Cell} {q : Addr} (hown : s.vm.findClass own = some m.cls) (pre : List ExceptionTableEntry) (x : ExceptionTableEntry) (suf : List ExceptionTableEntry) (hsplit : c.exceptionTable.toList = pre ++ x :: suf)
    (hpass : ∀ z ∈ pre, covers z pc = false ∨ (z.catchType ≠ 0 ∧ ∃ nm : String, (Cond.classLink own z.catchType nm).before args s = true ∧ va_Nc E nm s)) (hx : covers x pc = true) (h0 : x.catchType ≠ 0)
    (hlink : (Cond.classLink own x.catchType name).before args s = true) (hcast : (Cond.castable E name).before args s = true) (hcell : H[q]? = some ce) (hv : ce.vm = .none) (hcl : s.vm.findClass E = some ce.cls)
    (kk : W p l e R s m args below meth c H locs cells slots Q (F0 m x.handlerPc ls [.ref q])) : vx_W p l e R s m args below meth c H locs cells slots Q (F0 m pc ls rest) q := by
  intro T hT X
  have hpl : e.platform.magicAccessors = ({} : Platform).magicAccessors := by rw [X.admits.platform]
  obtain ⟨c3, c4, hc3, hc4, hasg⟩ := Cond.castable_spec hcast
  cases Option.some.inj (hc3.symm.trans hcl)
  obtain ⟨c5, hc5, hcl5⟩ := Cond.classLink_spec hown hlink e.platform hpl
  cases Option.some.inj (hc4.symm.trans hc5)
  obtain ⟨vm', X', st⟩ := X.thenCaughtThrough q (g := F0 m pc ls rest) rfl (Steps.refl _) (by rw [hT]; exact hcell) (by rw [hv]; rfl) (by obtain ⟨k9, h9, -⟩ := Vm.findClass_spec hcl; exact ⟨k9, h9⟩) pre x suf hsplit
    (fun z hz => by
      rcases hpass z hz with h | ⟨hz0, nm, hl1, hn1⟩
      · exact Or.inl h
      · obtain ⟨c6, hc6, hcl6⟩ := Cond.classLink_spec hown hl1 e.platform hpl
        obtain ⟨a8, b8, h1, h2, h3⟩ := hn1
        cases Option.some.inj (h1.symm.trans hcl)
        cases Option.some.inj (h2.symm.trans hc6)
        exact Or.inr ⟨hz0, _, hcl6, h3⟩) hx (Or.inr ⟨h0, c4, hcl5, hasg⟩)
  obtain ⟨t, a1, b1⟩ := kk (T.setVm vm') hT X'
  exact ⟨t, st.trans a1, b1⟩
end Rows
section Ends
variable {p : Program} {l : Launch} {e : Env} {R : Room} {s : State} {m : MethodId} {args : Array Value} {below : List Frame} {meth : Method} {c : Code} {H : Heap} {locs : List Loc} {cells slots : Nat} {Q : State → Prop}
variable {mc ms : Nat} {free : Addr → Prop} {A0 A1 : Nat → Prop} {H0 : Heap} {a : Array Value} {ls : Array Slot} {st0 rest : List Value}
variable {Qc : Array Value → State → Outcome → State → Prop} {XC : String → State → State → Prop}
/-- what a body that may throw owes at its end -/
def vx_MQ (below : List Frame) (Qc : Array Value → State → Outcome → State → Prop) (XC : String → State → State → Prop) (a : Array Value) (s : State) (mc ms : Nat) (free : Addr → Prop) : State → Prop := fun t =>
  ∃ o, t.status = .running ∧ Ended t below o ∧ vx_Q Qc XC mc ms free a s o t
theorem vx_ret {g : JFrame} {mc ms : Nat} (k : W p l e R s m args below meth c H locs cells slots (MQ below Qc args s mc ms free) g) : W p l e R s m args below meth c H locs cells slots (vx_MQ below Qc XC args s mc ms free) g := by
  intro T hT X
  obtain ⟨t, a1, o, b1, b2, b3, b4⟩ := k T hT X
  exact ⟨t, a1, o, b1, b2, Or.inl ⟨b3, b4⟩⟩
/-- not caught here: it goes on to the caller -/
theorem vx_widen {g : JFrame} {q : Addr} {k n : Nat} (h1 : cells ≤ k) (h2 : slots ≤ n) (kk : vx_W p l e R s m args below meth c H locs k n Q g q) : vx_W p l e R s m args below meth c H locs cells slots Q g q := fun T hT X => kk T hT (stand_widen X h1 h2)
theorem vx_out {pc : Nat} {E : String} {ce : Cell} {q : Addr} {mc ms : Nat} (hout : ∀ x ∈ c.exceptionTable.toList, covers x pc = false) (hlocks : meth.locks = false) (hcell : H[q]? = some ce) (hv : ce.vm = .none) (hcl : s.vm.findClass E = some ce.cls)
    (hx : ∀ t : State, t.heap = H → s.vm.Alike t.vm → XC E s t) (hf : ∀ z ∈ locs, free z.base) (hc : cells ≤ mc) (hs : slots ≤ ms) :
    vx_W p l e R s m args below meth c H locs cells slots (vx_MQ below Qc XC args s mc ms free) (F0 m pc ls rest) q := by
  intro T hT X
  obtain ⟨st1, hrun, hend, hW, hsm⟩ := X.leaveThrown q (g := F0 m pc ls rest) rfl rfl rfl hout hlocks
  have hcell9 : (T.setFrames (.throwing q :: below)).heap[q]? = some ce := by
    show T.heap[q]? = some ce
    rw [hT]; exact hcell
  exact ⟨_, st1, .threw q, hrun, hend, Or.inr ⟨q, rfl, E, ce, locs, hx _ hT hW.alike, hcell9, hv, hcl, hW, hsm.mono hc hs, hf⟩⟩
theorem vx_frame {U : State} {k n : Nat} (h : s.sameButNew ({ U with vm := s.vm } : State) locs k n) : s.heap.size ≤ U.heap.size ∧ ∀ q : Nat, q < s.heap.size → (∀ z ∈ locs, z.base ≠ q) → U.heap[q]? = s.heap[q]? := by
  obtain ⟨-, h2, -, -, -, h6⟩ := h
  refine ⟨h2, fun q hq hz => ?_⟩
  obtain ⟨c9, e1, e2, e3, e4⟩ := h6 q _ (Array.getElem?_eq_getElem hq)
  have hs : c9.slots = (s.heap[q]).slots := Array.ext_getElem? fun i => e4 i fun hm => hz _ hm rfl
  have h9 : c9 = s.heap[q] := by
    rw [hs] at e2
    exact e2
  have e5 : U.heap[q]? = some c9 := e1
  rw [e5, h9, Array.getElem?_eq_getElem hq]
/-- the words of a throw but the four that speak of the heap -/
def vx_no (w : Cond) : Bool := decide (w ≠ .isRef (.static Bundle.tN "UNASSIGNED_STACK" Bundle.steD)) && decide (w ≠ .isRef (.static Bundle.tN "SUPPRESSED_SENTINEL" Bundle.listD)) && decide (w ≠ .laysStatic Bundle.tN "UNASSIGNED_STACK" Bundle.steD) && decide (w ≠ .laysStatic Bundle.tN "SUPPRESSED_SENTINEL" Bundle.listD)
def vx_at0 (own : String) (ic : Nat) (X : String) (names : List String) : List Cond := (Bundle.ownAtoms0 own ic X names).filter vx_no
def vx_atS (own : String) (ic : Nat) (X : String) (names : List String) : List Cond := (Bundle.ownAtoms own ic X names).filter vx_no
/-- a word that the tables alone decide, or a good one -/
def vx_ot (w : Cond) : Bool := w.onTables || goodWord w
theorem vx_ot_at {args a' : Array Value} {s U : State} {w : Cond} (hW : s.WarmedH U.vm) (hvm : s.vm = U.vm) (hg : vx_ot w = true) (h : w.before args s = true) : w.before a' U = true := by
  simp only [vx_ot, Bool.or_eq_true] at hg
  rcases hg with hg | hg
  · exact va_tabs hg hvm h
  · exact word_at hW (good_of_word hg) h
/-- a list's words: the good ones out of the method's own list, the others by premises of their own -/
theorem vx_hat {args : Array Value} {s : State} {L B : List Cond} (h1 : ∀ w ∈ L.filter goodWord, w.before args s = true) (h2 : ∀ w ∈ L.filter (fun w => !goodWord w), w ∈ B) (h3 : ∀ w ∈ B, w.before args s = true) : ∀ w ∈ L, w.before args s = true := by
  intro w hw
  by_cases g : goodWord w = true
  · exact h1 w (List.mem_filter.mpr ⟨hw, g⟩)
  · refine h3 w (h2 w (List.mem_filter.mpr ⟨hw, ?_⟩))
    show (!goodWord w) = true
    cases hgw : goodWord w
    · rfl
    · exact absurd hgw g
theorem vx_c {args : Array Value} {s : State} {w : Cond} {B : List Cond} (h : w.before args s = true) (t : ∀ w ∈ B, w.before args s = true) : ∀ w' ∈ w :: B, w'.before args s = true := fun w' h' => (List.mem_cons.mp h').elim (fun e => by rw [e]; exact h) (t w')
theorem vx_n {args : Array Value} {s : State} : ∀ w ∈ ([] : List Cond), w.before args s = true := fun _ h => nomatch h
theorem vx_own {args : Array Value} {s : State} {L : List Cond} (h1 : ∀ w ∈ L.filter vx_no, w.before args s = true)
    (hU : (Cond.isRef (.static Bundle.tN "UNASSIGNED_STACK" Bundle.steD)).before args s = true) (hN : (Cond.isRef (.static Bundle.tN "SUPPRESSED_SENTINEL" Bundle.listD)).before args s = true)
    (lU : (Cond.laysStatic Bundle.tN "UNASSIGNED_STACK" Bundle.steD).before args s = true) (lN : (Cond.laysStatic Bundle.tN "SUPPRESSED_SENTINEL" Bundle.listD).before args s = true) : ∀ w ∈ L, w.before args s = true := by
  intro w hw
  by_cases e1 : w = .isRef (.static Bundle.tN "UNASSIGNED_STACK" Bundle.steD)
  · rw [e1]; exact hU
  · by_cases e2 : w = .isRef (.static Bundle.tN "SUPPRESSED_SENTINEL" Bundle.listD)
    · rw [e2]; exact hN
    · by_cases e3 : w = .laysStatic Bundle.tN "UNASSIGNED_STACK" Bundle.steD
      · rw [e3]; exact lU
      · by_cases e4 : w = .laysStatic Bundle.tN "SUPPRESSED_SENTINEL" Bundle.listD
        · rw [e4]; exact lN
        · exact h1 w (List.mem_filter.mpr ⟨hw, by unfold vx_no; rw [decide_eq_true e1, decide_eq_true e2, decide_eq_true e3, decide_eq_true e4]; rfl⟩)
/-- where a static field lies, its class's statics cell in H -/
def vx_L (C n d : String) (A : Nat → Prop) (U : State) (H : Heap) : Prop := ∃ (c : ClassId) (k : Class) (i : Nat) (f : Field) (a : Nat) (cell : Cell), U.vm.findClass C = some c ∧ U.fieldFound? C n d = some (c, k, i, f) ∧ f.isStatic = true ∧ k.statics = some a ∧ H[a]? = some cell ∧ cell.vm.isStatics = true ∧ cell.cls = c ∧ f.slot < cell.slots.size ∧ k.staticTypes[f.slot]? = some f.type ∧ ¬ A a
theorem vx_L.moved {C n d : String} {A : Nat → Prop} {u U : State} {H : Heap} (hvm : u.vm.Alike U.vm) (h : vx_L C n d A u H) : vx_L C n d A U H := by
  obtain ⟨c, k, i, f, a, cell, h1, h2, h3, h4, h5, h6, h7, h8, h9, h10⟩ := h
  obtain ⟨k', hi', he⟩ := State.fieldFound?_setVm hvm h2
  exact ⟨c, k', i, f, a, cell, by rw [hvm.findClass]; exact h1, hi', h3, by rw [he]; exact h4, h5, h6, h7, h8, by rw [he]; exact h9, h10⟩
theorem vx_L.kept {C n d : String} {A : Nat → Prop} {U : State} {H H1 : Heap} (h : vx_L C n d A U H) (hq : ∀ a : Nat, a < H.size → ¬ A a → H1[a]? = H[a]?) : vx_L C n d A U H1 := by
  obtain ⟨c, k, i, f, a, cell, h1, h2, h3, h4, h5, h6, h7, h8, h9, h10⟩ := h
  exact ⟨c, k, i, f, a, cell, h1, h2, h3, h4, by rw [hq a (Array.getElem?_eq_some_iff.mp h5).1 h10]; exact h5, h6, h7, h8, h9, h10⟩
theorem vx_L.narrow {C n d : String} {A B : Nat → Prop} {U : State} {H : Heap} (h : vx_L C n d A U H) (hAB : ∀ q, B q → A q) : vx_L C n d B U H := by
  obtain ⟨c, k, i, f, a, cell, h1, h2, h3, h4, h5, h6, h7, h8, h9, h10⟩ := h
  exact ⟨c, k, i, f, a, cell, h1, h2, h3, h4, h5, h6, h7, h8, h9, fun z => h10 (hAB _ z)⟩
theorem vx_L.word {C n d : String} {A : Nat → Prop} {s : State} {args : Array Value} (h : vx_L C n d A s s.heap) : (Cond.laysStatic C n d).before args s = true := by
  obtain ⟨c, k, i, f, a, cell, h1, h2, h3, h4, h5, h6, h7, h8, h9, -⟩ := h
  show (Cond.laysStatic C n d).holds args s none s [] = true
  exact Cond.laysStatic_of h1 h2 h3 h4 h5 h6 h7 h8 h9
/-- .. and what it holds: null or some reference -/
def vx_Zq (C n d : String) (A : Nat → Prop) (U : State) (H : Heap) : Prop := va_Zq C n d A U H ∧ vx_L C n d A U H
theorem vx_Zq.moved {C n d : String} {A : Nat → Prop} {u U : State} {H : Heap} (hvm : u.vm.Alike U.vm) (h : vx_Zq C n d A u H) : vx_Zq C n d A U H := ⟨va_Zq.moved hvm h.1, vx_L.moved hvm h.2⟩
theorem vx_Zq.kept {C n d : String} {A : Nat → Prop} {U : State} {H H1 : Heap} (h : vx_Zq C n d A U H) (hq : ∀ a : Nat, a < H.size → ¬ A a → H1[a]? = H[a]?) : vx_Zq C n d A U H1 := ⟨va_Zq.kept h.1 hq, vx_L.kept h.2 hq⟩
theorem vx_Zq.narrow {C n d : String} {A B : Nat → Prop} {U : State} {H : Heap} (h : vx_Zq C n d A U H) (hAB : ∀ q, B q → A q) : vx_Zq C n d B U H := ⟨va_Zq.narrow h.1 hAB, vx_L.narrow h.2 hAB⟩
theorem vx_Zqof {args : Array Value} {s : State} {C n d : String} {A : Nat → Prop} (hl : (Cond.laysStatic C n d).before args s = true) (hini : (Cond.initialized C).before args s = true) (h : (Cond.isRef (.static C n d)).before args s = true) (hA : ∀ a : Nat, a < s.heap.size → ¬ A a) : vx_Zq C n d A s s.heap := by
  refine ⟨va_Zqof hl hini h hA, ?_⟩
  obtain ⟨c, k, i, f, a, cell, h1, h2, h3, h4, h5, h6, h7, h8, h9⟩ := Cond.laysStatic_spec hl
  exact ⟨c, k, i, f, a, cell, h1, h2, h3, h4, h5, h6, h7, h8, h9, hA a (Array.getElem?_eq_some_iff.mp h5).1⟩
theorem vx_isRef {C n d : String} {v : Value} {A : Nat → Prop} {s : State} {args : Array Value} (h : va_Z C n d v A s s.heap) (hv : v.isRef = true) : (Cond.isRef (.static C n d)).before args s = true := by
  obtain ⟨cf, kf, fi, f, a, cell, h1, h2, h3, h4, h5, h6, h7, -⟩ := h
  have he : (Term.static C n d).eval args s none [] s = some v := by
    simp [Term.eval, State.fieldNamed?, h1, h2, h4, h5, h6, h7]
  simp only [Cond.before, Cond.holds, Cond.value, he]
  cases v <;> simp_all [Value.isRef]
theorem vx_isRefq {C n d : String} {A : Nat → Prop} {s : State} {args : Array Value} (h : va_Zq C n d A s s.heap) : (Cond.isRef (.static C n d)).before args s = true := by
  rcases h with h | ⟨t, h⟩
  · exact vx_isRef h rfl
  · exact vx_isRef h rfl
/-- the same frame, seen from here: as if the method were called anew in this heap -/
theorem vx_rebase {T : State} (X : Stand p l e R s m args below meth c T locs cells slots) {R' : Room} (hf : R'.frames ≤ R.frames) (hl : R'.locals ≤ R.locals) (hc : cells + R'.cells ≤ R.cells) (hs : slots + R'.slots ≤ R.slots) :
    Stand p l e R' ((T.setVm s.vm).setFrames (.invoking m args :: below)) m args below meth c T [] 0 0 := by
  have htop : (T.setVm s.vm).topJava?.isSome := X.here.top
  have hF : ((T.setVm s.vm).setFrames (.invoking m args :: below)).frames = .invoking m args :: below := State.frames_setFrames _ (State.cur_lt_of_top htop)
  obtain ⟨g₀, hg0⟩ := Option.isSome_iff_exists.mp htop
  obtain ⟨r, hr⟩ := State.topJava?_eq_some.mp hg0
  have hl9 : e.platform.stackLimits (T.setVm s.vm).me = e.platform.stackLimits s.me := X.limits
  have hb9 : (T.setVm s.vm).me.stackBytes = s.me.stackBytes := X.bytes
  refine ⟨X.admits, X.cas, X.clock, hF, ?_, X.hears, X.method, X.code, X.here, X.tail, X.warmed, ?_, ?_, ?_⟩
  · have h := X.room
    have hU : ((T.setVm s.vm).setFrames (.invoking m args :: below)).localsInUse = s.localsInUse := by
      rw [State.localsInUse_invoking hF (meth := meth) (c := c) X.method X.code, State.localsInUse_invoking X.frames X.method X.code]
    simp only [State.hasRoom, Bool.and_eq_true, decide_eq_true_eq] at h ⊢
    obtain ⟨⟨⟨⟨h1, h2, h3, h4, h5, h6⟩, h7⟩, h8⟩, h9⟩ := h
    rw [X.frames, List.length_cons] at h2 h3
    have q1 := X.heapSize
    have q2 := X.used
    simp only [hF, hU, List.length_cons, State.stackLimits_setFrames, State.stackBytes_setFrames, hl9, hb9]
    refine ⟨⟨⟨⟨by omega, by omega, by omega, by omega, by omega, h6⟩, ?_⟩, ?_⟩, X.book⟩
    · show T.heap.size + R'.cells ≤ e.platform.maxCells
      omega
    · show T.slotsUsed + R'.slots ≤ e.platform.maxSlots
      omega
  · rw [State.stackLimits_setFrames]; rfl
  · rw [State.stackBytes_setFrames]; rfl
  · refine ⟨?_, Nat.le_refl _, Nat.le_refl _, ?_, ?_, fun a c9 h9 => ⟨c9, h9, rfl, rfl, fun _ _ => rfl⟩⟩
    · obtain ⟨t, ht, -⟩ := State.frames_cons hr
      show T.setVm s.vm = { ((T.setVm s.vm).setFrames (.invoking m args :: below)).setFrames (T.setVm s.vm).frames with heap := T.heap, slotsUsed := T.slotsUsed }
      rw [State.setFrames_setFrames, State.setFrames_self ht]
      rfl
    · show T.slotsUsed = T.slotsUsed + ((T.heap.toList.drop T.heap.size).map (·.slots.size)).sum
      rw [List.drop_eq_nil_of_le (Nat.le_of_eq Array.length_toList)]
      rfl
    · show ((T.heap.toList.drop T.heap.size).map (·.slots.size)).sum ≤ 0
      rw [List.drop_eq_nil_of_le (Nat.le_of_eq Array.length_toList)]
      exact Nat.le_refl _
/-- 'throw new E()': new; dup; invokespecial; athrow -/
theorem vx_throw0 {cc : ByteArray} {pc : Nat} (hexec : p.tables.exec = Jvm.exec) (hb : c.code = cc) (hl : l.stackTraces = false) {own cls : String} {names : List String} {ik ic mc ms : Nat} {A : Nat → Prop}
    (hown : s.vm.findClass own = some m.cls) (hcls : Bundle.fit cls = true) (hnames : ∀ n ∈ names, Bundle.fit n = true)
    (hk : (Cond.classLink own ik cls).before args s = true) (hini : (Cond.initialized cls).before args s = true) (hat : ∀ w ∈ vx_at0 own ic cls names, w.before args s = true)
    (hgood : ∀ w ∈ Cond.classLink own ik cls :: Cond.initialized cls :: vx_at0 own ic cls names, vx_ot w = true)
    (hU : vx_Zq Bundle.tN "UNASSIGNED_STACK" Bundle.steD A s s.heap) (hN : vx_Zq Bundle.tN "SUPPRESSED_SENTINEL" Bundle.listD A s s.heap) (hS : va_S A s.heap H locs) (hsize : ls.size = c.maxLocals)
    (d0 : decode cc pc = .ok (.new ik, 3)) (d3 : decode cc (pc + 3) = .ok (.dup, 1)) (d4 : decode cc (pc + 4) = .ok (.invokespecial ic, 3)) (d7 : decode cc (pc + 7) = .ok (.athrow, 1))
    (hout : ∀ x ∈ c.exceptionTable.toList, covers x (pc + 7) = false)
    (hRframes : names.length + 3 < R.frames) (hRlocals : (rest.map fun v => v.category).sum + (13 * (names.length + 1) + 42) ≤ R.locals) (hRcells : cells + 1 ≤ R.cells) (hRslots : slots + 6 ≤ R.slots) (hlocks : meth.locks = false)
    (hx : ∀ t : State, s.vm.Alike t.vm → H.size ≤ t.heap.size → (∀ q : Nat, q < H.size → t.heap[q]? = H[q]?) → XC cls s t)
    (hf : ∀ z ∈ locs, free z.base) (hc : cells + 1 ≤ mc) (hs : slots + 6 ≤ ms) :
    W p l e R s m args below meth c H locs cells slots (vx_MQ below Qc XC args s mc ms free) (F0 m pc ls rest) := by
  intro T hT X
  have htr : e.platform.stackTraces = false := (show e.platform.stackTraces = l.stackTraces by rw [X.admits.platform]).trans hl
  have Y := vx_rebase X (R' := { frames := R.frames, locals := R.locals, cells := 1, slots := 6 }) (Nat.le_refl _) (Nat.le_refl _) hRcells hRslots
  obtain ⟨s', hA⟩ : ∃ z, z = (T.setVm s.vm).setFrames (.invoking m args :: below) := ⟨_, rfl⟩
  rw [← hA] at Y
  have hvm : s'.vm = s.vm := by rw [hA]; rfl
  have hhp : s'.heap = H := by rw [hA]; exact hT
  have hW0 : s.WarmedH s'.vm := by rw [hvm]; exact State.WarmedH.refl s
  have hat' : ∀ w ∈ vx_at0 own ic cls names, w.before args s' = true := fun w hw => vx_ot_at hW0 hvm.symm (hgood w (List.mem_cons_of_mem _ (List.mem_cons_of_mem _ hw))) (hat w hw)
  have hk' : (Cond.classLink own ik cls).before args s' = true := vx_ot_at hW0 hvm.symm (hgood _ List.mem_cons_self) hk
  have hini' : (Cond.initialized cls).before args s' = true := vx_ot_at hW0 hvm.symm (hgood _ (List.mem_cons_of_mem _ List.mem_cons_self)) hini
  have hU' : vx_Zq Bundle.tN "UNASSIGNED_STACK" Bundle.steD A s' s'.heap := by rw [hhp]; exact vx_Zq.moved hW0.alike (hU.kept hS.2.1)
  have hN' : vx_Zq Bundle.tN "SUPPRESSED_SENTINEL" Bundle.listD A s' s'.heap := by rw [hhp]; exact vx_Zq.moved hW0.alike (hN.kept hS.2.1)
  have h : ∀ w ∈ Bundle.ownAtoms0 own ic cls names, w.before args s' = true := vx_own hat' (vx_isRefq hU'.1) (vx_isRefq hN'.1) hU'.2.word hN'.2.word
  have hown' : s'.vm.findClass own = some m.cls := by rw [hvm]; exact hown
  have hins : (Cond.instantiable cls 6).before args s' = true := h _ (by simp [Bundle.ownAtoms0])
  obtain ⟨vm₁, cX, kX, hfX, hkX, -, -, X₁, st1⟩ := Y.newCold hexec (own := own) (C := cls) (index := ik) (n := 6) hown' hk' hins hini'
    (g := F0 m pc ls rest) rfl (by rw [hb]; exact d0) (Nat.le_refl _) (Nat.le_refl _)
  generalize hT1 : (T.setVm vm₁).pushCell { cls := cX, slots := kX.instanceTypes.map defaultValue, vm := .none } = T1 at X₁ st1
  have hcat : (Value.ref T.heap.size).category = 1 := rfl
  have hcellA : T1.heap[T.heap.size]? = some (freshCell cX kX) := by rw [← hT1]; exact State.heap_pushCell_size _ _
  have d3' : decode c.code (pc + 3) = .ok (.dup, 1) := by rw [hb]; exact d3
  obtain ⟨U, hsteps, hrun, hend, hW, hsame, ce, hce, hO⟩ := X₁.ctorThrow0 hexec htr (own := own) (cls := cls) (names := names) (ic := ic) hown' hcls hnames h (fun x hx => nomatch hx) hfX hkX hcellA (by rw [hhp, hT]; exact Nat.le_refl _)
    (g := { method := m, pc := pc + 4, locals := ls, stack := .ref T.heap.size :: .ref T.heap.size :: rest, locked := none }) rfl hsize rfl rfl (rest := rest) rfl
    (by rw [hb]; exact d4) (by rw [hb]; exact d7) hout hRframes (by simp only [List.map_cons, List.sum_cons, hcat]; omega) hlocks
  obtain ⟨f1, f2⟩ := vx_frame hsame
  rw [hhp] at f1 f2
  have hWs : s.WarmedH U.vm := State.WarmedH.trans hW0 hW
  have hcl : s.vm.findClass cls = some ce.cls := by
    have h9 := hO.cls
    rw [hvm] at h9
    exact h9
  have hall : s.sameButNew ({ U with vm := s.vm } : State) locs mc ms := by
    subst hA
    obtain ⟨e1, e2⟩ := hsame
    rw [State.setFrames_setFrames] at e1
    have h2 : (T.setVm s.vm).sameButNew ({ U with vm := s.vm } : State) [] (0 + 1) (0 + 6) := ⟨e1, e2⟩
    have h3 := X.same.trans h2
    rw [List.append_nil] at h3
    exact h3.mono hc hs
  refine ⟨U, ?_, .threw T.heap.size, hrun, hend, Or.inr ⟨T.heap.size, rfl, cls, ce, locs, hx U hWs.alike f1 (fun q hq => f2 q hq (fun z hz => nomatch hz)), hce, hO.vm, hcl, hWs, hall, hf⟩⟩
  refine st1 _ ?_
  show Steps p.tables e below (T1.setTop { method := m, pc := pc + 3, locals := ls, stack := .ref T.heap.size :: rest, locked := none }) _
  jvm_step X₁.here [X₁.here.top, hexec, d3', Value.category]
  exact hsteps
/-- 'throw new E("text")': new; dup; ldc; invokespecial; athrow -/
theorem vx_throwS {cc : ByteArray} {pc : Nat} (hexec : p.tables.exec = Jvm.exec) (hb : c.code = cc) (hl : l.stackTraces = false) {own cls text : String} {names : List String} {ik is ic mc ms sa : Nat} {A : Nat → Prop}
    (hown : s.vm.findClass own = some m.cls) (hcls : Bundle.fit cls = true) (hnames : ∀ n ∈ names, Bundle.fit n = true)
    (hk : (Cond.classLink own ik cls).before args s = true) (hini : (Cond.initialized cls).before args s = true) (hstr : vk_R own is text sa s) (hat : ∀ w ∈ vx_atS own ic cls names, w.before args s = true)
    (hgood : ∀ w ∈ Cond.classLink own ik cls :: Cond.initialized cls :: vx_atS own ic cls names, vx_ot w = true)
    (hU : vx_Zq Bundle.tN "UNASSIGNED_STACK" Bundle.steD A s s.heap) (hN : vx_Zq Bundle.tN "SUPPRESSED_SENTINEL" Bundle.listD A s s.heap) (hS : va_S A s.heap H locs) (hsize : ls.size = c.maxLocals)
    (d0 : decode cc pc = .ok (.new ik, 3)) (d3 : decode cc (pc + 3) = .ok (.dup, 1)) (d4 : decode cc (pc + 4) = .ok (.ldc is, 2)) (d6 : decode cc (pc + 6) = .ok (.invokespecial ic, 3)) (d9 : decode cc (pc + 9) = .ok (.athrow, 1))
    (hout : ∀ x ∈ c.exceptionTable.toList, covers x (pc + 9) = false)
    (hRframes : names.length + 3 < R.frames) (hRlocals : (rest.map fun v => v.category).sum + (13 * (names.length + 1) + 43) ≤ R.locals) (hRcells : cells + 1 ≤ R.cells) (hRslots : slots + 6 ≤ R.slots) (hlocks : meth.locks = false)
    (hx : ∀ t : State, s.vm.Alike t.vm → H.size ≤ t.heap.size → (∀ q : Nat, q < H.size → t.heap[q]? = H[q]?) → XC cls s t)
    (hf : ∀ z ∈ locs, free z.base) (hc : cells + 1 ≤ mc) (hs : slots + 6 ≤ ms) :
    W p l e R s m args below meth c H locs cells slots (vx_MQ below Qc XC args s mc ms free) (F0 m pc ls rest) := by
  intro T hT X
  have htr : e.platform.stackTraces = false := (show e.platform.stackTraces = l.stackTraces by rw [X.admits.platform]).trans hl
  have Y := vx_rebase X (R' := { frames := R.frames, locals := R.locals, cells := 1, slots := 6 }) (Nat.le_refl _) (Nat.le_refl _) hRcells hRslots
  obtain ⟨s', hA⟩ : ∃ z, z = (T.setVm s.vm).setFrames (.invoking m args :: below) := ⟨_, rfl⟩
  rw [← hA] at Y
  have hvm : s'.vm = s.vm := by rw [hA]; rfl
  have hhp : s'.heap = H := by rw [hA]; exact hT
  have hW0 : s.WarmedH s'.vm := by rw [hvm]; exact State.WarmedH.refl s
  have hat' : ∀ w ∈ vx_atS own ic cls names, w.before args s' = true := fun w hw => vx_ot_at hW0 hvm.symm (hgood w (List.mem_cons_of_mem _ (List.mem_cons_of_mem _ hw))) (hat w hw)
  have hk' : (Cond.classLink own ik cls).before args s' = true := vx_ot_at hW0 hvm.symm (hgood _ List.mem_cons_self) hk
  have hini' : (Cond.initialized cls).before args s' = true := vx_ot_at hW0 hvm.symm (hgood _ (List.mem_cons_of_mem _ List.mem_cons_self)) hini
  have hU' : vx_Zq Bundle.tN "UNASSIGNED_STACK" Bundle.steD A s' s'.heap := by rw [hhp]; exact vx_Zq.moved hW0.alike (hU.kept hS.2.1)
  have hN' : vx_Zq Bundle.tN "SUPPRESSED_SENTINEL" Bundle.listD A s' s'.heap := by rw [hhp]; exact vx_Zq.moved hW0.alike (hN.kept hS.2.1)
  have h : ∀ w ∈ Bundle.ownAtoms own ic cls names, w.before args s' = true := vx_own hat' (vx_isRefq hU'.1) (vx_isRefq hN'.1) hU'.2.word hN'.2.word
  have hown' : s'.vm.findClass own = some m.cls := by rw [hvm]; exact hown
  have hins : (Cond.instantiable cls 6).before args s' = true := h _ (by simp [Bundle.ownAtoms])
  obtain ⟨vm₁, cX, kX, hfX, hkX, -, -, X₁, st1⟩ := Y.newCold hexec (own := own) (C := cls) (index := ik) (n := 6) hown' hk' hins hini'
    (g := F0 m pc ls rest) rfl (by rw [hb]; exact d0) (Nat.le_refl _) (Nat.le_refl _)
  generalize hT1 : (T.setVm vm₁).pushCell { cls := cX, slots := kX.instanceTypes.map defaultValue, vm := .none } = T1 at X₁ st1
  have hcat : (Value.ref T.heap.size).category = 1 := rfl
  have hcellA : T1.heap[T.heap.size]? = some (freshCell cX kX) := by rw [← hT1]; exact State.heap_pushCell_size _ _
  have d3' : decode c.code (pc + 3) = .ok (.dup, 1) := by rw [hb]; exact d3
  have d4' : decode c.code (pc + 4) = .ok (.ldc is, 2) := by rw [hb]; exact d4
  have hstr' : vk_R own is text sa s' := vk_R.warm hW0 hstr
  obtain ⟨U, hsteps, hrun, hend, hW, hsame, ce, hce, hO⟩ := X₁.ctorThrowS hexec htr (own := own) (cls := cls) (names := names) (ic := ic) hown' hcls hnames h (fun x hx => nomatch hx) hfX hkX hcellA (by rw [hhp, hT]; exact Nat.le_refl _) (msg := .ref sa) rfl
    (g := { method := m, pc := pc + 6, locals := ls, stack := .ref sa :: .ref T.heap.size :: .ref T.heap.size :: rest, locked := none }) rfl hsize rfl rfl (rest := rest) rfl
    (by rw [hb]; exact d6) (by rw [hb]; exact d9) hout hRframes (by simp only [List.map_cons, List.sum_cons, hcat]; omega) hlocks
  obtain ⟨f1, f2⟩ := vx_frame hsame
  rw [hhp] at f1 f2
  have hWs : s.WarmedH U.vm := State.WarmedH.trans hW0 hW
  have hcl : s.vm.findClass cls = some ce.cls := by
    have h9 := hO.cls
    rw [hvm] at h9
    exact h9
  have hall : s.sameButNew ({ U with vm := s.vm } : State) locs mc ms := by
    subst hA
    obtain ⟨e1, e2⟩ := hsame
    rw [State.setFrames_setFrames] at e1
    have h2 : (T.setVm s.vm).sameButNew ({ U with vm := s.vm } : State) [] (0 + 1) (0 + 6) := ⟨e1, e2⟩
    have h3 := X.same.trans h2
    rw [List.append_nil] at h3
    exact h3.mono hc hs
  refine ⟨U, ?_, .threw T.heap.size, hrun, hend, Or.inr ⟨T.heap.size, rfl, cls, ce, locs, hx U hWs.alike f1 (fun q hq => f2 q hq (fun z hz => nomatch hz)), hce, hO.vm, hcl, hWs, hall, hf⟩⟩
  refine st1 _ ?_
  show Steps p.tables e below (T1.setTop { method := m, pc := pc + 3, locals := ls, stack := .ref T.heap.size :: rest, locked := none }) _
  jvm_step X₁.here [X₁.here.top, hexec, d3', Value.category]
  exact X₁.ldcString hexec (own := own) (text := text) (index := is) (a := sa) hown' hstr'.1 hstr'.2
    (g := { method := m, pc := pc + 4, locals := ls, stack := .ref T.heap.size :: .ref T.heap.size :: rest, locked := none }) rfl d4' _ hsteps
/-- 'throw new E("text")', the text by a wide index -/
theorem vx_throwSW {cc : ByteArray} {pc : Nat} (hexec : p.tables.exec = Jvm.exec) (hb : c.code = cc) (hl : l.stackTraces = false) {own cls text : String} {names : List String} {ik is ic mc ms sa : Nat} {A : Nat → Prop}
    (hown : s.vm.findClass own = some m.cls) (hcls : Bundle.fit cls = true) (hnames : ∀ n ∈ names, Bundle.fit n = true)
    (hk : (Cond.classLink own ik cls).before args s = true) (hini : (Cond.initialized cls).before args s = true) (hstr : vk_R own is text sa s) (hat : ∀ w ∈ vx_atS own ic cls names, w.before args s = true)
    (hgood : ∀ w ∈ Cond.classLink own ik cls :: Cond.initialized cls :: vx_atS own ic cls names, vx_ot w = true)
    (hU : vx_Zq Bundle.tN "UNASSIGNED_STACK" Bundle.steD A s s.heap) (hN : vx_Zq Bundle.tN "SUPPRESSED_SENTINEL" Bundle.listD A s s.heap) (hS : va_S A s.heap H locs) (hsize : ls.size = c.maxLocals)
    (d0 : decode cc pc = .ok (.new ik, 3)) (d3 : decode cc (pc + 3) = .ok (.dup, 1)) (d4 : decode cc (pc + 4) = .ok (.ldc_w is, 3)) (d7 : decode cc (pc + 7) = .ok (.invokespecial ic, 3)) (d10 : decode cc (pc + 10) = .ok (.athrow, 1))
    (hout : ∀ x ∈ c.exceptionTable.toList, covers x (pc + 10) = false)
    (hRframes : names.length + 3 < R.frames) (hRlocals : (rest.map fun v => v.category).sum + (13 * (names.length + 1) + 43) ≤ R.locals) (hRcells : cells + 1 ≤ R.cells) (hRslots : slots + 6 ≤ R.slots) (hlocks : meth.locks = false)
    (hx : ∀ t : State, s.vm.Alike t.vm → H.size ≤ t.heap.size → (∀ q : Nat, q < H.size → t.heap[q]? = H[q]?) → XC cls s t)
    (hf : ∀ z ∈ locs, free z.base) (hc : cells + 1 ≤ mc) (hs : slots + 6 ≤ ms) :
    W p l e R s m args below meth c H locs cells slots (vx_MQ below Qc XC args s mc ms free) (F0 m pc ls rest) := by
  intro T hT X
  have htr : e.platform.stackTraces = false := (show e.platform.stackTraces = l.stackTraces by rw [X.admits.platform]).trans hl
  have Y := vx_rebase X (R' := { frames := R.frames, locals := R.locals, cells := 1, slots := 6 }) (Nat.le_refl _) (Nat.le_refl _) hRcells hRslots
  obtain ⟨s', hA⟩ : ∃ z, z = (T.setVm s.vm).setFrames (.invoking m args :: below) := ⟨_, rfl⟩
  rw [← hA] at Y
  have hvm : s'.vm = s.vm := by rw [hA]; rfl
  have hhp : s'.heap = H := by rw [hA]; exact hT
  have hW0 : s.WarmedH s'.vm := by rw [hvm]; exact State.WarmedH.refl s
  have hat' : ∀ w ∈ vx_atS own ic cls names, w.before args s' = true := fun w hw => vx_ot_at hW0 hvm.symm (hgood w (List.mem_cons_of_mem _ (List.mem_cons_of_mem _ hw))) (hat w hw)
  have hk' : (Cond.classLink own ik cls).before args s' = true := vx_ot_at hW0 hvm.symm (hgood _ List.mem_cons_self) hk
  have hini' : (Cond.initialized cls).before args s' = true := vx_ot_at hW0 hvm.symm (hgood _ (List.mem_cons_of_mem _ List.mem_cons_self)) hini
  have hU' : vx_Zq Bundle.tN "UNASSIGNED_STACK" Bundle.steD A s' s'.heap := by rw [hhp]; exact vx_Zq.moved hW0.alike (hU.kept hS.2.1)
  have hN' : vx_Zq Bundle.tN "SUPPRESSED_SENTINEL" Bundle.listD A s' s'.heap := by rw [hhp]; exact vx_Zq.moved hW0.alike (hN.kept hS.2.1)
  have h : ∀ w ∈ Bundle.ownAtoms own ic cls names, w.before args s' = true := vx_own hat' (vx_isRefq hU'.1) (vx_isRefq hN'.1) hU'.2.word hN'.2.word
  have hown' : s'.vm.findClass own = some m.cls := by rw [hvm]; exact hown
  have hins : (Cond.instantiable cls 6).before args s' = true := h _ (by simp [Bundle.ownAtoms])
  obtain ⟨vm₁, cX, kX, hfX, hkX, -, -, X₁, st1⟩ := Y.newCold hexec (own := own) (C := cls) (index := ik) (n := 6) hown' hk' hins hini'
    (g := F0 m pc ls rest) rfl (by rw [hb]; exact d0) (Nat.le_refl _) (Nat.le_refl _)
  generalize hT1 : (T.setVm vm₁).pushCell { cls := cX, slots := kX.instanceTypes.map defaultValue, vm := .none } = T1 at X₁ st1
  have hcat : (Value.ref T.heap.size).category = 1 := rfl
  have hcellA : T1.heap[T.heap.size]? = some (freshCell cX kX) := by rw [← hT1]; exact State.heap_pushCell_size _ _
  have d3' : decode c.code (pc + 3) = .ok (.dup, 1) := by rw [hb]; exact d3
  have d4' : decode c.code (pc + 4) = .ok (.ldc_w is, 3) := by rw [hb]; exact d4
  have hstr' : vk_R own is text sa s' := vk_R.warm hW0 hstr
  obtain ⟨U, hsteps, hrun, hend, hW, hsame, ce, hce, hO⟩ := X₁.ctorThrowS hexec htr (own := own) (cls := cls) (names := names) (ic := ic) hown' hcls hnames h (fun x hx => nomatch hx) hfX hkX hcellA (by rw [hhp, hT]; exact Nat.le_refl _) (msg := .ref sa) rfl
    (g := { method := m, pc := pc + 7, locals := ls, stack := .ref sa :: .ref T.heap.size :: .ref T.heap.size :: rest, locked := none }) rfl hsize rfl rfl (rest := rest) rfl
    (by rw [hb]; exact d7) (by rw [hb]; exact d10) hout hRframes (by simp only [List.map_cons, List.sum_cons, hcat]; omega) hlocks
  obtain ⟨f1, f2⟩ := vx_frame hsame
  rw [hhp] at f1 f2
  have hWs : s.WarmedH U.vm := State.WarmedH.trans hW0 hW
  have hcl : s.vm.findClass cls = some ce.cls := by
    have h9 := hO.cls
    rw [hvm] at h9
    exact h9
  have hall : s.sameButNew ({ U with vm := s.vm } : State) locs mc ms := by
    subst hA
    obtain ⟨e1, e2⟩ := hsame
    rw [State.setFrames_setFrames] at e1
    have h2 : (T.setVm s.vm).sameButNew ({ U with vm := s.vm } : State) [] (0 + 1) (0 + 6) := ⟨e1, e2⟩
    have h3 := X.same.trans h2
    rw [List.append_nil] at h3
    exact h3.mono hc hs
  refine ⟨U, ?_, .threw T.heap.size, hrun, hend, Or.inr ⟨T.heap.size, rfl, cls, ce, locs, hx U hWs.alike f1 (fun q hq => f2 q hq (fun z hz => nomatch hz)), hce, hO.vm, hcl, hWs, hall, hf⟩⟩
  refine st1 _ ?_
  show Steps p.tables e below (T1.setTop { method := m, pc := pc + 3, locals := ls, stack := .ref T.heap.size :: rest, locked := none }) _
  jvm_step X₁.here [X₁.here.top, hexec, d3', Value.category]
  exact X₁.ldcStringW hexec (own := own) (text := text) (index := is) (a := sa) hown' hstr'.1 hstr'.2
    (g := { method := m, pc := pc + 4, locals := ls, stack := .ref T.heap.size :: .ref T.heap.size :: rest, locked := none }) rfl d4' _ hsteps
end Ends
section Bodies
variable {l : Launch}
theorem vx_ofW {y : MethodName} {ws ws' : List Cond} {rm : Room} {Pc : Array Value → State → Prop} {Qc : Array Value → State → Outcome → State → Prop} {XC : String → State → State → Prop} {mc ms : Nat} {free : Addr → Prop} {cc : ByteArray} {maxL : Nat} {ret : Option FieldType}
    (hy : plainName y.cls = true) (hw : ws = Cond.code y cc maxL ret :: ws')
    (body : ∀ p e s m args below meth c s₁, BodyLoose p l y (headSpec ws rm) cc maxL ret e s m args below meth c s₁ → c.maxLocals = maxL → (∀ x ∈ c.exceptionTable.toList, False) → Pc args s →
      W p l e (headSpec ws rm).room s m args below meth c s.heap [] 0 0 (vx_MQ below Qc XC args s mc ms free) (entryFrame m args maxL)) : vx_Met l y ws rm Pc Qc XC mc ms free := by
  refine MetFree.of_bodyS (code := cc) (maxLocals := maxL) (ret := ret) hy ?_ ?_
  · intro args s m h hn
    obtain ⟨meth, c, h1, h2, h3, h4, h5, h6, -, -⟩ := Cond.code_spec hn (atoms_spec (ws := ws) h _ (by rw [hw]; exact List.mem_cons_self))
    exact ⟨meth, c, h1, h2, h3, h4, h5, h6⟩
  · intro p e s m args below meth c s₁ B hml hP _
    have hh0 : s₁.heap = s.heap := by rw [B.state]; rfl
    have ht : ∀ x ∈ c.exceptionTable.toList, False := by
      obtain ⟨meth9, c9, h1, h2, -, -, -, -, h7, -⟩ := Cond.code_spec B.named (atoms_spec (ws := ws) B.pre _ (by rw [hw]; exact List.mem_cons_self))
      cases Option.some.inj (h1.symm.trans B.method)
      cases Option.some.inj (h2.symm.trans (Stand.of_body B).code)
      intro x hx
      rw [Array.isEmpty_iff.mp h7] at hx
      cases hx
    obtain ⟨t, a1, o, b1, b2, b3⟩ := body p e s m args below meth c s₁ B hml ht hP s₁ hh0 (Stand.of_body B)
    exact ⟨t, o, a1, b1, b2, b3⟩
/-- the table of a body with handlers -/
theorem vx_table {p : Program} {x y : MethodName} {S : Spec} {cc bytes : ByteArray} {maxL maxL' : Nat} {ret ret' : Option FieldType} {e : Env} {s s₁ : State} {m : MethodId} {args : Array Value} {below : List Frame} {meth : Method} {c : Code} {hh : List (Nat × Nat × Nat × Nat)}
    (B : BodyLoose p l y S cc maxL ret e s m args below meth c s₁) (h : (Cond.codeWith y bytes maxL' ret' hh).before args s = true) : c.exceptionTable.toList = tableOf hh := by
  obtain ⟨m9, meth9, c9, hn9, h1, h2, -, -, h6, -⟩ := Cond.codeWith_spec h
  cases Option.some.inj (hn9.symm.trans B.named)
  cases Option.some.inj (h1.symm.trans B.method)
  cases Option.some.inj (h2.symm.trans (Stand.of_body B).code)
  rw [← h6, table_eq]
end Bodies
end VXA
/-! ===== END ===== -/
/-! ===== BEGIN a static call of a method with an exception table ===== -/
section VXS
variable {p : Program} {l : Launch} {e : Env} {R : Room} {s : State} {m : MethodId} {args : Array Value} {below : List Frame} {meth : Method} {c : Code} {T : State} {H : Heap} {locs : List Loc} {cells slots : Nat}
abbrev vx_CSW (R : Room) (s : State) (args : Array Value) (own : String) (index : Nat) (y : MethodName) (bytes : ByteArray) (maxL : Nat) (ret : Option FieldType) (hh : List (Nat × Nat × Nat × Nat)) (ws : List Cond) (rm : Room) (mc ms n : Nat) : Prop :=
  (rm.cells = mc ∧ rm.slots = ms ∧ rm.frames + 1 ≤ R.frames ∧ 8 + (maxL + 11) + rm.locals ≤ R.locals ∧ (∀ w ∈ ws, ∀ (a' : Array Value) (U : State), s.WarmedH U.vm → w.before a' U = true) ∧ Cond.codeWith y bytes maxL ret hh ∈ ws) ∧
  (Cond.codeWith y bytes maxL ret hh).before args s = true ∧ (Cond.initialized y.cls).before args s = true ∧ (y.cls ≠ "java/lang/invoke/MethodHandle" ∧ y.cls ≠ "java/lang/invoke/VarHandle") ∧
  (∀ sig, parseMethodDescriptor y.desc = some sig → n = sig.parameters.length) ∧ (Cond.methodLink own index y).before args s = true ∧ (Cond.static y).before args s = true
theorem vx_cwSW {own : String} {index maxL mc ms : Nat} {y : MethodName} {bytes : ByteArray} {ret : Option FieldType} {hh : List (Nat × Nat × Nat × Nat)} {Ts ws ws' : List Cond} {rm : Room} (n : Nat) (ht : ∀ w ∈ Ts, w.before args s = true) (hT : GoodIn Ts (va_wsS own index y ws)) (hw : ws = Cond.codeWith y bytes maxL ret hh :: ws') (hrc : rm.cells = mc) (hrs : rm.slots = ms)
    (hd : y.cls ≠ "java/lang/invoke/MethodHandle" ∧ y.cls ≠ "java/lang/invoke/VarHandle" ∧ (parseMethodDescriptor y.desc).map (fun d => d.parameters.length) = some n) (hR : rm.frames + 1 ≤ R.frames ∧ 8 + (maxL + 11) + rm.locals ≤ R.locals) :
    vx_CSW R s args own index y bytes maxL ret hh ws rm mc ms n := by
  have ok : ∀ w ∈ va_wsS own index y ws, w.before args s = true := fun w h => ht w (hT w h).1
  have hG : GoodIn Ts ws := fun w h => hT w (by unfold va_wsS; exact List.mem_append_right _ h)
  have hc : Cond.codeWith y bytes maxL ret hh ∈ ws := by rw [hw]; exact List.mem_cons_self
  refine ⟨⟨hrc, hrs, hR.1, hR.2, pay_in ht hG, hc⟩, ht _ (hG _ hc).1, ok _ (by simp [va_wsS]), ⟨hd.1, hd.2.1⟩, fun sig h => ?_, ok _ (by simp [va_wsS]), ok _ (by simp [va_wsS])⟩
  have h2 := hd.2.2
  rw [h] at h2
  exact (Option.some.inj h2).symm
theorem vx_callSW (X : Stand p l e R s m args below meth c T locs cells slots) (hexec : p.tables.exec = Jvm.exec) {own : String} {index : Nat} {y : MethodName} {bytes : ByteArray} {maxL : Nat} {ret : Option FieldType} {hh : List (Nat × Nat × Nat × Nat)}
    (hown : s.vm.findClass own = some m.cls) (hlink : (Cond.methodLink own index y).before args s = true) (hstat : (Cond.static y).before args s = true) (hinit : (Cond.initialized y.cls).before args s = true)
    (hcode : (Cond.codeWith y bytes maxL ret hh).before args s = true) (hy : y.cls ≠ "java/lang/invoke/MethodHandle" ∧ y.cls ≠ "java/lang/invoke/VarHandle")
    {W9 : Nat} {Pre : Pt → Array Value → Prop} {Post : Pt → Array Value → Option Value → Pt → Prop} (hK : Back l R p e below s args y 3 W9 Pre Post)
    {g : JFrame} (hg : g.method = m) (hsize : g.locals.size = c.maxLocals) {argsL rest : List Value} (hlen : ∀ sig, parseMethodDescriptor y.desc = some sig → argsL.length = sig.parameters.length)
    (hstack : g.stack = argsL.reverse ++ rest) (hW : 2 * g.monitorRoom + (rest.map fun v => v.category).sum ≤ W9) (hdg : decode c.code g.pc = .ok (.invokestatic index, 3))
    (hpre : ∀ vm₁, s.WarmedH vm₁ → Pre ⟨T.setVm vm₁, locs, cells, slots⟩ argsL.toArray) :
    ∃ (v : Option Value) (vm₁ : Vm) (B : Pt), s.WarmedH vm₁ ∧ Stand p l e R s m args below meth c B.U B.locs B.cells B.slots ∧ Post ⟨T.setVm vm₁, locs, cells, slots⟩ argsL.toArray v B ∧
      ∀ target, Steps p.tables e below (B.U.setTop { g with pc := g.pc + 3, stack := v.toList ++ rest }) target → Steps p.tables e below (T.setTop g) target := by
  obtain ⟨mk, methM, cM, hnamed, hmethM, -, -, -, -, -, -, hsigM⟩ := Cond.codeWith_spec hcode
  have hstatic : methM.isStatic = true := Cond.static_spec hnamed hmethM hstat
  obtain ⟨kP, hkP, -⟩ := className_of_methodNamed hnamed
  have hinitP : kP.init = .initialized := Cond.initialized_spec (findClass_of_methodNamed hnamed) hkP hinit
  obtain ⟨vm₁, X₁, hstep₁⟩ := X.invokestatic hexec hown hlink hnamed hmethM hstatic hkP hinitP hy (g := g) hg (argsL := argsL) (rest := rest) (hlen _ hsigM) hstack hdg
  obtain ⟨v, B, X', hpost, hsteps⟩ := hK m meth c ⟨T.setVm vm₁, locs, cells, slots⟩ { g with stack := rest } (.invokestatic index) mk argsL.toArray X₁ hg hsize hdg hW (X₁.named hnamed) (hpre vm₁ X₁.warmed)
  exact ⟨v, vm₁, B, X₁.warmed, X', hpost, fun target h => hstep₁ _ fun acts => by rw [doInvoke_state]; exact hsteps.trans h⟩
theorem vx_runSW {y : MethodName} {bytes cc : ByteArray} {maxL nL mc ms n index : Nat} {ret : Option FieldType} {hh : List (Nat × Nat × Nat × Nat)} {ws : List Cond} {rm : Room} {Pc : Array Value → State → Prop} {Qc : Array Value → State → Outcome → State → Prop} {free : Addr → Prop} {Ts : List Cond} {own : String} {As rest : List Value} {g : JFrame}
    (S : CallFix p m c cc nL s args Ts own) (hM : Met l y ws rm Pc Qc mc ms free) (cw : vx_CSW R s args own index y bytes maxL ret hh ws rm mc ms n) (hp : PreS s H Pc As)
    (hg : g.method = m) (hn : As.length = n) (hsize : g.locals.size = nL) (hstack : g.stack = As.reverse ++ rest) (hW : 2 * g.monitorRoom + (rest.map fun v => v.category).sum ≤ 8) (hdg : decode cc g.pc = .ok (.invokestatic index, 3)) (hf : cells + mc ≤ R.cells ∧ slots + ms ≤ R.slots) :
    va_Run p l e R s m args below meth c H locs cells slots mc ms g rest (Qc As.toArray) (free) := by
  obtain ⟨⟨hrc, hrs, hfr, hlo, hws, hcw⟩, hcode, hini, hy, hlen, hl, hstt⟩ := cw
  have hK : Back l R p e below s args y 3 8 (PreOf R mc ms Pc) (PostOf Qc mc ms free) := va_backW (hh := hh) (bytes := bytes) (maxL := maxL) (ret := ret) hM hp.1 hrc hrs hfr hlo hws hcw (fun a' U hW => word_at hW (Or.inl (by first | rfl | simp [Cond.onTables, Cond.keeps, Cond.steady])) hini)
  obtain ⟨hx, hb, hml, ho, -⟩ := S
  intro T hT X
  obtain ⟨v, vm₁, ⟨U', l2, c2, s2⟩, hW₁, X', ⟨g', mk, t, L, e1, e2, hq, h1, hL, h2, h3⟩, st⟩ := vx_callSW X hx (hh := hh) (bytes := bytes) (maxL := maxL) (ret := ret) ho hl hstt hini hcode hy hK hg (hsize.trans hml.symm) (argsL := As) (rest := rest) (fun sig h => hn.trans (hlen sig h)) hstack hW (by rw [hb]; exact hdg)
    (fun vm₁ hW₁ => ⟨hf.1, hf.2, hp.2 (T.setVm vm₁) hT hW₁⟩)
  dsimp only [Pt.U, Pt.locs, Pt.cells, Pt.slots] at X' e1 e2 h1 h2 h3 st
  subst h1; subst h2; subst h3
  exact ⟨v, (T.setVm vm₁).calling g' mk As.toArray, t, U', L, hT, X', hL, e1, e2, hq, st⟩
/-- not caught here, past rows that name other classes: it goes on to the caller -/
theorem vx_outP {p : Program} {l : Launch} {e : Env} {R : Room} {s : State} {m : MethodId} {args : Array Value} {below : List Frame} {meth : Method} {c : Code} {H : Heap} {locs : List Loc} {cells slots : Nat} {free : Addr → Prop} {ls : Array Slot} {rest : List Value} {Qc : Array Value → State → Outcome → State → Prop} {XC : String → State → State → Prop}
    {pc : Nat} {own E : String} {ce : Cell} {q : Addr} {mc ms : Nat} (hown : s.vm.findClass own = some m.cls) (hlocks : meth.locks = false)
    (hpass : ∀ z ∈ c.exceptionTable.toList, covers z pc = false ∨ (z.catchType ≠ 0 ∧ ∃ nm : String, (Cond.classLink own z.catchType nm).before args s = true ∧ va_Nc E nm s)) (hcell : H[q]? = some ce) (hv : ce.vm = .none) (hcl : s.vm.findClass E = some ce.cls)
    (hx : ∀ t : State, t.heap = H → s.vm.Alike t.vm → XC E s t) (hf : ∀ z ∈ locs, free z.base) (hc : cells ≤ mc) (hs : slots ≤ ms) :
    vx_W p l e R s m args below meth c H locs cells slots (vx_MQ below Qc XC args s mc ms free) (F0 m pc ls rest) q := by
  intro T hT X
  have hpl : e.platform.magicAccessors = ({} : Platform).magicAccessors := by rw [X.admits.platform]
  obtain ⟨vm', hW', X', st⟩ := X.outThrough hlocks q (g := F0 m pc ls rest) rfl rfl rfl (cell := ce) (by rw [hT]; exact hcell) (by rw [hv]; rfl)
    (by obtain ⟨k9, h9, -⟩ := Vm.findClass_spec hcl; exact ⟨k9, h9⟩) (fun z hz => by
      rcases hpass z hz with h | ⟨hz0, nm, hl1, hn1⟩
      · exact Or.inl h
      · obtain ⟨c6, hc6, hcl6⟩ := Cond.classLink_spec hown hl1 e.platform hpl
        obtain ⟨a8, b8, h1, h2, h3⟩ := hn1
        cases Option.some.inj (h1.symm.trans hcl)
        cases Option.some.inj (h2.symm.trans hc6)
        exact Or.inr ⟨hz0, _, hcl6, h3⟩)
  obtain ⟨g₀, hfr⟩ := X'.frames_eq
  have hcell9 : ((T.setVm vm').setFrames (.throwing q :: below)).heap[q]? = some ce := by
    show T.heap[q]? = some ce
    rw [hT]; exact hcell
  have hend : Ended ((T.setVm vm').setFrames (.throwing q :: below)) below (.threw q) := State.frames_setFrames _ (State.cur_lt_of_frames hfr)
  refine ⟨(T.setVm vm').setFrames (.throwing q :: below), ?_, .threw q, X'.here.running, hend, Or.inr ⟨q, rfl, E, ce, locs, hx _ hT (X'.ends _).1.alike, hcell9, hv, hcl, (X'.ends _).1, (X'.ends _).2.mono hc hs, hf⟩⟩
  rw [X.pushThrowing_eq]
  exact st
/-- a thing of a world lies in the heap -/
theorem vx_lt {D : va_G} {cl : List vw_C} {ws : va_W} {H1 : Heap} (h : va_P D cl ws H1) {k : Nat} {q : Nat × va_E} (hk : ws[k]? = some q) : q.1 < H1.size := (h k q hk).lt
end VXS
/-! ===== END ===== -/
/-! ===== BEGIN methods with a table of their own: called by a name, returning or throwing ===== -/
section VXH
/-! vx_backW, vx_callVX, vx_callSX, vx_callVW, vx_runVW, vx_runVX, vx_runSX, vx_ofWH follow the same proofs as their sisters above (Free/Laws.lean, Shelf42/LK1.lean); vx_outP calls Shelf42/NT130.lean (outThrough). -/
section
variable {l : Launch} {R : Room} {p : Program} {e : Env} {below : List Frame} {s : State} {sargs : Array Value} {y : MethodName} {len W9 : Nat}
theorem vx_backW {ws : List Cond} {rm : Room} {Pc : Array Value → State → Prop} {Qc : Array Value → State → Outcome → State → Prop} {XC : String → State → State → Prop} {mc ms : Nat} {free : Addr → Prop} {bytes : ByteArray} {maxL : Nat} {ret : Option FieldType} {hh : List (Nat × Nat × Nat × Nat)}
    (hM : vx_Met l y ws rm Pc Qc XC mc ms free) (hblind : FrameBlind Pc) (hrc : rm.cells = mc) (hrs : rm.slots = ms)
    (hframes : rm.frames + 1 ≤ R.frames) (hlocals : W9 + (maxL + 11) + rm.locals ≤ R.locals)
    (hws : ∀ w ∈ ws, ∀ a' U, s.WarmedH U.vm → w.before a' U = true) (hcode : Cond.codeWith y bytes maxL ret hh ∈ ws) (hinit : ∀ a' U, s.WarmedH U.vm → (Cond.initialized y.cls).before a' U = true) :
    vx_Back l R p e below s sargs y len W9 (PreOf R mc ms Pc) (PostOf Qc mc ms free) (vx_Post XC mc ms free) := by
  intro m meth c A g ig mk a X hg hsize hdg hW hn hp
  have h1 : (headSpec ws rm).pre.before a A.U = true := atoms_intro fun w hw => hws w hw _ _ X.warmed
  have h2 : (Cond.codeWith y bytes maxL ret hh).before a A.U = true := hws _ hcode _ _ X.warmed
  have h3 : (Cond.initialized y.cls).before a A.U = true := hinit _ _ X.warmed
  have h4 : A.cells + (headSpec ws rm).room.cells ≤ R.cells := by rw [show (headSpec ws rm).room.cells = mc from hrc]; exact hp.1
  have h5 : A.slots + (headSpec ws rm).room.slots ≤ R.slots := by rw [show (headSpec ws rm).room.slots = ms from hrs]; exact hp.2.1
  have hPc : Pc a (A.U.calling g mk a) := hblind _ _ _ _ hp.2.2
  obtain ⟨U, Ls, c0, s0⟩ := A
  dsimp only [Pt.U, Pt.locs, Pt.cells, Pt.slots] at h1 h2 h3 h4 h5 X hn hPc ⊢
  obtain ⟨m9, methY, cY, hn9, hmY, hcY, -, hlY, -⟩ := Cond.codeWith_spec h2
  cases Option.some.inj (hn9.symm.trans hn)
  obtain ⟨kY, hkY, -⟩ := className_of_methodNamed hn
  have hinitY : kY.init = .initialized := Cond.initialized_spec (findClass_of_methodNamed hn) hkY h3
  have h : At U g.method c below := by rw [hg]; exact X.here
  have hlocals9 : W9 + (maxL + 11) + (headSpec ws rm).room.locals ≤ R.locals := hlocals
  have happ : (headSpec ws rm).appliesLoose y e.platform (U.calling g mk a) = true :=
    Spec.appliesLoose_calling (g := g) h hdg hn hkY hinitY
      (X.room_calling (g := g) (R' := (headSpec ws rm).room) hsize hmY hcY hframes (by rw [hlY]; omega) h4 h5) h1
  obtain ⟨mid, hmid⟩ := h.above
  have hfr : (U.setTop g).frames = (.java g :: mid) ++ below := by rw [State.frames_setTop' g h.top, hmid]; rfl
  obtain ⟨o, s₂, hsteps, -, hend, hq⟩ := Steps.callFree hM p X.admits X.cas X.clock (acts := []) hfr happ hPc trivial
  have hq' : vx_Q Qc XC mc ms free a (U.calling g mk a) o s₂ := hq
  rw [State.frames_setTop' g h.top] at hend
  obtain ⟨g₀, hg0⟩ := Option.isSome_iff_exists.mp h.top
  obtain ⟨r, hr⟩ := State.topJava?_eq_some.mp hg0
  have hr' : (({ U with heap := s₂.heap, slotsUsed := s₂.slotsUsed } : State).setVm s₂.vm).frames = .java g₀ :: r := hr
  rcases hq' with ⟨hqc, L, hfe, hL⟩ | ⟨q, rfl, E, ce, L, hx, hce, hcv, hcl, hW₂, hsm, hL⟩
  · obtain ⟨⟨v, rfl⟩, hW₂, e2, q2, q3, q4, q5, q6⟩ := id hfe
    have e3 : s₂ = ({ (U.calling g mk a).setFrames s₂.frames with heap := s₂.heap, slotsUsed := s₂.slotsUsed } : State).setVm s₂.vm := by
      have : s₂ = ({ s₂ with vm := (U.calling g mk a).vm } : State).setVm s₂.vm := rfl
      rw [e2] at this
      exact this
    obtain ⟨c₂, i₂, len₂, hc₂, hd₂, hf₂⟩ := hend
    have hW' : U.WarmedH s₂.vm := hW₂
    have hcc : c₂ = c := by
      have h1 : s₂.code? g.method = U.code? g.method := by
        rw [State.code?_eq, State.code?_eq, hW'.alike.method?]
      exact Option.some.inj (hc₂.symm.trans (h1.trans h.code))
    subst hcc
    have hlen : len₂ = len := by rw [hdg] at hd₂; cases hd₂; rfl
    subst hlen
    have hs₂ : s₂ = (({ U with heap := s₂.heap, slotsUsed := s₂.slotsUsed } : State).setVm s₂.vm).setTop { g with pc := g.pc + len₂, stack := v.toList ++ g.stack } := by
      refine e3.trans ?_
      rw [hf₂, State.calling_eq h.top, State.setFrames_setFrames, State.setTop_of_frames _ hr', hr]
      rfl
    have hsame : U.sameButNew ({ U with heap := s₂.heap, slotsUsed := s₂.slotsUsed } : State) L mc ms := by
      refine ⟨?_, q2, q3, q4, q5, q6⟩
      obtain ⟨t, ht, -⟩ := State.frames_cons hr
      show ({ U with heap := s₂.heap, slotsUsed := s₂.slotsUsed } : State) = { U.setFrames U.frames with heap := s₂.heap, slotsUsed := s₂.slotsUsed }
      rw [State.setFrames_self ht]
    subst hg
    refine Or.inl ⟨v, ⟨(({ U with heap := s₂.heap, slotsUsed := s₂.slotsUsed } : State).setVm s₂.vm), Ls ++ L, c0 + mc, s0 + ms⟩,
      ⟨X.admits, X.cas, X.clock, X.frames, X.room, X.hears, X.method, X.code, (X.here.setHeapUsed s₂.heap s₂.slotsUsed).setVm hW'.alike, X.tail, State.WarmedH.trans X.warmed hW', X.limits, X.bytes, X.same.trans (hsame.setVm s.vm)⟩,
      ⟨g, mk, s₂, L, rfl, rfl, hqc, rfl, hL, rfl, rfl⟩, ?_⟩
    show Steps p.tables e below _ ((({ U with heap := s₂.heap, slotsUsed := s₂.slotsUsed } : State).setVm s₂.vm).setTop { g with pc := g.pc + len₂, stack := v.toList ++ g.stack })
    rw [← hs₂]
    exact hsteps
  · obtain ⟨e2, q2, q3, q4, q5, q6⟩ := id hsm
    have e3 : s₂ = ({ (U.calling g mk a).setFrames s₂.frames with heap := s₂.heap, slotsUsed := s₂.slotsUsed } : State).setVm s₂.vm := by
      have : s₂ = ({ s₂ with vm := (U.calling g mk a).vm } : State).setVm s₂.vm := rfl
      rw [e2] at this
      exact this
    have hf₂ : s₂.frames = .throwing q :: .java g :: U.frames.tail := hend
    have hW' : U.WarmedH s₂.vm := hW₂
    have hs₂ : s₂ = ((({ U with heap := s₂.heap, slotsUsed := s₂.slotsUsed } : State).setVm s₂.vm).setTop g).pushFrame (.throwing q) := by
      refine e3.trans ?_
      rw [hf₂, State.calling_eq h.top, State.setFrames_setFrames, State.pushFrame, State.frames_setTop _ hr', State.setTop_of_frames _ hr', State.setFrames_setFrames, hr]
      rfl
    have hsame : U.sameButNew ({ U with heap := s₂.heap, slotsUsed := s₂.slotsUsed } : State) L mc ms := by
      refine ⟨?_, q2, q3, q4, q5, q6⟩
      obtain ⟨t, ht, -⟩ := State.frames_cons hr
      show ({ U with heap := s₂.heap, slotsUsed := s₂.slotsUsed } : State) = { U.setFrames U.frames with heap := s₂.heap, slotsUsed := s₂.slotsUsed }
      rw [State.setFrames_self ht]
    subst hg
    refine Or.inr ⟨q, ⟨(({ U with heap := s₂.heap, slotsUsed := s₂.slotsUsed } : State).setVm s₂.vm), Ls ++ L, c0 + mc, s0 + ms⟩,
      ⟨X.admits, X.cas, X.clock, X.frames, X.room, X.hears, X.method, X.code, (X.here.setHeapUsed s₂.heap s₂.slotsUsed).setVm hW'.alike, X.tail, State.WarmedH.trans X.warmed hW', X.limits, X.bytes, X.same.trans (hsame.setVm s.vm)⟩,
      ⟨g, mk, s₂, L, E, ce, rfl, rfl, hx, hce, hcv, hcl, rfl, hL, rfl, rfl⟩, ?_⟩
    show Steps p.tables e below _ (((({ U with heap := s₂.heap, slotsUsed := s₂.slotsUsed } : State).setVm s₂.vm).setTop g).pushFrame (.throwing q))
    rw [← hs₂]
    exact hsteps
end
variable {p : Program} {l : Launch} {e : Env} {R : Room} {s : State} {m : MethodId} {args : Array Value} {below : List Frame} {meth : Method} {c : Code} {T : State} {H : Heap} {locs : List Loc} {cells slots : Nat}
theorem vx_callVX (X : Stand p l e R s m args below meth c T locs cells slots) (hexec : p.tables.exec = Jvm.exec) {own C : String} {index : Nat} {y : MethodName} {bytes : ByteArray} {maxL : Nat} {ret : Option FieldType} {hh : List (Nat × Nat × Nat × Nat)}
    (hown : s.vm.findClass own = some m.cls) (hlink : (Cond.methodLink own index y).before args s = true) (hinst : (Cond.instanceMethod y).before args s = true) (hsel : (Cond.selects C y y).before args s = true)
    (hcode : (Cond.codeWith y bytes maxL ret hh).before args s = true) (hy : y.cls ≠ "java/lang/invoke/MethodHandle" ∧ y.cls ≠ "java/lang/invoke/VarHandle")
    {W9 : Nat} {Pre : Pt → Array Value → Prop} {Post : Pt → Array Value → Option Value → Pt → Prop} {PostX : Pt → Array Value → Addr → Pt → Prop} (hK : vx_Back l R p e below s args y 3 W9 Pre Post PostX)
    {b : Addr} {cellB : Cell} (hcell : T.heap[b]? = some cellB) (hobj : cellB.vm.isStatics = false) (hcls : s.vm.findClass C = some cellB.cls)
    {g : JFrame} (hg : g.method = m) (hsize : g.locals.size = c.maxLocals) {argsL rest : List Value} (hlen : ∀ sig, parseMethodDescriptor y.desc = some sig → argsL.length = sig.parameters.length)
    (hstack : g.stack = argsL.reverse ++ .ref b :: rest) (hW : 2 * g.monitorRoom + (rest.map fun v => v.category).sum ≤ W9) (hdg : decode c.code g.pc = .ok (.invokevirtual index, 3))
    (hpre : ∀ vm₁, s.WarmedH vm₁ → Pre ⟨T.setVm vm₁, locs, cells, slots⟩ (Value.ref b :: argsL).toArray) :
    (∃ (v : Option Value) (vm₁ : Vm) (B : Pt), s.WarmedH vm₁ ∧ Stand p l e R s m args below meth c B.U B.locs B.cells B.slots ∧ Post ⟨T.setVm vm₁, locs, cells, slots⟩ (Value.ref b :: argsL).toArray v B ∧
      ∀ target, Steps p.tables e below (B.U.setTop { g with pc := g.pc + 3, stack := v.toList ++ rest }) target → Steps p.tables e below (T.setTop g) target) ∨
    (∃ (q : Addr) (vm₁ : Vm) (B : Pt), s.WarmedH vm₁ ∧ Stand p l e R s m args below meth c B.U B.locs B.cells B.slots ∧ PostX ⟨T.setVm vm₁, locs, cells, slots⟩ (Value.ref b :: argsL).toArray q B ∧
      Steps p.tables e below (T.setTop g) ((B.U.setTop { g with stack := rest }).pushFrame (.throwing q))) := by
  obtain ⟨mk, methM, hnamed, hmethM, hstM, habM⟩ := Cond.instanceMethod_spec hinst
  obtain ⟨m8, methM', cM, hn8, hmethM', -, -, -, -, -, -, hsigM⟩ := Cond.codeWith_spec hcode
  cases Option.some.inj (hn8.symm.trans hnamed)
  cases hmethM.symm.trans hmethM'
  obtain ⟨c2, r2, m2, q1, q2, q3, q4, kP, hkP, hkPi⟩ := Cond.selects_spec hsel
  cases hcls.symm.trans q1
  cases (State.methodFound?_of_named hnamed hy).symm.trans q2
  cases hnamed.symm.trans q3
  have hselP : selectMethod e.platform s.vm cellB.cls mk = .method mk := by rw [Launch.admits_selectMethod X.admits]; exact q4
  obtain ⟨vm₁, X₁, hstep₁⟩ := X.invokevirtual hexec hown hlink hnamed hmethM hstM hkP hkPi hy (a := b) (cell := cellB) hcell
    (fun z h => by rw [h] at hobj; cases hobj) hselP hmethM habM hkP hkPi (g := g) hg (argsL := argsL) (rest := rest) (hlen _ hsigM) hstack hdg
  rcases hK m meth c ⟨T.setVm vm₁, locs, cells, slots⟩ { g with stack := rest } (.invokevirtual index) mk (Value.ref b :: argsL).toArray X₁ hg hsize hdg hW (X₁.named hnamed) (hpre vm₁ X₁.warmed) with ⟨v, B, X', hpost, hsteps⟩ | ⟨q, B, X', hpost, hsteps⟩
  · exact Or.inl ⟨v, vm₁, B, X₁.warmed, X', hpost, fun target h => hstep₁ _ fun acts => by rw [doInvoke_state]; exact hsteps.trans h⟩
  · exact Or.inr ⟨q, vm₁, B, X₁.warmed, X', hpost, hstep₁ _ fun acts => by rw [doInvoke_state]; exact hsteps⟩
theorem vx_callSX (X : Stand p l e R s m args below meth c T locs cells slots) (hexec : p.tables.exec = Jvm.exec) {own : String} {index : Nat} {y : MethodName} {bytes : ByteArray} {maxL : Nat} {ret : Option FieldType} {hh : List (Nat × Nat × Nat × Nat)}
    (hown : s.vm.findClass own = some m.cls) (hlink : (Cond.methodLink own index y).before args s = true) (hstat : (Cond.static y).before args s = true) (hinit : (Cond.initialized y.cls).before args s = true)
    (hcode : (Cond.codeWith y bytes maxL ret hh).before args s = true) (hy : y.cls ≠ "java/lang/invoke/MethodHandle" ∧ y.cls ≠ "java/lang/invoke/VarHandle")
    {W9 : Nat} {Pre : Pt → Array Value → Prop} {Post : Pt → Array Value → Option Value → Pt → Prop} {PostX : Pt → Array Value → Addr → Pt → Prop} (hK : vx_Back l R p e below s args y 3 W9 Pre Post PostX)
    {g : JFrame} (hg : g.method = m) (hsize : g.locals.size = c.maxLocals) {argsL rest : List Value} (hlen : ∀ sig, parseMethodDescriptor y.desc = some sig → argsL.length = sig.parameters.length)
    (hstack : g.stack = argsL.reverse ++ rest) (hW : 2 * g.monitorRoom + (rest.map fun v => v.category).sum ≤ W9) (hdg : decode c.code g.pc = .ok (.invokestatic index, 3))
    (hpre : ∀ vm₁, s.WarmedH vm₁ → Pre ⟨T.setVm vm₁, locs, cells, slots⟩ argsL.toArray) :
    (∃ (v : Option Value) (vm₁ : Vm) (B : Pt), s.WarmedH vm₁ ∧ Stand p l e R s m args below meth c B.U B.locs B.cells B.slots ∧ Post ⟨T.setVm vm₁, locs, cells, slots⟩ argsL.toArray v B ∧
      ∀ target, Steps p.tables e below (B.U.setTop { g with pc := g.pc + 3, stack := v.toList ++ rest }) target → Steps p.tables e below (T.setTop g) target) ∨
    (∃ (q : Addr) (vm₁ : Vm) (B : Pt), s.WarmedH vm₁ ∧ Stand p l e R s m args below meth c B.U B.locs B.cells B.slots ∧ PostX ⟨T.setVm vm₁, locs, cells, slots⟩ argsL.toArray q B ∧
      Steps p.tables e below (T.setTop g) ((B.U.setTop { g with stack := rest }).pushFrame (.throwing q))) := by
  obtain ⟨mk, methM, cM, hnamed, hmethM, -, -, -, -, -, -, hsigM⟩ := Cond.codeWith_spec hcode
  have hstatic : methM.isStatic = true := Cond.static_spec hnamed hmethM hstat
  obtain ⟨kP, hkP, -⟩ := className_of_methodNamed hnamed
  have hinitP : kP.init = .initialized := Cond.initialized_spec (findClass_of_methodNamed hnamed) hkP hinit
  obtain ⟨vm₁, X₁, hstep₁⟩ := X.invokestatic hexec hown hlink hnamed hmethM hstatic hkP hinitP hy (g := g) hg (argsL := argsL) (rest := rest) (hlen _ hsigM) hstack hdg
  rcases hK m meth c ⟨T.setVm vm₁, locs, cells, slots⟩ { g with stack := rest } (.invokestatic index) mk argsL.toArray X₁ hg hsize hdg hW (X₁.named hnamed) (hpre vm₁ X₁.warmed) with ⟨v, B, X', hpost, hsteps⟩ | ⟨q, B, X', hpost, hsteps⟩
  · exact Or.inl ⟨v, vm₁, B, X₁.warmed, X', hpost, fun target h => hstep₁ _ fun acts => by rw [doInvoke_state]; exact hsteps.trans h⟩
  · exact Or.inr ⟨q, vm₁, B, X₁.warmed, X', hpost, hstep₁ _ fun acts => by rw [doInvoke_state]; exact hsteps⟩
theorem vx_callVW (X : Stand p l e R s m args below meth c T locs cells slots) (hexec : p.tables.exec = Jvm.exec) {own C : String} {index : Nat} {y : MethodName} {bytes : ByteArray} {maxL : Nat} {ret : Option FieldType} {hh : List (Nat × Nat × Nat × Nat)}
    (hown : s.vm.findClass own = some m.cls) (hlink : (Cond.methodLink own index y).before args s = true) (hinst : (Cond.instanceMethod y).before args s = true) (hsel : (Cond.selects C y y).before args s = true)
    (hcode : (Cond.codeWith y bytes maxL ret hh).before args s = true) (hy : y.cls ≠ "java/lang/invoke/MethodHandle" ∧ y.cls ≠ "java/lang/invoke/VarHandle")
    {W9 : Nat} {Pre : Pt → Array Value → Prop} {Post : Pt → Array Value → Option Value → Pt → Prop} (hK : Back l R p e below s args y 3 W9 Pre Post)
    {b : Addr} {cellB : Cell} (hcell : T.heap[b]? = some cellB) (hobj : cellB.vm.isStatics = false) (hcls : s.vm.findClass C = some cellB.cls)
    {g : JFrame} (hg : g.method = m) (hsize : g.locals.size = c.maxLocals) {argsL rest : List Value} (hlen : ∀ sig, parseMethodDescriptor y.desc = some sig → argsL.length = sig.parameters.length)
    (hstack : g.stack = argsL.reverse ++ .ref b :: rest) (hW : 2 * g.monitorRoom + (rest.map fun v => v.category).sum ≤ W9) (hdg : decode c.code g.pc = .ok (.invokevirtual index, 3))
    (hpre : ∀ vm₁, s.WarmedH vm₁ → Pre ⟨T.setVm vm₁, locs, cells, slots⟩ (Value.ref b :: argsL).toArray) :
    ∃ (v : Option Value) (vm₁ : Vm) (B : Pt), s.WarmedH vm₁ ∧ Stand p l e R s m args below meth c B.U B.locs B.cells B.slots ∧ Post ⟨T.setVm vm₁, locs, cells, slots⟩ (Value.ref b :: argsL).toArray v B ∧
      ∀ target, Steps p.tables e below (B.U.setTop { g with pc := g.pc + 3, stack := v.toList ++ rest }) target → Steps p.tables e below (T.setTop g) target := by
  obtain ⟨mk, methM, hnamed, hmethM, hstM, habM⟩ := Cond.instanceMethod_spec hinst
  obtain ⟨m8, methM', cM, hn8, hmethM', -, -, -, -, -, -, hsigM⟩ := Cond.codeWith_spec hcode
  cases Option.some.inj (hn8.symm.trans hnamed)
  cases hmethM.symm.trans hmethM'
  obtain ⟨c2, r2, m2, q1, q2, q3, q4, kP, hkP, hkPi⟩ := Cond.selects_spec hsel
  cases hcls.symm.trans q1
  cases (State.methodFound?_of_named hnamed hy).symm.trans q2
  cases hnamed.symm.trans q3
  have hselP : selectMethod e.platform s.vm cellB.cls mk = .method mk := by rw [Launch.admits_selectMethod X.admits]; exact q4
  obtain ⟨vm₁, X₁, hstep₁⟩ := X.invokevirtual hexec hown hlink hnamed hmethM hstM hkP hkPi hy (a := b) (cell := cellB) hcell
    (fun z h => by rw [h] at hobj; cases hobj) hselP hmethM habM hkP hkPi (g := g) hg (argsL := argsL) (rest := rest) (hlen _ hsigM) hstack hdg
  obtain ⟨v, B, X', hpost, hsteps⟩ := hK m meth c ⟨T.setVm vm₁, locs, cells, slots⟩ { g with stack := rest } (.invokevirtual index) mk (Value.ref b :: argsL).toArray X₁ hg hsize hdg hW (X₁.named hnamed) (hpre vm₁ X₁.warmed)
  exact ⟨v, vm₁, B, X₁.warmed, X', hpost, fun target h => hstep₁ _ fun acts => by rw [doInvoke_state]; exact hsteps.trans h⟩
abbrev vx_CVW (R : Room) (s : State) (args : Array Value) (own C : String) (index : Nat) (y : MethodName) (bytes : ByteArray) (maxL : Nat) (ret : Option FieldType) (hh : List (Nat × Nat × Nat × Nat)) (ws : List Cond) (rm : Room) (mc ms n : Nat) : Prop :=
  (rm.cells = mc ∧ rm.slots = ms ∧ rm.frames + 1 ≤ R.frames ∧ 8 + (maxL + 11) + rm.locals ≤ R.locals ∧ (∀ w ∈ ws, ∀ (a' : Array Value) (U : State), s.WarmedH U.vm → w.before a' U = true) ∧ Cond.codeWith y bytes maxL ret hh ∈ ws) ∧
  (Cond.codeWith y bytes maxL ret hh).before args s = true ∧ (Cond.initialized y.cls).before args s = true ∧ (y.cls ≠ "java/lang/invoke/MethodHandle" ∧ y.cls ≠ "java/lang/invoke/VarHandle") ∧
  (∀ sig, parseMethodDescriptor y.desc = some sig → n = sig.parameters.length) ∧ (Cond.methodLink own index y).before args s = true ∧ (Cond.instanceMethod y).before args s = true ∧ (Cond.selects C y y).before args s = true
theorem vx_cwVW {own C : String} {index maxL mc ms : Nat} {y : MethodName} {bytes : ByteArray} {ret : Option FieldType} {hh : List (Nat × Nat × Nat × Nat)} {Ts ws ws' : List Cond} {rm : Room} (n : Nat) (ht : ∀ w ∈ Ts, w.before args s = true) (hT : GoodIn Ts (wsV own index C y ws)) (hw : ws = Cond.codeWith y bytes maxL ret hh :: ws') (hrc : rm.cells = mc) (hrs : rm.slots = ms)
    (hd : y.cls = C ∧ y.cls ≠ "java/lang/invoke/MethodHandle" ∧ y.cls ≠ "java/lang/invoke/VarHandle" ∧ (parseMethodDescriptor y.desc).map (fun d => d.parameters.length) = some n) (hR : rm.frames + 1 ≤ R.frames ∧ 8 + (maxL + 11) + rm.locals ≤ R.locals) :
    vx_CVW R s args own C index y bytes maxL ret hh ws rm mc ms n := by
  obtain ⟨hC, hd⟩ := hd
  subst hC
  have ok : ∀ w ∈ wsV own index y.cls y ws, w.before args s = true := fun w h => ht w (hT w h).1
  have hG : GoodIn Ts ws := fun w h => hT w (by unfold wsV; exact List.mem_append_right _ h)
  have hc : Cond.codeWith y bytes maxL ret hh ∈ ws := by rw [hw]; exact List.mem_cons_self
  refine ⟨⟨hrc, hrs, hR.1, hR.2, pay_in ht hG, hc⟩, ht _ (hG _ hc).1, ok _ (by simp [wsV]), ⟨hd.1, hd.2.1⟩, fun sig h => ?_, ok _ (by simp [wsV]), ok _ (by simp [wsV]), ok _ (by simp [wsV])⟩
  have h2 := hd.2.2
  rw [h] at h2
  exact (Option.some.inj h2).symm
theorem vx_runVW {y : MethodName} {bytes cc : ByteArray} {maxL nL mc ms n index : Nat} {ret : Option FieldType} {hh : List (Nat × Nat × Nat × Nat)} {ws : List Cond} {rm : Room} {Pc : Array Value → State → Prop} {Qc : Array Value → State → Outcome → State → Prop} {free : Addr → Prop} {Ts : List Cond} {own C : String} {b : Addr} {As rest : List Value} {g : JFrame}
    (S : CallFix p m c cc nL s args Ts own) (hM : Met l y ws rm Pc Qc mc ms free) (cw : vx_CVW R s args own C index y bytes maxL ret hh ws rm mc ms n) (hp : PreV s H C b Pc As)
    (hg : g.method = m) (hn : As.length = n) (hsize : g.locals.size = nL) (hstack : g.stack = As.reverse ++ .ref b :: rest) (hW : 2 * g.monitorRoom + (rest.map fun v => v.category).sum ≤ 8) (hdg : decode cc g.pc = .ok (.invokevirtual index, 3)) (hf : cells + mc ≤ R.cells ∧ slots + ms ≤ R.slots) :
    va_Run p l e R s m args below meth c H locs cells slots mc ms g rest (Qc (Value.ref b :: As).toArray) free := by
  obtain ⟨⟨hrc, hrs, hfr, hlo, hws, hcw⟩, hcode, hini, hy, hlen, hl, hin, hse⟩ := cw
  have hK : Back l R p e below s args y 3 8 (PreOf R mc ms Pc) (PostOf Qc mc ms free) := va_backW (hh := hh) (bytes := bytes) (maxL := maxL) (ret := ret) hM hp.1 hrc hrs hfr hlo hws hcw (fun a' U hW => word_at hW (Or.inl (by first | rfl | simp [Cond.onTables, Cond.keeps, Cond.steady])) hini)
  obtain ⟨hx, hb, hml, ho, -⟩ := S
  obtain ⟨-, ⟨cellB, hcB, hoB, hclB⟩, hPc⟩ := hp
  intro T hT X
  obtain ⟨v, vm₁, ⟨U', l2, c2, s2⟩, hW₁, X', ⟨g', mk, t, L, e1, e2, hq, h1, hL, h2, h3⟩, st⟩ := vx_callVW X hx (C := C) (hh := hh) (bytes := bytes) (maxL := maxL) (ret := ret) ho hl hin hse hcode hy hK (by rw [hT]; exact hcB) hoB hclB hg (hsize.trans hml.symm) (argsL := As) (rest := rest) (fun sig h => hn.trans (hlen sig h)) hstack hW (by rw [hb]; exact hdg)
    (fun vm₁ hW₁ => ⟨hf.1, hf.2, hPc (T.setVm vm₁) hT hW₁⟩)
  dsimp only [Pt.U, Pt.locs, Pt.cells, Pt.slots] at X' e1 e2 h1 h2 h3 st
  subst h1; subst h2; subst h3
  exact ⟨v, (T.setVm vm₁).calling g' mk (Value.ref b :: As).toArray, t, U', L, hT, X', hL, e1, e2, hq, st⟩
section
variable {y : MethodName} {bytes cc : ByteArray} {maxL nL mc ms n index : Nat} {ret : Option FieldType} {ws : List Cond} {rm : Room} {Pc : Array Value → State → Prop} {Qc : Array Value → State → Outcome → State → Prop} {XC : String → State → State → Prop} {free : Addr → Prop} {Ts : List Cond} {own C : String} {b : Addr} {As rest : List Value} {g : JFrame}
theorem vx_runVX {hh : List (Nat × Nat × Nat × Nat)} (S : CallFix p m c cc nL s args Ts own) (hM : vx_Met l y ws rm Pc Qc XC mc ms free) (cw : vx_CVW R s args own C index y bytes maxL ret hh ws rm mc ms n) (hp : PreV s H C b Pc As)
    (hg : g.method = m) (hn : As.length = n) (hsize : g.locals.size = nL) (hstack : g.stack = As.reverse ++ .ref b :: rest) (hW : 2 * g.monitorRoom + (rest.map fun v => v.category).sum ≤ 8) (hdg : decode cc g.pc = .ok (.invokevirtual index, 3)) (hf : cells + mc ≤ R.cells ∧ slots + ms ≤ R.slots) :
    vx_Run p l e R s m args below meth c H locs cells slots mc ms g rest (Qc (Value.ref b :: As).toArray) XC free := by
  obtain ⟨⟨hrc, hrs, hfr, hlo, hws, hcw⟩, hcode, hini, hy, hlen, hl, hin, hse⟩ := cw
  have hK : vx_Back l R p e below s args y 3 8 (PreOf R mc ms Pc) (PostOf Qc mc ms free) (vx_Post XC mc ms free) := vx_backW (hh := hh) (bytes := bytes) (maxL := maxL) (ret := ret) hM hp.1 hrc hrs hfr hlo hws hcw (fun a' U hW => word_at hW (Or.inl (by first | rfl | simp [Cond.onTables, Cond.keeps, Cond.steady])) hini)
  obtain ⟨hx, hb, hml, ho, -⟩ := S
  obtain ⟨-, ⟨cellB, hcB, hoB, hclB⟩, hPc⟩ := hp
  intro T hT X
  rcases vx_callVX X hx (C := C) (hh := hh) (bytes := bytes) (maxL := maxL) (ret := ret) ho hl hin hse hcode hy hK (by rw [hT]; exact hcB) hoB hclB hg (hsize.trans hml.symm) (argsL := As) (rest := rest) (fun sig h => hn.trans (hlen sig h)) hstack hW (by rw [hb]; exact hdg)
    (fun vm₁ hW₁ => ⟨hf.1, hf.2, hPc (T.setVm vm₁) hT hW₁⟩) with ⟨v, vm₁, ⟨U', l2, c2, s2⟩, hW₁, X', ⟨g', mk, t, L, e1, e2, hq, h1, hL, h2, h3⟩, st⟩ | ⟨q, vm₁, ⟨U', l2, c2, s2⟩, hW₁, X', ⟨g', mk, t, L, E, ce, e1, e2, hq, hce, hcv, hcl, h1, hL, h2, h3⟩, st⟩
  · dsimp only [Pt.U, Pt.locs, Pt.cells, Pt.slots] at X' e1 e2 h1 h2 h3 st
    subst h1; subst h2; subst h3
    exact Or.inl ⟨v, (T.setVm vm₁).calling g' mk (Value.ref b :: As).toArray, t, U', L, hT, X', hL, e1, e2, hq, st⟩
  · dsimp only [Pt.U, Pt.locs, Pt.cells, Pt.slots] at X' e1 e2 h1 h2 h3 st hcl
    subst h1; subst h2; subst h3
    exact Or.inr ⟨q, (T.setVm vm₁).calling g' mk (Value.ref b :: As).toArray, t, U', L, E, ce, hT, X', hL, e1, e2, hq, hce, hcv, vx_cls hW₁ hcl, st⟩
theorem vx_runSX {hh : List (Nat × Nat × Nat × Nat)} (S : CallFix p m c cc nL s args Ts own) (hM : vx_Met l y ws rm Pc Qc XC mc ms free) (cw : vx_CSW R s args own index y bytes maxL ret hh ws rm mc ms n) (hp : PreS s H Pc As)
    (hg : g.method = m) (hn : As.length = n) (hsize : g.locals.size = nL) (hstack : g.stack = As.reverse ++ rest) (hW : 2 * g.monitorRoom + (rest.map fun v => v.category).sum ≤ 8) (hdg : decode cc g.pc = .ok (.invokestatic index, 3)) (hf : cells + mc ≤ R.cells ∧ slots + ms ≤ R.slots) :
    vx_Run p l e R s m args below meth c H locs cells slots mc ms g rest (Qc As.toArray) XC free := by
  obtain ⟨⟨hrc, hrs, hfr, hlo, hws, hcw⟩, hcode, hini, hy, hlen, hl, hstt⟩ := cw
  have hK : vx_Back l R p e below s args y 3 8 (PreOf R mc ms Pc) (PostOf Qc mc ms free) (vx_Post XC mc ms free) := vx_backW (hh := hh) (bytes := bytes) (maxL := maxL) (ret := ret) hM hp.1 hrc hrs hfr hlo hws hcw (fun a' U hW => word_at hW (Or.inl (by first | rfl | simp [Cond.onTables, Cond.keeps, Cond.steady])) hini)
  obtain ⟨hx, hb, hml, ho, -⟩ := S
  intro T hT X
  rcases vx_callSX X hx (hh := hh) (bytes := bytes) (maxL := maxL) (ret := ret) ho hl hstt hini hcode hy hK hg (hsize.trans hml.symm) (argsL := As) (rest := rest) (fun sig h => hn.trans (hlen sig h)) hstack hW (by rw [hb]; exact hdg)
    (fun vm₁ hW₁ => ⟨hf.1, hf.2, hp.2 (T.setVm vm₁) hT hW₁⟩) with ⟨v, vm₁, ⟨U', l2, c2, s2⟩, hW₁, X', ⟨g', mk, t, L, e1, e2, hq, h1, hL, h2, h3⟩, st⟩ | ⟨q, vm₁, ⟨U', l2, c2, s2⟩, hW₁, X', ⟨g', mk, t, L, E, ce, e1, e2, hq, hce, hcv, hcl, h1, hL, h2, h3⟩, st⟩
  · dsimp only [Pt.U, Pt.locs, Pt.cells, Pt.slots] at X' e1 e2 h1 h2 h3 st
    subst h1; subst h2; subst h3
    exact Or.inl ⟨v, (T.setVm vm₁).calling g' mk As.toArray, t, U', L, hT, X', hL, e1, e2, hq, st⟩
  · dsimp only [Pt.U, Pt.locs, Pt.cells, Pt.slots] at X' e1 e2 h1 h2 h3 st hcl
    subst h1; subst h2; subst h3
    exact Or.inr ⟨q, (T.setVm vm₁).calling g' mk As.toArray, t, U', L, E, ce, hT, X', hL, e1, e2, hq, hce, hcv, vx_cls hW₁ hcl, st⟩
end
end VXH
theorem vx_ofWH {l : Launch} {y : MethodName} {ws ws' : List Cond} {rm : Room} {Pc : Array Value → State → Prop} {Qc : Array Value → State → Outcome → State → Prop} {XC : String → State → State → Prop} {mc ms : Nat} {free : Addr → Prop} {cc : ByteArray} {maxL : Nat} {ret : Option FieldType} {hh : List (Nat × Nat × Nat × Nat)}
    (hy : plainName y.cls = true) (hw : ws = Cond.codeWith y cc maxL ret hh :: ws')
    (body : ∀ p e s m args below meth c s₁, BodyLoose p l y (headSpec ws rm) cc maxL ret e s m args below meth c s₁ → c.maxLocals = maxL → Pc args s →
      W p l e (headSpec ws rm).room s m args below meth c s.heap [] 0 0 (vx_MQ below Qc XC args s mc ms free) (entryFrame m args maxL)) : vx_Met l y ws rm Pc Qc XC mc ms free := by
  refine MetFree.of_bodyS (code := cc) (maxLocals := maxL) (ret := ret) hy ?_ ?_
  · intro args s m h hn
    obtain ⟨m9, meth, c, hn9, h1, h2, h3, h4, -, h5, h6, -⟩ := Cond.codeWith_spec (atoms_spec (ws := ws) h _ (by rw [hw]; exact List.mem_cons_self))
    cases hn.symm.trans hn9
    exact ⟨meth, c, h1, h2, h3, h4, h5, h6⟩
  · intro p e s m args below meth c s₁ B hml hP _
    have hh0 : s₁.heap = s.heap := by rw [B.state]; rfl
    obtain ⟨t, a1, o, b1, b2, b3⟩ := body p e s m args below meth c s₁ B hml hP s₁ hh0 (Stand.of_body B)
    exact ⟨t, o, a1, b1, b2, b3⟩
/-! ===== END ===== -/

/-! ===== BEGIN printed: names, fields, word lists, decode rows ===== -/
def RX0 : String := "WakeBanks$Cable"
def TX0 : u_T := fun k => match k with
  | 0 => ("WakeBanks$Cable", "rating", "I", false)
  | 1 => ("WakeBanks$Cable", "heat", "I", false)
  | _ => ("WakeBanks$Cable", "through", "I", false)
def tyX0 : Nat → FieldType := fun k => match k with
  | 0 => .int
  | 1 => .int
  | _ => .int
abbrev wsX00 : List Cond := u_ws RX0 TX0 3
theorem nmX0 : ∀ a, a < 3 → ∀ b, b < 3 → a ≠ b → (TX0 a).2.1 ≠ (TX0 b).2.1 := by decide +kernel
theorem tyX0_ok : ∀ k, k < 3 → parseFieldDescriptor (TX0 k).2.2.1 = some (tyX0 k) := by decide +kernel
abbrev cX0_init : ByteArray := prog_2_method_1_code
def yX0_init : MethodName := ⟨RX0, "<init>", "()V"⟩
abbrev cX0_copyFrom : ByteArray := prog_2_method_2_code
def yX0_copyFrom : MethodName := ⟨RX0, "copyFrom", "(LWakeBanks$Cable;)V"⟩
abbrev cX0_limit : ByteArray := prog_2_method_3_code
def yX0_limit : MethodName := ⟨RX0, "limit", "()I"⟩
abbrev cX0_carry : ByteArray := prog_2_method_4_code
def yX0_carry : MethodName := ⟨RX0, "carry", "(I)V"⟩
def RX1 : String := "WakeBanks$Extremes"
def TX1 : u_T := fun k => match k with
  | 0 => ("WakeBanks$Extremes", "row", "[I", true)
  | 1 => ("WakeBanks$Extremes", "count", "I", false)
  | 2 => ("WakeBanks$Extremes", "damage", "I", false)
  | _ => ("WakeBanks$Extremes", "cycles", "I", false)
def tyX1 : Nat → FieldType := fun k => match k with
  | 0 => .array .int
  | 1 => .int
  | 2 => .int
  | _ => .int
abbrev wsX10 : List Cond := u_ws RX1 TX1 4
theorem nmX1 : ∀ a, a < 4 → ∀ b, b < 4 → a ≠ b → (TX1 a).2.1 ≠ (TX1 b).2.1 := by decide +kernel
theorem tyX1_ok : ∀ k, k < 4 → parseFieldDescriptor (TX1 k).2.2.1 = some (tyX1 k) := by decide +kernel
abbrev cX1_init : ByteArray := prog_3_method_1_code
def yX1_init : MethodName := ⟨RX1, "<init>", "()V"⟩
abbrev cX1_copyFrom : ByteArray := prog_3_method_2_code
def yX1_copyFrom : MethodName := ⟨RX1, "copyFrom", "(LWakeBanks$Extremes;)V"⟩
abbrev cX1_put : ByteArray := prog_3_method_3_code
def yX1_put : MethodName := ⟨RX1, "put", "(I)I"⟩
abbrev cX1_goesOn : ByteArray := prog_3_method_4_code
def yX1_goesOn : MethodName := ⟨RX1, "goesOn", "(I)Z"⟩
abbrev cX1_hasCycle : ByteArray := prog_3_method_5_code
def yX1_hasCycle : MethodName := ⟨RX1, "hasCycle", "()Z"⟩
abbrev cX1_takeOut : ByteArray := prog_3_method_6_code
def yX1_takeOut : MethodName := ⟨RX1, "takeOut", "(II)V"⟩
def RX2 : String := "WakeBanks$Ledger"
def TX2 : u_T := fun k => match k with
  | 0 => ("WakeBanks$Ledger", "nominated", "[I", true)
  | 1 => ("WakeBanks$Ledger", "potential", "I", false)
  | 2 => ("WakeBanks$Ledger", "delivered", "I", false)
  | 3 => ("WakeBanks$Ledger", "latest", "I", false)
  | _ => ("WakeBanks$Ledger", "money", "I", false)
def tyX2 : Nat → FieldType := fun k => match k with
  | 0 => .array .int
  | 1 => .int
  | 2 => .int
  | 3 => .int
  | _ => .int
abbrev wsX20 : List Cond := u_ws RX2 TX2 5
theorem nmX2 : ∀ a, a < 5 → ∀ b, b < 5 → a ≠ b → (TX2 a).2.1 ≠ (TX2 b).2.1 := by decide +kernel
theorem tyX2_ok : ∀ k, k < 5 → parseFieldDescriptor (TX2 k).2.2.1 = some (tyX2 k) := by decide +kernel
abbrev cX2_init : ByteArray := prog_4_method_1_code
def yX2_init : MethodName := ⟨RX2, "<init>", "()V"⟩
abbrev cX2_copyFrom : ByteArray := prog_4_method_2_code
def yX2_copyFrom : MethodName := ⟨RX2, "copyFrom", "(LWakeBanks$Ledger;)V"⟩
abbrev cX2_put : ByteArray := prog_4_method_3_code
def yX2_put : MethodName := ⟨RX2, "put", "(II)V"⟩
abbrev cX2_nominatedCount : ByteArray := prog_4_method_4_code
def yX2_nominatedCount : MethodName := ⟨RX2, "nominatedCount", "()I"⟩
abbrev cX2_book : ByteArray := prog_4_method_5_code
def yX2_book : MethodName := ⟨RX2, "book", "(III)V"⟩
abbrev cX2_takeNominated : ByteArray := prog_4_method_6_code
def yX2_takeNominated : MethodName := ⟨RX2, "takeNominated", "()I"⟩
def RX3 : String := "WakeBanks$Sea"
def TX3 : u_T := fun k => match k with
  | 0 => ("WakeBanks$Sea", "turbines", "[LWakeBanks$Turbine;", true)
  | 1 => ("WakeBanks$Sea", "strings", "[LWakeBanks$Cable;", true)
  | 2 => ("WakeBanks$Sea", "vessels", "[LWakeBanks$Vessel;", true)
  | 3 => ("WakeBanks$Sea", "weather", "LWakeBanks$Weather;", true)
  | 4 => ("WakeBanks$Sea", "ledger", "LWakeBanks$Ledger;", true)
  | 5 => ("WakeBanks$Sea", "turbineCount", "I", false)
  | 6 => ("WakeBanks$Sea", "stringCount", "I", false)
  | 7 => ("WakeBanks$Sea", "vesselCount", "I", false)
  | 8 => ("WakeBanks$Sea", "hour", "I", false)
  | 9 => ("WakeBanks$Sea", "floor", "I", false)
  | _ => ("WakeBanks$Sea", "finishedWorks", "I", false)
def tyX3 : Nat → FieldType := fun k => match k with
  | 0 => .array (.object "WakeBanks$Turbine")
  | 1 => .array (.object "WakeBanks$Cable")
  | 2 => .array (.object "WakeBanks$Vessel")
  | 3 => .object "WakeBanks$Weather"
  | 4 => .object "WakeBanks$Ledger"
  | 5 => .int
  | 6 => .int
  | 7 => .int
  | 8 => .int
  | 9 => .int
  | _ => .int
abbrev wsX30 : List Cond := u_ws RX3 TX3 11
theorem nmX3 : ∀ a, a < 11 → ∀ b, b < 11 → a ≠ b → (TX3 a).2.1 ≠ (TX3 b).2.1 := by decide +kernel
theorem tyX3_ok : ∀ k, k < 11 → parseFieldDescriptor (TX3 k).2.2.1 = some (tyX3 k) := by decide +kernel
abbrev cX3_init : ByteArray := prog_5_method_1_code
def yX3_init : MethodName := ⟨RX3, "<init>", "()V"⟩
abbrev cX3_addString : ByteArray := prog_5_method_2_code
def yX3_addString : MethodName := ⟨RX3, "addString", "(I)I"⟩
abbrev cX3_addTurbine : ByteArray := prog_5_method_3_code
def yX3_addTurbine : MethodName := ⟨RX3, "addTurbine", "(III)I"⟩
abbrev cX3_addVessel : ByteArray := prog_5_method_4_code
def yX3_addVessel : MethodName := ⟨RX3, "addVessel", "(I)I"⟩
abbrev cX3_copyFrom : ByteArray := prog_5_method_5_code
def yX3_copyFrom : MethodName := ⟨RX3, "copyFrom", "(LWakeBanks$Sea;)V"⟩
abbrev cX3_hasTurbine : ByteArray := prog_5_method_6_code
def yX3_hasTurbine : MethodName := ⟨RX3, "hasTurbine", "(I)Z"⟩
abbrev cX3_isTaken : ByteArray := prog_5_method_7_code
def yX3_isTaken : MethodName := ⟨RX3, "isTaken", "(II)Z"⟩
abbrev cX3_isAnotherAt : ByteArray := prog_5_method_8_code
def yX3_isAnotherAt : MethodName := ⟨RX3, "isAnotherAt", "(II)Z"⟩
abbrev cX3_isDaylight : ByteArray := prog_5_method_9_code
def yX3_isDaylight : MethodName := ⟨RX3, "isDaylight", "()Z"⟩
abbrev cX3_countOf : ByteArray := prog_5_method_10_code
def yX3_countOf : MethodName := ⟨RX3, "countOf", "(I)I"⟩
abbrev cX3_cycles : ByteArray := prog_5_method_11_code
def yX3_cycles : MethodName := ⟨RX3, "cycles", "()I"⟩
abbrev cX3_deficitBy : ByteArray := prog_5_method_12_code
def yX3_deficitBy : MethodName := ⟨RX3, "deficitBy", "(II)I"⟩
abbrev cX3_deficitOf : ByteArray := prog_5_method_13_code
def yX3_deficitOf : MethodName := ⟨RX3, "deficitOf", "(I)I"⟩
abbrev cX3_passHours : ByteArray := prog_5_method_14_code
def yX3_passHours : MethodName := ⟨RX3, "passHours", "(I)I"⟩
abbrev cX3_passHour : ByteArray := prog_5_method_15_code
def yX3_passHour : MethodName := ⟨RX3, "passHour", "()I"⟩
abbrev cX3_loadStrings : ByteArray := prog_5_method_16_code
def yX3_loadStrings : MethodName := ⟨RX3, "loadStrings", "()V"⟩
abbrev cX3_isOn : ByteArray := prog_5_method_17_code
def yX3_isOn : MethodName := ⟨RX3, "isOn", "(II)Z"⟩
abbrev cX3_giveUp : ByteArray := prog_5_method_18_code
def yX3_giveUp : MethodName := ⟨RX3, "giveUp", "(III)I"⟩
abbrev cX3_work : ByteArray := prog_5_method_19_code
def yX3_work : MethodName := ⟨RX3, "work", "(LWakeBanks$Vessel;)V"⟩
def RX4 : String := "WakeBanks$Siting"
def TX4 : u_T := fun k => match k with
  | 0 => ("WakeBanks$Siting", "greatest", "[I", true)
  | _ => ("WakeBanks$Siting", "sums", "[I", true)
def tyX4 : Nat → FieldType := fun k => match k with
  | 0 => .array .int
  | _ => .array .int
abbrev wsX40 : List Cond := u_ws RX4 TX4 2
theorem nmX4 : ∀ a, a < 2 → ∀ b, b < 2 → a ≠ b → (TX4 a).2.1 ≠ (TX4 b).2.1 := by decide +kernel
theorem tyX4_ok : ∀ k, k < 2 → parseFieldDescriptor (TX4 k).2.2.1 = some (tyX4 k) := by decide +kernel
abbrev cX4_init : ByteArray := prog_6_method_1_code
def yX4_init : MethodName := ⟨RX4, "<init>", "()V"⟩
abbrev cX4_bestFor : ByteArray := prog_6_method_2_code
def yX4_bestFor : MethodName := ⟨RX4, "bestFor", "(LWakeBanks$Sea;)I"⟩
abbrev cX4_takeDeficits : ByteArray := prog_6_method_3_code
def yX4_takeDeficits : MethodName := ⟨RX4, "takeDeficits", "(LWakeBanks$Sea;I)V"⟩
abbrev cX4_powerWith : ByteArray := prog_6_method_4_code
def yX4_powerWith : MethodName := ⟨RX4, "powerWith", "(LWakeBanks$Sea;II)I"⟩
abbrev cX4_powerAt : ByteArray := prog_6_method_5_code
def yX4_powerAt : MethodName := ⟨RX4, "powerAt", "(II)I"⟩
def RX5 : String := "WakeBanks$Turbine"
def TX5 : u_T := fun k => match k with
  | 0 => ("WakeBanks$Turbine", "x", "I", false)
  | 1 => ("WakeBanks$Turbine", "y", "I", false)
  | 2 => ("WakeBanks$Turbine", "string", "I", false)
  | 3 => ("WakeBanks$Turbine", "state", "I", false)
  | 4 => ("WakeBanks$Turbine", "stoppedBy", "I", false)
  | 5 => ("WakeBanks$Turbine", "faultyPart", "I", false)
  | 6 => ("WakeBanks$Turbine", "lockedBy", "I", false)
  | 7 => ("WakeBanks$Turbine", "turn", "I", false)
  | 8 => ("WakeBanks$Turbine", "wind", "I", false)
  | 9 => ("WakeBanks$Turbine", "windBefore", "I", false)
  | 10 => ("WakeBanks$Turbine", "left", "I", false)
  | 11 => ("WakeBanks$Turbine", "wears", "[I", true)
  | 12 => ("WakeBanks$Turbine", "losses", "[I", true)
  | _ => ("WakeBanks$Turbine", "extremes", "LWakeBanks$Extremes;", true)
def tyX5 : Nat → FieldType := fun k => match k with
  | 0 => .int
  | 1 => .int
  | 2 => .int
  | 3 => .int
  | 4 => .int
  | 5 => .int
  | 6 => .int
  | 7 => .int
  | 8 => .int
  | 9 => .int
  | 10 => .int
  | 11 => .array .int
  | 12 => .array .int
  | _ => .object "WakeBanks$Extremes"
abbrev wsX50 : List Cond := u_ws RX5 TX5 14
theorem nmX5 : ∀ a, a < 14 → ∀ b, b < 14 → a ≠ b → (TX5 a).2.1 ≠ (TX5 b).2.1 := by decide +kernel
theorem tyX5_ok : ∀ k, k < 14 → parseFieldDescriptor (TX5 k).2.2.1 = some (tyX5 k) := by decide +kernel
abbrev cX5_init : ByteArray := prog_7_method_1_code
def yX5_init : MethodName := ⟨RX5, "<init>", "()V"⟩
abbrev cX5_copyFrom : ByteArray := prog_7_method_2_code
def yX5_copyFrom : MethodName := ⟨RX5, "copyFrom", "(LWakeBanks$Turbine;)V"⟩
abbrev cX5_become : ByteArray := prog_7_method_3_code
def yX5_become : MethodName := ⟨RX5, "become", "(I)V"⟩
abbrev cX5_stop : ByteArray := prog_7_method_4_code
def yX5_stop : MethodName := ⟨RX5, "stop", "(I)V"⟩
abbrev cX5_lockFor : ByteArray := prog_7_method_5_code
def yX5_lockFor : MethodName := ⟨RX5, "lockFor", "(I)V"⟩
abbrev cX5_isStoppedByCall : ByteArray := prog_7_method_6_code
def yX5_isStoppedByCall : MethodName := ⟨RX5, "isStoppedByCall", "()Z"⟩
abbrev cX5_canBeLocked : ByteArray := prog_7_method_7_code
def yX5_canBeLocked : MethodName := ⟨RX5, "canBeLocked", "()Z"⟩
abbrev cX5_fault : ByteArray := prog_7_method_8_code
def yX5_fault : MethodName := ⟨RX5, "fault", "(I)V"⟩
abbrev cX5_settle : ByteArray := prog_7_method_9_code
def yX5_settle : MethodName := ⟨RX5, "settle", "(LWakeBanks$Weather;I)V"⟩
abbrev cX5_mayStart : ByteArray := prog_7_method_10_code
def yX5_mayStart : MethodName := ⟨RX5, "mayStart", "(IZ)Z"⟩
abbrev cX5_wornPart : ByteArray := prog_7_method_11_code
def yX5_wornPart : MethodName := ⟨RX5, "wornPart", "()I"⟩
abbrev cX5_take : ByteArray := prog_7_method_12_code
def yX5_take : MethodName := ⟨RX5, "take", "(II)V"⟩
abbrev cX5_causeOfStanding : ByteArray := prog_7_method_13_code
def yX5_causeOfStanding : MethodName := ⟨RX5, "causeOfStanding", "()I"⟩
abbrev cX5_lose : ByteArray := prog_7_method_14_code
def yX5_lose : MethodName := ⟨RX5, "lose", "(II)V"⟩
abbrev cX5_wearOut : ByteArray := prog_7_method_15_code
def yX5_wearOut : MethodName := ⟨RX5, "wearOut", "()V"⟩
abbrev cX5_wearPart : ByteArray := prog_7_method_16_code
def yX5_wearPart : MethodName := ⟨RX5, "wearPart", "(II)V"⟩
def RX6 : String := "WakeBanks$Vessel"
def TX6 : u_T := fun k => match k with
  | 0 => ("WakeBanks$Vessel", "limit", "I", false)
  | 1 => ("WakeBanks$Vessel", "at", "I", false)
  | 2 => ("WakeBanks$Vessel", "crewIsOff", "Z", false)
  | 3 => ("WakeBanks$Vessel", "part", "I", false)
  | 4 => ("WakeBanks$Vessel", "toGo", "I", false)
  | _ => ("WakeBanks$Vessel", "stranded", "I", false)
def tyX6 : Nat → FieldType := fun k => match k with
  | 0 => .int
  | 1 => .int
  | 2 => .boolean
  | 3 => .int
  | 4 => .int
  | _ => .int
abbrev wsX60 : List Cond := u_ws RX6 TX6 6
theorem nmX6 : ∀ a, a < 6 → ∀ b, b < 6 → a ≠ b → (TX6 a).2.1 ≠ (TX6 b).2.1 := by decide +kernel
theorem tyX6_ok : ∀ k, k < 6 → parseFieldDescriptor (TX6 k).2.2.1 = some (tyX6 k) := by decide +kernel
abbrev cX6_init : ByteArray := prog_8_method_1_code
def yX6_init : MethodName := ⟨RX6, "<init>", "()V"⟩
abbrev cX6_copyFrom : ByteArray := prog_8_method_2_code
def yX6_copyFrom : MethodName := ⟨RX6, "copyFrom", "(LWakeBanks$Vessel;)V"⟩
abbrev cX6_climbTo : ByteArray := prog_8_method_3_code
def yX6_climbTo : MethodName := ⟨RX6, "climbTo", "(I)V"⟩
abbrev cX6_finishes : ByteArray := prog_8_method_4_code
def yX6_finishes : MethodName := ⟨RX6, "finishes", "()Z"⟩
abbrev cX6_comeBack : ByteArray := prog_8_method_5_code
def yX6_comeBack : MethodName := ⟨RX6, "comeBack", "()I"⟩
def RX7 : String := "WakeBanks$Wakes"
def TX7 : u_T := fun k => match k with
  | _ => ("", "", "", false)
def tyX7 : Nat → FieldType := fun k => match k with
  | _ => .int
abbrev wsX70 : List Cond := u_ws RX7 TX7 0
theorem nmX7 : ∀ a, a < 0 → ∀ b, b < 0 → a ≠ b → (TX7 a).2.1 ≠ (TX7 b).2.1 := by decide +kernel
theorem tyX7_ok : ∀ k, k < 0 → parseFieldDescriptor (TX7 k).2.2.1 = some (tyX7 k) := by decide +kernel
abbrev cX7_deficit : ByteArray := prog_9_method_2_code
def yX7_deficit : MethodName := ⟨RX7, "deficit", "(IIII)I"⟩
abbrev cX7_together : ByteArray := prog_9_method_3_code
def yX7_together : MethodName := ⟨RX7, "together", "(II)I"⟩
abbrev cX7_wind : ByteArray := prog_9_method_4_code
def yX7_wind : MethodName := ⟨RX7, "wind", "(II)I"⟩
abbrev cX7_power : ByteArray := prog_9_method_5_code
def yX7_power : MethodName := ⟨RX7, "power", "(I)I"⟩
def RX8 : String := "WakeBanks$Weather"
def TX8 : u_T := fun k => match k with
  | 0 => ("WakeBanks$Weather", "sector", "I", false)
  | 1 => ("WakeBanks$Weather", "speed", "I", false)
  | 2 => ("WakeBanks$Weather", "wave", "I", false)
  | 3 => ("WakeBanks$Weather", "price", "I", false)
  | _ => ("WakeBanks$Weather", "order", "I", false)
def tyX8 : Nat → FieldType := fun k => match k with
  | 0 => .int
  | 1 => .int
  | 2 => .int
  | 3 => .int
  | _ => .int
abbrev wsX80 : List Cond := u_ws RX8 TX8 5
theorem nmX8 : ∀ a, a < 5 → ∀ b, b < 5 → a ≠ b → (TX8 a).2.1 ≠ (TX8 b).2.1 := by decide +kernel
theorem tyX8_ok : ∀ k, k < 5 → parseFieldDescriptor (TX8 k).2.2.1 = some (tyX8 k) := by decide +kernel
abbrev cX8_init : ByteArray := prog_10_method_1_code
def yX8_init : MethodName := ⟨RX8, "<init>", "()V"⟩
abbrev cX8_set : ByteArray := prog_10_method_2_code
def yX8_set : MethodName := ⟨RX8, "set", "(IIIII)V"⟩
abbrev cX8_copyFrom : ByteArray := prog_10_method_3_code
def yX8_copyFrom : MethodName := ⟨RX8, "copyFrom", "(LWakeBanks$Weather;)V"⟩
def RX9 : String := "WakeBanks"
def TX9 : u_T := fun k => match k with
  | 0 => ("WakeBanks", "sea", "LWakeBanks$Sea;", true)
  | 1 => ("WakeBanks", "trial", "LWakeBanks$Sea;", true)
  | _ => ("WakeBanks", "siting", "LWakeBanks$Siting;", true)
def tyX9 : Nat → FieldType := fun k => match k with
  | 0 => .object "WakeBanks$Sea"
  | 1 => .object "WakeBanks$Sea"
  | _ => .object "WakeBanks$Siting"
abbrev wsX90 : List Cond := u_ws RX9 TX9 3
theorem nmX9 : ∀ a, a < 3 → ∀ b, b < 3 → a ≠ b → (TX9 a).2.1 ≠ (TX9 b).2.1 := by decide +kernel
theorem tyX9_ok : ∀ k, k < 3 → parseFieldDescriptor (TX9 k).2.2.1 = some (tyX9 k) := by decide +kernel
abbrev cX9_init : ByteArray := prog_1_method_1_code
def yX9_init : MethodName := ⟨RX9, "<init>", "()V"⟩
abbrev cX9_string : ByteArray := prog_1_method_2_code
def yX9_string : MethodName := ⟨RX9, "string", "(I)I"⟩
abbrev cX9_turbine : ByteArray := prog_1_method_3_code
def yX9_turbine : MethodName := ⟨RX9, "turbine", "(III)I"⟩
abbrev cX9_vessel : ByteArray := prog_1_method_4_code
def yX9_vessel : MethodName := ⟨RX9, "vessel", "(I)I"⟩
abbrev cX9_nominate : ByteArray := prog_1_method_5_code
def yX9_nominate : MethodName := ⟨RX9, "nominate", "(II)I"⟩
abbrev cX9_blow : ByteArray := prog_1_method_6_code
def yX9_blow : MethodName := ⟨RX9, "blow", "(IIIIII)I"⟩
abbrev cX9_turn : ByteArray := prog_1_method_7_code
def yX9_turn : MethodName := ⟨RX9, "turn", "(II)I"⟩
abbrev cX9_call : ByteArray := prog_1_method_8_code
def yX9_call : MethodName := ⟨RX9, "call", "(IZ)I"⟩
abbrev cX9_floor : ByteArray := prog_1_method_9_code
def yX9_floor : MethodName := ⟨RX9, "floor", "(I)I"⟩
abbrev cX9_sail : ByteArray := prog_1_method_10_code
def yX9_sail : MethodName := ⟨RX9, "sail", "(II)I"⟩
abbrev cX9_lock : ByteArray := prog_1_method_11_code
def yX9_lock : MethodName := ⟨RX9, "lock", "(IZ)I"⟩
abbrev cX9_climb : ByteArray := prog_1_method_12_code
def yX9_climb : MethodName := ⟨RX9, "climb", "(II)I"⟩
abbrev cX9_down : ByteArray := prog_1_method_13_code
def yX9_down : MethodName := ⟨RX9, "down", "(I)I"⟩
abbrev cX9_ofTurbine : ByteArray := prog_1_method_14_code
def yX9_ofTurbine : MethodName := ⟨RX9, "ofTurbine", "(II)I"⟩
abbrev cX9_wear : ByteArray := prog_1_method_15_code
def yX9_wear : MethodName := ⟨RX9, "wear", "(II)I"⟩
abbrev cX9_lost : ByteArray := prog_1_method_16_code
def yX9_lost : MethodName := ⟨RX9, "lost", "(II)I"⟩
abbrev cX9_wake : ByteArray := prog_1_method_17_code
def yX9_wake : MethodName := ⟨RX9, "wake", "(II)I"⟩
abbrev cX9_extreme : ByteArray := prog_1_method_18_code
def yX9_extreme : MethodName := ⟨RX9, "extreme", "(II)I"⟩
abbrev cX9_ofString : ByteArray := prog_1_method_19_code
def yX9_ofString : MethodName := ⟨RX9, "ofString", "(II)I"⟩
abbrev cX9_ofVessel : ByteArray := prog_1_method_20_code
def yX9_ofVessel : MethodName := ⟨RX9, "ofVessel", "(II)I"⟩
abbrev cX9_many : ByteArray := prog_1_method_21_code
def yX9_many : MethodName := ⟨RX9, "many", "(I)I"⟩
abbrev cX9_meanDelivered : ByteArray := prog_1_method_22_code
def yX9_meanDelivered : MethodName := ⟨RX9, "meanDelivered", "()D"⟩
abbrev cX9_wouldDeliver : ByteArray := prog_1_method_23_code
def yX9_wouldDeliver : MethodName := ⟨RX9, "wouldDeliver", "(I)I"⟩
abbrev cX9_bestTurn : ByteArray := prog_1_method_24_code
def yX9_bestTurn : MethodName := ⟨RX9, "bestTurn", "(I)I"⟩
abbrev cX9_bestPlace : ByteArray := prog_1_method_25_code
def yX9_bestPlace : MethodName := ⟨RX9, "bestPlace", "()I"⟩
abbrev cX9_digest : ByteArray := prog_1_method_26_code
def yX9_digest : MethodName := ⟨RX9, "digest", "()J"⟩
abbrev cX9_digestTurbine : ByteArray := prog_1_method_27_code
def yX9_digestTurbine : MethodName := ⟨RX9, "digestTurbine", "(JI)J"⟩
abbrev cX9_outside : ByteArray := prog_1_method_28_code
def yX9_outside : MethodName := ⟨RX9, "outside", "(III)Z"⟩
abbrev cX9_checkTurbine : ByteArray := prog_1_method_29_code
def yX9_checkTurbine : MethodName := ⟨RX9, "checkTurbine", "(I)V"⟩
abbrev cX9_checkString : ByteArray := prog_1_method_30_code
def yX9_checkString : MethodName := ⟨RX9, "checkString", "(I)V"⟩
abbrev cX9_checkVessel : ByteArray := prog_1_method_31_code
def yX9_checkVessel : MethodName := ⟨RX9, "checkVessel", "(I)V"⟩
abbrev cX9_checkPart : ByteArray := prog_1_method_32_code
def yX9_checkPart : MethodName := ⟨RX9, "checkPart", "(I)V"⟩
def RX10 : String := "WakeBanksModel$Sea"
def TX10 : u_T := fun k => match k with
  | 0 => ("WakeBanksModel$Sea", "turbines", "[[I", true)
  | 1 => ("WakeBanksModel$Sea", "extremes", "[[I", true)
  | 2 => ("WakeBanksModel$Sea", "strings", "[[I", true)
  | 3 => ("WakeBanksModel$Sea", "vessels", "[[I", true)
  | 4 => ("WakeBanksModel$Sea", "nominated", "[I", true)
  | 5 => ("WakeBanksModel$Sea", "much", "[I", true)
  | 6 => ("WakeBanksModel$Sea", "left", "[I", true)
  | 7 => ("WakeBanksModel$Sea", "count", "I", false)
  | 8 => ("WakeBanksModel$Sea", "stringCount", "I", false)
  | 9 => ("WakeBanksModel$Sea", "vesselCount", "I", false)
  | 10 => ("WakeBanksModel$Sea", "hour", "I", false)
  | 11 => ("WakeBanksModel$Sea", "sector", "I", false)
  | 12 => ("WakeBanksModel$Sea", "speed", "I", false)
  | 13 => ("WakeBanksModel$Sea", "wave", "I", false)
  | 14 => ("WakeBanksModel$Sea", "price", "I", false)
  | 15 => ("WakeBanksModel$Sea", "order", "I", false)
  | 16 => ("WakeBanksModel$Sea", "floor", "I", false)
  | 17 => ("WakeBanksModel$Sea", "potential", "I", false)
  | 18 => ("WakeBanksModel$Sea", "delivered", "I", false)
  | 19 => ("WakeBanksModel$Sea", "latest", "I", false)
  | 20 => ("WakeBanksModel$Sea", "money", "I", false)
  | 21 => ("WakeBanksModel$Sea", "mended", "I", false)
  | _ => ("WakeBanksModel$Sea", "cycles", "I", false)
def tyX10 : Nat → FieldType := fun k => match k with
  | 0 => .array (.array .int)
  | 1 => .array (.array .int)
  | 2 => .array (.array .int)
  | 3 => .array (.array .int)
  | 4 => .array .int
  | 5 => .array .int
  | 6 => .array .int
  | 7 => .int
  | 8 => .int
  | 9 => .int
  | 10 => .int
  | 11 => .int
  | 12 => .int
  | 13 => .int
  | 14 => .int
  | 15 => .int
  | 16 => .int
  | 17 => .int
  | 18 => .int
  | 19 => .int
  | 20 => .int
  | 21 => .int
  | _ => .int
abbrev wsX100 : List Cond := u_ws RX10 TX10 23
theorem nmX10 : ∀ a, a < 23 → ∀ b, b < 23 → a ≠ b → (TX10 a).2.1 ≠ (TX10 b).2.1 := by decide +kernel
theorem tyX10_ok : ∀ k, k < 23 → parseFieldDescriptor (TX10 k).2.2.1 = some (tyX10 k) := by decide +kernel
abbrev cX10_init : ByteArray := prog_13_method_1_code
def yX10_init : MethodName := ⟨RX10, "<init>", "()V"⟩
abbrev cX10_copy : ByteArray := prog_13_method_2_code
def yX10_copy : MethodName := ⟨RX10, "copy", "()LWakeBanksModel$Sea;"⟩
abbrev cX10_deficit : ByteArray := prog_13_method_3_code
def yX10_deficit : MethodName := ⟨RX10, "deficit", "(IIIIII)I"⟩
abbrev cX10_wake : ByteArray := prog_13_method_4_code
def yX10_wake : MethodName := ⟨RX10, "wake", "(II)I"⟩
abbrev cX10_deficit_ : ByteArray := prog_13_method_5_code
def yX10_deficit_ : MethodName := ⟨RX10, "deficit", "(I)I"⟩
abbrev cX10_hour : ByteArray := prog_13_method_6_code
def yX10_hour : MethodName := ⟨RX10, "hour", "()I"⟩
abbrev cX10_turn : ByteArray := prog_13_method_7_code
def yX10_turn : MethodName := ⟨RX10, "turn", "([I)V"⟩
abbrev cX10_stop : ByteArray := prog_13_method_8_code
def yX10_stop : MethodName := ⟨RX10, "stop", "([II)V"⟩
abbrev cX10_start : ByteArray := prog_13_method_9_code
def yX10_start : MethodName := ⟨RX10, "start", "([I)V"⟩
abbrev cX10_make : ByteArray := prog_13_method_10_code
def yX10_make : MethodName := ⟨RX10, "make", "([II)I"⟩
abbrev cX10_isOn : ByteArray := prog_13_method_11_code
def yX10_isOn : MethodName := ⟨RX10, "isOn", "(II)Z"⟩
abbrev cX10_fit : ByteArray := prog_13_method_12_code
def yX10_fit : MethodName := ⟨RX10, "fit", "(III)I"⟩
abbrev cX10_give : ByteArray := prog_13_method_13_code
def yX10_give : MethodName := ⟨RX10, "give", "(III)I"⟩
abbrev cX10_wear : ByteArray := prog_13_method_14_code
def yX10_wear : MethodName := ⟨RX10, "wear", "(I[I)V"⟩
abbrev cX10_wears : ByteArray := prog_13_method_15_code
def yX10_wears : MethodName := ⟨RX10, "wears", "([III)V"⟩
abbrev cX10_load : ByteArray := prog_13_method_16_code
def yX10_load : MethodName := ⟨RX10, "load", "([I[I)I"⟩
abbrev cX10_rows : ByteArray := prog_13_method_17_code
def yX10_rows : MethodName := ⟨RX10, "rows", "([I)I"⟩
abbrev cX10_work : ByteArray := prog_13_method_18_code
def yX10_work : MethodName := ⟨RX10, "work", "([I)V"⟩
abbrev cX10_run : ByteArray := prog_13_method_19_code
def yX10_run : MethodName := ⟨RX10, "run", "(I)I"⟩
abbrev cX10_toCome : ByteArray := prog_13_method_20_code
def yX10_toCome : MethodName := ⟨RX10, "toCome", "()I"⟩
def RX11 : String := "WakeBanksModel"
def TX11 : u_T := fun k => match k with
  | 0 => ("WakeBanksModel", "thrown", "I", false)
  | _ => ("WakeBanksModel", "sea", "LWakeBanksModel$Sea;", true)
def tyX11 : Nat → FieldType := fun k => match k with
  | 0 => .int
  | _ => .object "WakeBanksModel$Sea"
abbrev wsX110 : List Cond := u_ws RX11 TX11 2
theorem nmX11 : ∀ a, a < 2 → ∀ b, b < 2 → a ≠ b → (TX11 a).2.1 ≠ (TX11 b).2.1 := by decide +kernel
theorem tyX11_ok : ∀ k, k < 2 → parseFieldDescriptor (TX11 k).2.2.1 = some (tyX11 k) := by decide +kernel
abbrev cX11_init : ByteArray := prog_12_method_1_code
def yX11_init : MethodName := ⟨RX11, "<init>", "()V"⟩
abbrev cX11_thrown : ByteArray := prog_12_method_2_code
def yX11_thrown : MethodName := ⟨RX11, "thrown", "()I"⟩
abbrev cX11_no : ByteArray := prog_12_method_3_code
def yX11_no : MethodName := ⟨RX11, "no", "(I)I"⟩
abbrev cX11_in : ByteArray := prog_12_method_4_code
def yX11_in : MethodName := ⟨RX11, "in", "(III)Z"⟩
abbrev cX11_power : ByteArray := prog_12_method_5_code
def yX11_power : MethodName := ⟨RX11, "power", "(I)I"⟩
abbrev cX11_along : ByteArray := prog_12_method_6_code
def yX11_along : MethodName := ⟨RX11, "along", "(IZ)I"⟩
abbrev cX11_isTurbine : ByteArray := prog_12_method_7_code
def yX11_isTurbine : MethodName := ⟨RX11, "isTurbine", "(I)Z"⟩
abbrev cX11_isVessel : ByteArray := prog_12_method_8_code
def yX11_isVessel : MethodName := ⟨RX11, "isVessel", "(I)Z"⟩
abbrev cX11_isTaken : ByteArray := prog_12_method_9_code
def yX11_isTaken : MethodName := ⟨RX11, "isTaken", "(II)Z"⟩
abbrev cX11_string : ByteArray := prog_12_method_10_code
def yX11_string : MethodName := ⟨RX11, "string", "(I)I"⟩
abbrev cX11_turbine : ByteArray := prog_12_method_11_code
def yX11_turbine : MethodName := ⟨RX11, "turbine", "(III)I"⟩
abbrev cX11_vessel : ByteArray := prog_12_method_12_code
def yX11_vessel : MethodName := ⟨RX11, "vessel", "(I)I"⟩
abbrev cX11_nominate : ByteArray := prog_12_method_13_code
def yX11_nominate : MethodName := ⟨RX11, "nominate", "(II)I"⟩
abbrev cX11_blow : ByteArray := prog_12_method_14_code
def yX11_blow : MethodName := ⟨RX11, "blow", "(IIIIII)I"⟩
abbrev cX11_turn : ByteArray := prog_12_method_15_code
def yX11_turn : MethodName := ⟨RX11, "turn", "(II)I"⟩
abbrev cX11_call : ByteArray := prog_12_method_16_code
def yX11_call : MethodName := ⟨RX11, "call", "(IZ)I"⟩
abbrev cX11_floor : ByteArray := prog_12_method_17_code
def yX11_floor : MethodName := ⟨RX11, "floor", "(I)I"⟩
abbrev cX11_sail : ByteArray := prog_12_method_18_code
def yX11_sail : MethodName := ⟨RX11, "sail", "(II)I"⟩
abbrev cX11_lock : ByteArray := prog_12_method_19_code
def yX11_lock : MethodName := ⟨RX11, "lock", "(IZ)I"⟩
abbrev cX11_climb : ByteArray := prog_12_method_20_code
def yX11_climb : MethodName := ⟨RX11, "climb", "(II)I"⟩
abbrev cX11_down : ByteArray := prog_12_method_21_code
def yX11_down : MethodName := ⟨RX11, "down", "(I)I"⟩
abbrev cX11_turbineNow : ByteArray := prog_12_method_22_code
def yX11_turbineNow : MethodName := ⟨RX11, "turbineNow", "(II)I"⟩
abbrev cX11_ofTurbine : ByteArray := prog_12_method_23_code
def yX11_ofTurbine : MethodName := ⟨RX11, "ofTurbine", "(II)I"⟩
abbrev cX11_wear : ByteArray := prog_12_method_24_code
def yX11_wear : MethodName := ⟨RX11, "wear", "(II)I"⟩
abbrev cX11_lost : ByteArray := prog_12_method_25_code
def yX11_lost : MethodName := ⟨RX11, "lost", "(II)I"⟩
abbrev cX11_wake : ByteArray := prog_12_method_26_code
def yX11_wake : MethodName := ⟨RX11, "wake", "(II)I"⟩
abbrev cX11_extreme : ByteArray := prog_12_method_27_code
def yX11_extreme : MethodName := ⟨RX11, "extreme", "(II)I"⟩
abbrev cX11_stringNow : ByteArray := prog_12_method_28_code
def yX11_stringNow : MethodName := ⟨RX11, "stringNow", "(II)I"⟩
abbrev cX11_ofString : ByteArray := prog_12_method_29_code
def yX11_ofString : MethodName := ⟨RX11, "ofString", "(II)I"⟩
abbrev cX11_ofVessel : ByteArray := prog_12_method_30_code
def yX11_ofVessel : MethodName := ⟨RX11, "ofVessel", "(II)I"⟩
abbrev cX11_inState : ByteArray := prog_12_method_31_code
def yX11_inState : MethodName := ⟨RX11, "inState", "(I)I"⟩
abbrev cX11_manyNow : ByteArray := prog_12_method_32_code
def yX11_manyNow : MethodName := ⟨RX11, "manyNow", "(I)I"⟩
abbrev cX11_many : ByteArray := prog_12_method_33_code
def yX11_many : MethodName := ⟨RX11, "many", "(I)I"⟩
abbrev cX11_meanDelivered : ByteArray := prog_12_method_34_code
def yX11_meanDelivered : MethodName := ⟨RX11, "meanDelivered", "()D"⟩
abbrev cX11_wouldDeliver : ByteArray := prog_12_method_35_code
def yX11_wouldDeliver : MethodName := ⟨RX11, "wouldDeliver", "(I)I"⟩
abbrev cX11_bestNow : ByteArray := prog_12_method_36_code
def yX11_bestNow : MethodName := ⟨RX11, "bestNow", "(I)I"⟩
abbrev cX11_bestTurn : ByteArray := prog_12_method_37_code
def yX11_bestTurn : MethodName := ⟨RX11, "bestTurn", "(I)I"⟩
abbrev cX11_wakeAt : ByteArray := prog_12_method_38_code
def yX11_wakeAt : MethodName := ⟨RX11, "wakeAt", "(III)I"⟩
abbrev cX11_bestPlace : ByteArray := prog_12_method_39_code
def yX11_bestPlace : MethodName := ⟨RX11, "bestPlace", "()I"⟩
abbrev cX11_powers : ByteArray := prog_12_method_40_code
def yX11_powers : MethodName := ⟨RX11, "powers", "([II)I"⟩
abbrev cX11_digest : ByteArray := prog_12_method_41_code
def yX11_digest : MethodName := ⟨RX11, "digest", "()J"⟩
def RJ9 : String := "java/lang/Math"
def TJ9 : u_T := fun k => match k with
  | _ => ("", "", "", false)
def tyJ9 : Nat → FieldType := fun k => match k with
  | _ => .int
abbrev wsJ90 : List Cond := u_ws RJ9 TJ9 0
theorem nmJ9 : ∀ a, a < 0 → ∀ b, b < 0 → a ≠ b → (TJ9 a).2.1 ≠ (TJ9 b).2.1 := by decide +kernel
theorem tyJ9_ok : ∀ k, k < 0 → parseFieldDescriptor (TJ9 k).2.2.1 = some (tyJ9 k) := by decide +kernel
abbrev cJ9_abs_0f7a4 : ByteArray := prog_18_method_59_code
def yJ9_abs_0f7a4 : MethodName := ⟨RJ9, "abs", "(I)I"⟩
abbrev cJ9_max_7cf53 : ByteArray := prog_18_method_65_code
def yJ9_max_7cf53 : MethodName := ⟨RJ9, "max", "(II)I"⟩
abbrev cJ9_min_7cf53 : ByteArray := prog_18_method_69_code
def yJ9_min_7cf53 : MethodName := ⟨RJ9, "min", "(II)I"⟩
def RJ0 : String := "java/lang/String"
def TJ0 : u_T := fun k => match k with
  | _ => ("", "", "", false)
def tyJ0 : Nat → FieldType := fun k => match k with
  | _ => .int
abbrev wsJ00 : List Cond := u_ws RJ0 TJ0 0
theorem nmJ0 : ∀ a, a < 0 → ∀ b, b < 0 → a ≠ b → (TJ0 a).2.1 ≠ (TJ0 b).2.1 := by decide +kernel
theorem tyJ0_ok : ∀ k, k < 0 → parseFieldDescriptor (TJ0 k).2.2.1 = some (tyJ0 k) := by decide +kernel
def RJ10 : String := "java/lang/System"
def TJ10 : u_T := fun k => match k with
  | _ => ("", "", "", false)
def tyJ10 : Nat → FieldType := fun k => match k with
  | _ => .int
abbrev wsJ100 : List Cond := u_ws RJ10 TJ10 0
theorem nmJ10 : ∀ a, a < 0 → ∀ b, b < 0 → a ≠ b → (TJ10 a).2.1 ≠ (TJ10 b).2.1 := by decide +kernel
theorem tyJ10_ok : ∀ k, k < 0 → parseFieldDescriptor (TJ10 k).2.2.1 = some (tyJ10 k) := by decide +kernel
def RL : String := "WakeBanksLaw"
abbrev cL_string : ByteArray := method_3_code
def yL_string : MethodName := ⟨RL, "string", "(LWakeBanks;I[J)I"⟩
abbrev cL_turbine : ByteArray := method_4_code
def yL_turbine : MethodName := ⟨RL, "turbine", "(LWakeBanks;III[J)I"⟩
abbrev cL_vessel : ByteArray := method_5_code
def yL_vessel : MethodName := ⟨RL, "vessel", "(LWakeBanks;I[J)I"⟩
abbrev cL_nominate : ByteArray := method_6_code
def yL_nominate : MethodName := ⟨RL, "nominate", "(LWakeBanks;II[J)I"⟩
abbrev cL_blow : ByteArray := method_7_code
def yL_blow : MethodName := ⟨RL, "blow", "(LWakeBanks;IIIIII[J)I"⟩
abbrev cL_turn : ByteArray := method_8_code
def yL_turn : MethodName := ⟨RL, "turn", "(LWakeBanks;II[J)I"⟩
abbrev cL_call : ByteArray := method_9_code
def yL_call : MethodName := ⟨RL, "call", "(LWakeBanks;IZ[J)I"⟩
abbrev cL_floor : ByteArray := method_10_code
def yL_floor : MethodName := ⟨RL, "floor", "(LWakeBanks;I[J)I"⟩
abbrev cL_sail : ByteArray := method_11_code
def yL_sail : MethodName := ⟨RL, "sail", "(LWakeBanks;II[J)I"⟩
abbrev cL_lock : ByteArray := method_12_code
def yL_lock : MethodName := ⟨RL, "lock", "(LWakeBanks;IZ[J)I"⟩
abbrev cL_climb : ByteArray := method_13_code
def yL_climb : MethodName := ⟨RL, "climb", "(LWakeBanks;II[J)I"⟩
abbrev cL_down : ByteArray := method_14_code
def yL_down : MethodName := ⟨RL, "down", "(LWakeBanks;I[J)I"⟩
abbrev cL_ofTurbine : ByteArray := method_15_code
def yL_ofTurbine : MethodName := ⟨RL, "ofTurbine", "(LWakeBanks;II[J)I"⟩
abbrev cL_wear : ByteArray := method_16_code
def yL_wear : MethodName := ⟨RL, "wear", "(LWakeBanks;II[J)I"⟩
abbrev cL_lost : ByteArray := method_17_code
def yL_lost : MethodName := ⟨RL, "lost", "(LWakeBanks;II[J)I"⟩
abbrev cL_wake : ByteArray := method_18_code
def yL_wake : MethodName := ⟨RL, "wake", "(LWakeBanks;II[J)I"⟩
abbrev cL_extreme : ByteArray := method_19_code
def yL_extreme : MethodName := ⟨RL, "extreme", "(LWakeBanks;II[J)I"⟩
abbrev cL_ofString : ByteArray := method_20_code
def yL_ofString : MethodName := ⟨RL, "ofString", "(LWakeBanks;II[J)I"⟩
abbrev cL_ofVessel : ByteArray := method_21_code
def yL_ofVessel : MethodName := ⟨RL, "ofVessel", "(LWakeBanks;II[J)I"⟩
abbrev cL_many : ByteArray := method_22_code
def yL_many : MethodName := ⟨RL, "many", "(LWakeBanks;I[J)I"⟩
abbrev cL_wouldDeliver : ByteArray := method_23_code
def yL_wouldDeliver : MethodName := ⟨RL, "wouldDeliver", "(LWakeBanks;I[J)I"⟩
abbrev cL_bestTurn : ByteArray := method_24_code
def yL_bestTurn : MethodName := ⟨RL, "bestTurn", "(LWakeBanks;I[J)I"⟩
abbrev cL_law : ByteArray := code
def yL_law : MethodName := ⟨RL, "law", "([I)Z"⟩
end
section
/-! ===== the regions of memory: by program ===== -/
abbrev zcl : List vw_C := [(RX0, TX0, 3), (RX1, TX1, 4), (RX2, TX2, 5), (RX3, TX3, 11), (RX4, TX4, 2), (RX5, TX5, 14), (RX6, TX6, 6), (RX8, TX8, 5), (RX9, TX9, 3), (RX10, TX10, 23), (RX11, TX11, 2)]
def zty (j : Nat) : FieldType := match j with
  | 0 => .int
  | 1 => .object "WakeBanks$Turbine"
  | 2 => .object "WakeBanks$Cable"
  | 3 => .object "WakeBanks$Vessel"
  | _ => .array .int
def zTn : Nat := 5
def zKn : Nat := 14
/-- of a type and a kind: how many, and what: an object, an int array, an array of references -/
def zsh (ty k : Nat) : Nat × ((Nat × Nat) ⊕ (Nat ⊕ (Nat × Nat))) := match ty, k with
  | 0, 0 => (1, .inl (3, 11))
  | 0, 1 => (1, .inr (.inr (8, 1)))
  | 0, 2 => (1, .inr (.inr (3, 2)))
  | 0, 3 => (1, .inr (.inr (3, 3)))
  | 0, 4 => (1, .inl (7, 5))
  | 0, 5 => (1, .inl (2, 5))
  | 0, 6 => (1, .inr (.inl 24))
  | 0, 7 => (8, .inl (5, 14))
  | 0, 8 => (8, .inr (.inl 3))
  | 0, 9 => (8, .inr (.inl 8))
  | 0, 10 => (8, .inl (1, 4))
  | 0, 11 => (8, .inr (.inl 30))
  | 0, 12 => (3, .inl (0, 3))
  | 0, 13 => (3, .inl (6, 6))
  | 1, 0 => (1, .inl (4, 2))
  | 1, 1 => (1, .inr (.inl 64))
  | 1, 2 => (1, .inr (.inl 64))
  | 2, 0 => (1, .inl (8, 3))
  | 3, 0 => (1, .inl (9, 23))
  | 3, 1 => (1, .inr (.inr (8, 4)))
  | 3, 2 => (1, .inr (.inr (8, 4)))
  | 3, 3 => (1, .inr (.inr (3, 4)))
  | 3, 4 => (1, .inr (.inr (3, 4)))
  | 3, 5 => (1, .inr (.inl 32))
  | 3, 6 => (1, .inr (.inl 32))
  | 3, 7 => (1, .inr (.inl 8))
  | 3, 8 => (8, .inr (.inl 23))
  | 3, 9 => (8, .inr (.inl 30))
  | 3, 10 => (3, .inr (.inl 3))
  | 3, 11 => (3, .inr (.inl 6))
  | 4, 0 => (1, .inl (10, 2))
  | 5, 0 => (1, .inr (.inl 1))
  | _, _ => (0, .inr (.inl 0))
/-- where a slot refers to: the link (0: the same region), the kind, the place -/
def zrs (ty k i o : Nat) : Option (Nat × Nat × Nat) := match ty, k, o with
  | 0, 0, 0 => some (0, 1, 0)
  | 0, 0, 1 => some (0, 2, 0)
  | 0, 0, 2 => some (0, 3, 0)
  | 0, 0, 3 => some (0, 4, 0)
  | 0, 0, 4 => some (0, 5, 0)
  | 0, 1, j => some (0, 7, j)
  | 0, 2, j => some (0, 12, j)
  | 0, 3, j => some (0, 13, j)
  | 0, 5, 0 => some (0, 6, 0)
  | 0, 7, 11 => some (0, 8, i)
  | 0, 7, 12 => some (0, 9, i)
  | 0, 7, 13 => some (0, 10, i)
  | 0, 10, 0 => some (0, 11, i)
  | 1, 0, 0 => some (0, 1, 0)
  | 1, 0, 1 => some (0, 2, 0)
  | 2, 0, 0 => some (1, 0, 0)
  | 2, 0, 1 => some (2, 0, 0)
  | 2, 0, 2 => some (3, 0, 0)
  | 3, 0, 0 => some (0, 1, 0)
  | 3, 0, 1 => some (0, 2, 0)
  | 3, 0, 2 => some (0, 3, 0)
  | 3, 0, 3 => some (0, 4, 0)
  | 3, 0, 4 => some (0, 5, 0)
  | 3, 0, 5 => some (0, 6, 0)
  | 3, 0, 6 => some (0, 7, 0)
  | 3, 1, j => some (0, 8, j)
  | 3, 2, j => some (0, 9, j)
  | 3, 3, j => some (0, 10, j)
  | 3, 4, j => some (0, 11, j)
  | 4, 0, 1 => some (1, 0, 0)
  | _, _, _ => none
/-- a slot that holds a boolean -/
def zbo (ty k o : Nat) : Bool := match ty, k, o with
  | 0, 13, 2 => true
  | _, _, _ => false
/-- the arrays of constants -/
def zk0 : List Int32 := [0, -1, -1, -1, 0, 1, 1, 1]
def zst0 : String × String × List Int32 := ("WakeBanks", "WIND_P", zk0)
def zk1 : List Int32 := [-1, -1, 0, 1, 1, 1, 0, -1]
def zst1 : String × String × List Int32 := ("WakeBanks", "WIND_Q", zk1)
def zk2 : List Int32 := [150, 120, 200]
def zst2 : String × String × List Int32 := ("WakeBanks", "WEAR_LIMITS", zk2)
def zk3 : List Int32 := [4, 2, 6]
def zst3 : String × String × List Int32 := ("WakeBanks", "WORK_HOURS", zk3)
def zk4 : List Int32 := [0, -1, 1, -2, 2]
def zst4 : String × String × List Int32 := ("WakeBanks", "TURNS", zk4)
def zst : List (String × String × List Int32) := [zst0, zst1, zst2, zst3, zst4]
/-- the texts -/
def zstr : List (String × Nat × String) := [("WakeBanks", 116, "a TURN is -2 to 2"), ("WakeBanks", 134, "FAULTED, LOCKED, or so already"), ("WakeBanks", 142, "a FLOOR is -51 to 50"), ("WakeBanks", 163, "its crew is on a TURBINE, or another VESSEL is there"), ("WakeBanks", 172, "in PORT, or the crew is on the TURBINE"), ("WakeBanks", 180, "STARTING, LOCKED, or not LOCKED by this VESSEL"), ("WakeBanks", 200, "its crew is on no TURBINE, or the WAVE is too high"), ("WakeBanks", 232, "of a TURBINE 0 to 9 is asked"), ("WakeBanks", 240, "no such CAUSE"), ("WakeBanks", 250, "no such EXTREME"), ("WakeBanks", 272, "of a STRING 0 to 3 is asked"), ("WakeBanks", 283, "of a VESSEL 0 to 4 is asked"), ("WakeBanks", 306, "0 to 13 is asked"), ("WakeBanks", 308, "HOURS are 1 to 24"), ("WakeBanks", 32, "a RATING is 100 to 9999"), ("WakeBanks", 362, "no such TURBINE"), ("WakeBanks", 364, "no such STRING"), ("WakeBanks", 366, "no such VESSEL"), ("WakeBanks", 368, "no such PART"), ("WakeBanks", 43, "there are 3 STRINGS"), ("WakeBanks", 54, "x and y are 0 to 19"), ("WakeBanks", 63, "there are 8 TURBINES, or one is there"), ("WakeBanks", 69, "a LIMIT of WAVES is 5 to 40"), ("WakeBanks", 74, "there are 3 VESSELS"), ("WakeBanks", 82, "the next 24 HOURS, 0 to 20000"), ("WakeBanks", 98, "no such HOURS")]
/-- words of the tables that are carried along -/
def zNws : List Cond := [.fieldLinkNest "WakeBanks$Turbine" 95 "WakeBanks" "WEAR_LIMITS" "[I" "WakeBanks", .fieldLinkNest "WakeBanks$Vessel" 31 "WakeBanks" "WORK_HOURS" "[I" "WakeBanks", .fieldLinkNest "WakeBanks$Wakes" 13 "WakeBanks" "WIND_Q" "[I" "WakeBanks", .fieldLinkNest "WakeBanks$Wakes" 9 "WakeBanks" "WIND_P" "[I" "WakeBanks", .methodLinkNest "WakeBanks" 21 ⟨"WakeBanks$Siting", "<init>", "()V"⟩ "WakeBanks", .methodLinkNest "WakeBanks$Sea" 31 ⟨"WakeBanks$Weather", "<init>", "()V"⟩ "WakeBanks", .methodLinkNest "WakeBanks$Sea" 47 ⟨"WakeBanks$Turbine", "<init>", "()V"⟩ "WakeBanks", .methodLinkNest "WakeBanks$Sea" 48 ⟨"WakeBanks$Cable", "<init>", "()V"⟩ "WakeBanks", .methodLinkNest "WakeBanks$Sea" 49 ⟨"WakeBanks$Vessel", "<init>", "()V"⟩ "WakeBanks", .methodLinkNest "WakeBanks$Turbine" 33 ⟨"WakeBanks$Extremes", "<init>", "()V"⟩ "WakeBanks", .methodLinkNest "WakeBanksModel" 103 ⟨"WakeBanksModel$Sea", "stop", "([II)V"⟩ "WakeBanksModel", .methodLinkNest "WakeBanksModel" 9 ⟨"WakeBanksModel$Sea", "<init>", "()V"⟩ "WakeBanksModel", .methodLinkNest "WakeBanksModel" 99 ⟨"WakeBanksModel$Sea", "start", "([I)V"⟩ "WakeBanksModel", .methodLinkNest "WakeBanksModel$Sea" 133 ⟨"WakeBanksModel", "power", "(I)I"⟩ "WakeBanksModel", .methodLinkNest "WakeBanksModel$Sea" 91 ⟨"WakeBanksModel", "along", "(IZ)I"⟩ "WakeBanksModel", .methodLinkNest "WakeBanksModel$Sea" 95 ⟨"WakeBanksModel", "in", "(III)Z"⟩ "WakeBanksModel", .castable "java/lang/IllegalArgumentException" "java/lang/IllegalArgumentException", .castable "java/lang/IllegalStateException" "java/lang/IllegalStateException", .castable "java/lang/IndexOutOfBoundsException" "java/lang/IndexOutOfBoundsException", .declares ⟨"java/lang/Exception", "<init>", "()V"⟩, .declares ⟨"java/lang/Exception", "<init>", "(Ljava/lang/String;)V"⟩, .declares ⟨"java/lang/RuntimeException", "<init>", "()V"⟩, .declares ⟨"java/lang/RuntimeException", "<init>", "(Ljava/lang/String;)V"⟩, .declares ⟨"java/lang/Throwable", "<init>", "()V"⟩, .declares ⟨"java/lang/Throwable", "<init>", "(Ljava/lang/String;)V"⟩]
def zkw : Cond → Bool
  | .castable .. => true
  | .declares .. => true
  | .fieldLinkNest .. => true
  | .methodLinkNest .. => true
  | _ => false
theorem zNws_ok : zNws.all zkw = true := by decide +kernel
def zTg : List Cond := lw_tbl.filter goodWord
end
section
/-! ===== Z: a method as a function on regions of memory =====
A region is a graph of objects whose references never change: a memory 'kind, place, slot' of ints. zZ says: from here the method comes to the outcome that the value φ names. -/
abbrev zR : Type := Nat × Nat × Nat
abbrev zV : Type := zR ⊕ (Int32 ⊕ Int64)
abbrev zM : Type := Nat → Nat → Nat → Int32
abbrev zD : Type := Nat × List Nat
abbrev zO : Type := (Option zV ⊕ String) × List zM
def zr (r k i : Nat) : zV := .inl (r, k, i)
def zi (x : Int32) : zV := .inr (.inl x)
def zl (x : Int64) : zV := .inr (.inr x)
def zm0 : zM := fun _ _ _ => 0
def zu (σ : zM) (k i o : Nat) (x : Int32) : zM := fun k' i' o' => if k' = k ∧ i' = i ∧ o' = o then x else σ k' i' o'
/-- a row of memory in place of what was -/
def zur (σ : zM) (k i : Nat) (f : Nat → Int32) : zM := fun k' i' => if k' = k ∧ i' = i then f else σ k' i'
def zt (ad : zR → Nat) : zV → Value
  | .inl q => .ref (ad q)
  | .inr (.inl x) => .int x
  | .inr (.inr x) => .long x
def zcat : zV → Nat
  | .inl _ => 1
  | .inr (.inl _) => 1
  | .inr (.inr _) => 2
theorem zcat_t (ad : zR → Nat) (v : zV) : (zt ad v).category = zcat v := by
  rcases v with q | x | x <;> rfl
def zcs (st : List zV) : Nat := (st.map zcat).sum
theorem zcs_t (ad : zR → Nat) (st : List zV) : ((st.map (zt ad)).map fun v => v.category).sum = zcs st := by
  rw [List.map_map]
  unfold zcs
  congr 1
  exact List.map_congr_left fun v _ => zcat_t ad v
theorem zu_row {σ : zM} {k i o k' i' : Nat} {x : Int32} (h : ¬ (k' = k ∧ i' = i)) : zu σ k i o x k' i' = σ k' i' := by
  funext o'
  unfold zu
  rw [if_neg (fun q => h ⟨q.1, q.2.1⟩)]
theorem zu_here (σ : zM) (k i o : Nat) (x : Int32) : zu σ k i o x k i = upd (σ k i) o x := by
  funext o'
  unfold zu upd
  by_cases h : o' = o
  · rw [if_pos ⟨rfl, rfl, h⟩, if_pos h]
  · rw [if_neg (fun q => h q.2.2), if_neg h]
theorem zur_row {σ : zM} {k i k' i' : Nat} {f : Nat → Int32} (h : ¬ (k' = k ∧ i' = i)) : zur σ k i f k' i' = σ k' i' := by
  unfold zur
  rw [if_neg h]
theorem zur_here (σ : zM) (k i : Nat) (f : Nat → Int32) : zur σ k i f k i = f := by
  unfold zur
  rw [if_pos ⟨rfl, rfl⟩]
/-! cells and worlds -/
def zrf (ad : zR → Nat) (r : Nat) (lk : List Nat) (ty k i o : Nat) : Option Nat := (zrs ty k i o).map fun q => ad ((if q.1 = 0 then r else lk.getD (q.1 - 1) r), q.2.1, q.2.2)
def zsv (ad : zR → Nat) (r : Nat) (lk : List Nat) (ty k i : Nat) (f : Nat → Int32) (o : Nat) : Value := match zrf ad r lk ty k i o with
  | some a => .ref a
  | none => .int (if zbo ty k o = true then f o &&& 1 else f o)
def zce (cA : Nat → ClassId) (ad : zR → Nat) (r : Nat) (lk : List Nat) (ty k i : Nat) (f : Nat → Int32) : va_E := match (zsh ty k).2 with
  | .inl (ci, n) => .inr (ci, (List.range n).map (zsv ad r lk ty k i f))
  | .inr (.inl n) => .inl (cA 0, n, .inl f)
  | .inr (.inr (n, ca)) => .inl (cA ca, n, .inr (.inr (.inr (.inr (zrf ad r lk ty k i)))))
def zty' (Rg : List zD) (r : Nat) : Nat := (Rg.getD r (0, [])).1
def zlk (Rg : List zD) (r : Nat) : List Nat := (Rg.getD r (0, [])).2
def zcq (cA : Nat → ClassId) (ad : zR → Nat) (Rg : List zD) (Ms : List zM) (q : zR) : va_E := zce cA ad q.1 (zlk Rg q.1) (zty' Rg q.1) q.2.1 q.2.2 (Ms.getD q.1 zm0 q.2.1 q.2.2)
def zin (Rg : List zD) (q : zR) : Prop := q.1 < Rg.length ∧ q.2.1 < zKn ∧ q.2.2 < (zsh (zty' Rg q.1) q.2.1).1
def zids (Rg : List zD) : List zR := (List.range Rg.length).flatMap fun r => (List.range zKn).flatMap fun k => (List.range (zsh (zty' Rg r) k).1).map fun i => (r, k, i)
theorem zids_iff {Rg : List zD} {q : zR} : q ∈ zids Rg ↔ zin Rg q := by
  unfold zids zin
  simp only [List.mem_flatMap, List.mem_range, List.mem_map]
  constructor
  · rintro ⟨r, h1, k, h2, i, h3, rfl⟩
    exact ⟨h1, h2, h3⟩
  · rintro ⟨h1, h2, h3⟩
    exact ⟨q.1, h1, q.2.1, h2, q.2.2, h3, rfl⟩
def zwl (cA : Nat → ClassId) (ad : zR → Nat) (Rg : List zD) (Ms : List zM) : va_W := (zids Rg).map fun q => (ad q, zcq cA ad Rg Ms q)
theorem zw_get {cA : Nat → ClassId} {ad : zR → Nat} {Rg : List zD} {Ms : List zM} {q : zR} (h : zin Rg q) : ∃ j : Nat, (zwl cA ad Rg Ms)[j]? = some (ad q, zcq cA ad Rg Ms q) := by
  obtain ⟨j, hj⟩ := List.getElem?_of_mem (zids_iff.mpr h)
  exact ⟨j, by unfold zwl; rw [List.getElem?_map, hj]; rfl⟩
theorem zw_of {cA : Nat → ClassId} {ad : zR → Nat} {Rg : List zD} {Ms : List zM} {j : Nat} {x : Nat × va_E} (h : (zwl cA ad Rg Ms)[j]? = some x) : ∃ q, (zids Rg)[j]? = some q ∧ zin Rg q ∧ x = (ad q, zcq cA ad Rg Ms q) := by
  unfold zwl at h
  rw [List.getElem?_map] at h
  cases hq : (zids Rg)[j]? with
  | none => rw [hq] at h; cases h
  | some q =>
    rw [hq] at h
    exact ⟨q, rfl, zids_iff.mp (List.mem_of_getElem? hq), (Option.some.inj h).symm⟩
/-- the addresses are apart: two places of one address are one -/
theorem zw_inj {A : Nat → Prop} {cA : Nat → ClassId} {ad : zR → Nat} {Rg : List zD} {Ms : List zM} (hD : va_D A (zwl cA ad Rg Ms)) {q q' : zR} (h : zin Rg q) (h' : zin Rg q') (e : ad q = ad q') : q = q' := by
  obtain ⟨j, hj⟩ := List.getElem?_of_mem (zids_iff.mpr h)
  obtain ⟨j', hj'⟩ := List.getElem?_of_mem (zids_iff.mpr h')
  have e1 : (zwl cA ad Rg Ms)[j]? = some (ad q, zcq cA ad Rg Ms q) := by unfold zwl; rw [List.getElem?_map, hj]; rfl
  have e2 : (zwl cA ad Rg Ms)[j']? = some (ad q', zcq cA ad Rg Ms q') := by unfold zwl; rw [List.getElem?_map, hj']; rfl
  have := hD.1 j j' _ _ e1 e2 e
  subst this
  exact Option.some.inj (hj.symm.trans hj')
theorem zw_set {A : Nat → Prop} {cA : Nat → ClassId} {ad : zR → Nat} {Rg : List zD} {Ms Ms' : List zM} (hD : va_D A (zwl cA ad Rg Ms)) {j : Nat} {q : zR} {e : va_E} (hq : zin Rg q) (hj : (zwl cA ad Rg Ms)[j]? = some (ad q, zcq cA ad Rg Ms q)) (he : zcq cA ad Rg Ms' q = e) (hn : ∀ q', zin Rg q' → q' ≠ q → zcq cA ad Rg Ms' q' = zcq cA ad Rg Ms q') : (zwl cA ad Rg Ms).set j (ad q, e) = zwl cA ad Rg Ms' := by
  have hl := (List.getElem?_eq_some_iff.mp hj).1
  refine List.ext_getElem? fun i => ?_
  by_cases hi : i = j
  · subst hi
    rw [List.getElem?_set_self hl]
    obtain ⟨q0, h1, h2, h3⟩ := zw_of hj
    have : q0 = q := zw_inj hD h2 hq (congrArg Prod.fst h3).symm
    subst this
    unfold zwl
    rw [List.getElem?_map, h1, ← he]
    rfl
  · rw [List.getElem?_set_ne (Ne.symm hi)]
    cases hx : (zwl cA ad Rg Ms)[i]? with
    | none =>
      unfold zwl at hx ⊢
      rw [List.getElem?_map] at hx ⊢
      cases hz : (zids Rg)[i]? with
      | none => rfl
      | some q0 => rw [hz] at hx; cases hx
    | some x =>
      obtain ⟨q0, h1, h2, h3⟩ := zw_of hx
      have hne : q0 ≠ q := fun z => hi (hD.1 i j _ _ hx hj (by rw [h3, z]))
      unfold zwl
      rw [List.getElem?_map, h1, h3, ← hn q0 h2 hne]
      rfl
theorem zw_D {A : Nat → Prop} {cA : Nat → ClassId} {ad : zR → Nat} {Rg : List zD} {Ms : List zM} (Ms' : List zM) (hD : va_D A (zwl cA ad Rg Ms)) : va_D A (zwl cA ad Rg Ms') := by
  refine ⟨fun i j p q hi hj hpq => ?_, fun k q hk => ?_⟩
  · obtain ⟨q1, a1, a2, a3⟩ := zw_of hi
    obtain ⟨q2, b1, b2, b3⟩ := zw_of hj
    have e1 : (zwl cA ad Rg Ms)[i]? = some (ad q1, zcq cA ad Rg Ms q1) := by unfold zwl; rw [List.getElem?_map, a1]; rfl
    have e2 : (zwl cA ad Rg Ms)[j]? = some (ad q2, zcq cA ad Rg Ms q2) := by unfold zwl; rw [List.getElem?_map, b1]; rfl
    exact hD.1 i j _ _ e1 e2 (by rw [a3, b3] at hpq; exact hpq)
  · obtain ⟨q1, a1, a2, a3⟩ := zw_of hk
    have e1 : (zwl cA ad Rg Ms)[k]? = some (ad q1, zcq cA ad Rg Ms q1) := by unfold zwl; rw [List.getElem?_map, a1]; rfl
    have := hD.2 k _ e1
    rw [a3]
    exact this
/-- one region's memory, at one row, has changed -/
theorem zcq_row {cA : Nat → ClassId} {ad : zR → Nat} {Rg : List zD} {Ms : List zM} {r k i : Nat} {σ σ' : zM} (hm : Ms[r]? = some σ) (hs : ∀ k' i', ¬ (k' = k ∧ i' = i) → σ' k' i' = σ k' i') : ∀ q', q' ≠ (r, k, i) → zcq cA ad Rg (Ms.set r σ') q' = zcq cA ad Rg Ms q' := by
  intro q' hne
  obtain ⟨r', k', i'⟩ := q'
  have hl := (List.getElem?_eq_some_iff.mp hm).1
  unfold zcq
  dsimp only
  by_cases hr : r' = r
  · subst hr
    rw [List.getD_eq_getElem?_getD, List.getD_eq_getElem?_getD, List.getElem?_set_self hl, hm]
    show zce cA ad r' _ _ k' i' (σ' k' i') = zce cA ad r' _ _ k' i' (σ k' i')
    rw [hs k' i' (fun z => hne (by rw [z.1, z.2]))]
  · rw [List.getD_eq_getElem?_getD, List.getD_eq_getElem?_getD, List.getElem?_set_ne (Ne.symm hr)]
theorem zcq_here {cA : Nat → ClassId} {ad : zR → Nat} {Rg : List zD} {Ms : List zM} {r k i : Nat} {σ σ' : zM} (hm : Ms[r]? = some σ) : zcq cA ad Rg (Ms.set r σ') (r, k, i) = zce cA ad r (zlk Rg r) (zty' Rg r) k i (σ' k i) := by
  have hl := (List.getElem?_eq_some_iff.mp hm).1
  unfold zcq
  dsimp only
  rw [List.getD_eq_getElem?_getD, List.getElem?_set_self hl]
  rfl
theorem zcq_at {cA : Nat → ClassId} {ad : zR → Nat} {Rg : List zD} {Ms : List zM} {r k i : Nat} {σ : zM} (hm : Ms[r]? = some σ) : zcq cA ad Rg Ms (r, k, i) = zce cA ad r (zlk Rg r) (zty' Rg r) k i (σ k i) := by
  unfold zcq
  dsimp only
  rw [List.getD_eq_getElem?_getD, hm]
  rfl
/-! locals -/
def zlv (ad : zR → Nat) (nL : Nat) (ls : Array Slot) (L : List (Option zV)) : Prop := ls.size = nL ∧ lv_wf ls ∧ ∀ (k : Nat) (v : zV), L[k]? = some (some v) → ls[k]? = some (.val (zt ad v))
def zll (ad : zR → Nat) (L : List (Option zV)) : List (Nat × Value) := (List.range L.length).filterMap fun k => match L[k]? with
  | some (some v) => some (k, zt ad v)
  | _ => none
theorem zll_mem {ad : zR → Nat} {L : List (Option zV)} {k : Nat} {v : zV} (h : L[k]? = some (some v)) : (k, zt ad v) ∈ zll ad L := by
  unfold zll
  rw [List.mem_filterMap]
  exact ⟨k, List.mem_range.mpr (List.getElem?_eq_some_iff.mp h).1, by rw [h]⟩
theorem zll_of {ad : zR → Nat} {L : List (Option zV)} {q : Nat × Value} (h : q ∈ zll ad L) : ∃ v, L[q.1]? = some (some v) ∧ q.2 = zt ad v := by
  unfold zll at h
  rw [List.mem_filterMap] at h
  obtain ⟨k, -, h2⟩ := h
  split at h2
  · rename_i v hv
    cases h2
    exact ⟨v, hv, rfl⟩
  · cases h2
theorem zlv_has {ad : zR → Nat} {nL : Nat} {ls : Array Slot} {L : List (Option zV)} (h : zlv ad nL ls L) : lv_has ls nL (zll ad L) := by
  refine ⟨h.1, h.2.1, fun q hq => ?_⟩
  obtain ⟨v, h1, h2⟩ := zll_of hq
  rw [h2]
  exact h.2.2 _ _ h1
/-- no long stands just ahead of place i -/
def zsafe (L : List (Option zV)) (i : Nat) : Bool := match i with
  | 0 => true
  | j + 1 => match L[j]? with
    | some (some (.inr (.inr _))) => false
    | _ => true
theorem zlv_set {ad : zR → Nat} {nL : Nat} {ls : Array Slot} {L : List (Option zV)} {i : Nat} {v : zV} (hs : zsafe L i = true) (hc : zcat v = 1) (h : lv_has ls nL ((i, zt ad v) :: (zll ad L).filter (fun q => !(q.1 == i) && !(q.1 + 1 == i && q.2.category == 2)))) : zlv ad nL ls (L.set i (some v)) := by
  refine ⟨h.1, h.2.1, fun k w hk => ?_⟩
  by_cases hki : k = i
  · subst hki
    have hl : k < L.length := by
      rcases Nat.lt_or_ge k L.length with q | q
      · exact q
      · rw [List.getElem?_eq_none (by rw [List.length_set]; exact q)] at hk
        cases hk
    rw [List.getElem?_set_self hl] at hk
    cases hk
    exact h.2.2 _ List.mem_cons_self
  · rw [List.getElem?_set_ne (Ne.symm hki)] at hk
    refine h.2.2 (k, zt ad w) (List.mem_cons_of_mem _ (List.mem_filter.mpr ⟨zll_mem hk, ?_⟩))
    have h1 : (k == i) = false := by simp [hki]
    have h2 : (k + 1 == i && (zt ad w).category == 2) = false := by
      by_cases hk1 : k + 1 = i
      · subst hk1
        unfold zsafe at hs
        dsimp only at hs
        rw [hk] at hs
        rcases w with q | x | x
        · simp [zt, Value.category]
        · simp [zt, Value.category]
        · cases hs
      · simp [hk1]
    dsimp only
    rw [h1, h2]
    rfl
theorem zlv_setl {ad : zR → Nat} {nL : Nat} {ls : Array Slot} {L : List (Option zV)} {i : Nat} {x : Int64} (hs : zsafe L i = true) (h : lv_has ls nL ((i, Value.long x) :: (zll ad L).filter (fun q => !(q.1 == i) && (!(q.1 == i + 1) && !(q.1 + 1 == i && q.2.category == 2))))) : zlv ad nL ls ((L.set i (some (zl x))).set (i + 1) none) := by
  refine ⟨h.1, h.2.1, fun k w hk => ?_⟩
  have hk1 : k ≠ i + 1 := by
    rintro rfl
    rcases Nat.lt_or_ge (i + 1) L.length with q | q
    · rw [List.getElem?_set_self (by rw [List.length_set]; exact q)] at hk
      cases hk
    · rw [List.getElem?_eq_none (by rw [List.length_set, List.length_set]; exact q)] at hk
      cases hk
  rw [List.getElem?_set_ne (Ne.symm hk1)] at hk
  by_cases hki : k = i
  · subst hki
    have hl : k < L.length := by
      rcases Nat.lt_or_ge k L.length with q | q
      · exact q
      · rw [List.getElem?_eq_none (by rw [List.length_set]; exact q)] at hk
        cases hk
    rw [List.getElem?_set_self hl] at hk
    cases hk
    exact h.2.2 _ List.mem_cons_self
  · rw [List.getElem?_set_ne (Ne.symm hki)] at hk
    refine h.2.2 (k, zt ad w) (List.mem_cons_of_mem _ (List.mem_filter.mpr ⟨zll_mem hk, ?_⟩))
    have h1 : (k == i) = false := by simp [hki]
    have h3 : (k == i + 1) = false := by simp [hk1]
    have h2 : (k + 1 == i && (zt ad w).category == 2) = false := by
      by_cases hk1 : k + 1 = i
      · subst hk1
        unfold zsafe at hs
        dsimp only at hs
        rw [hk] at hs
        rcases w with q | x | x
        · simp [zt, Value.category]
        · simp [zt, Value.category]
        · cases hs
      · simp [hk1]
    dsimp only
    rw [h1, h2, h3]
    rfl
/-- what is known of the locals, less of it -/
def zsub (L L' : List (Option zV)) : Prop := ∀ (k : Nat) (v : zV), L'[k]? = some (some v) → L[k]? = some (some v)
theorem zs_z : zsub [] [] := fun _ _ h => h
theorem zs_k {a : Option zV} {L L' : List (Option zV)} (h : zsub L L') : zsub (a :: L) (a :: L') := by
  intro k v hk
  cases k with
  | zero => exact hk
  | succ k => exact h k v hk
theorem zs_n {a : Option zV} {L L' : List (Option zV)} (h : zsub L L') : zsub (a :: L) (none :: L') := by
  intro k v hk
  cases k with
  | zero => cases hk
  | succ k => exact h k v hk
theorem zlv_sub {ad : zR → Nat} {nL : Nat} {ls : Array Slot} {L L' : List (Option zV)} (h : zlv ad nL ls L) (hs : zsub L L') : zlv ad nL ls L' := ⟨h.1, h.2.1, fun k v hk => h.2.2 k v (hs k v hk)⟩
end
section
/-! ===== the judgement ===== -/
abbrev zX : Type := Program × Launch × Env × State × MethodId × Array Value × List Frame × Method × Code × va_G × (Nat → ClassId) × (zR → Nat) × (Nat → Prop)
def ztl (cA : Nat → ClassId) : List (ClassId × FieldType) := (List.range zTn).map fun j => (cA j, zty j)
theorem ztl_at {cA : Nat → ClassId} {j : Nat} (h : j < zTn) : (ztl cA)[j]? = some (cA j, zty j) := by
  unfold ztl
  rw [List.getElem?_map, List.getElem?_range h]
  rfl
/-- what stands around: arrays of constants, texts, words of the tables -/
def zEv (ad : zR → Nat) (A : Nat → Prop) (s : State) (H : Heap) : Prop :=
  (∀ (j : Nat) (q : String × String × List Int32), zst[j]? = some q → va_Z q.1 q.2.1 "[I" (.ref (ad (100 + j, 0, 0))) A s H ∧ va_T .int (ad (100 + j, 0, 0)) q.2.2.length (fun i => .int (q.2.2.getD i 0)) A s H) ∧
  (∀ q ∈ zstr, ∃ a : Nat, vk_R q.1 q.2.1 q.2.2 a s) ∧ (∀ w ∈ zNws, va_Nw w s) ∧
  vx_Zq Bundle.tN "UNASSIGNED_STACK" Bundle.steD A s H ∧ vx_Zq Bundle.tN "SUPPRESSED_SENTINEL" Bundle.listD A s H
theorem zNw_on {w : Cond} (h : zkw w = true) : w.onTables = true := by
  cases w <;> first | rfl | cases h
theorem zNw_warm {w : Cond} (h : zkw w = true) {s U : State} (hW : s.WarmedH U.vm) (hz : va_Nw w s) : va_Nw w U := by
  cases w <;> first | (cases h; done) | exact va_Nw.warmC hW hz | exact va_Nw.warmD hW hz | exact va_Nw.warmF hW hz | exact va_Nw.warmM hW hz
theorem zEv.warm {ad : zR → Nat} {A : Nat → Prop} {s U : State} {H : Heap} (hW : s.WarmedH U.vm) (h : zEv ad A s H) : zEv ad A U H := by
  obtain ⟨h1, h2, h3, h4, h5⟩ := h
  exact ⟨fun j q hq => ⟨va_Z.moved hW.alike (h1 j q hq).1, va_T.moved hW.alike (h1 j q hq).2⟩, fun q hq => (h2 q hq).imp fun a ha => vk_R.warm hW ha, fun w hw => zNw_warm (List.all_eq_true.mp zNws_ok w hw) hW (h3 w hw), vx_Zq.moved hW.alike h4, vx_Zq.moved hW.alike h5⟩
theorem zEv.same {ad : zR → Nat} {A : Nat → Prop} {s U : State} {H : Heap} (hv : U.vm = s.vm) (h : zEv ad A s H) : zEv ad A U H := by
  obtain ⟨h1, h2, h3, h4, h5⟩ := h
  have hal : s.vm.Alike U.vm := by rw [hv]; exact Vm.Alike.refl _
  exact ⟨fun j q hq => ⟨va_Z.moved hal (h1 j q hq).1, va_T.moved hal (h1 j q hq).2⟩, fun q hq => (h2 q hq).imp fun a ha => vk_R.same hv ha, fun w hw => va_Nw.same (zNw_on (List.all_eq_true.mp zNws_ok w hw)) hv.symm (h3 w hw), vx_Zq.moved hal h4, vx_Zq.moved hal h5⟩
theorem zEv.kept {ad : zR → Nat} {A : Nat → Prop} {s : State} {H H1 : Heap} (h : zEv ad A s H) (hq : ∀ a : Nat, a < H.size → ¬ A a → H1[a]? = H[a]?) : zEv ad A s H1 := by
  obtain ⟨h1, h2, h3, h4, h5⟩ := h
  exact ⟨fun j q hj => ⟨(h1 j q hj).1.kept hq, (h1 j q hj).2.kept hq⟩, h2, h3, h4.kept hq, h5.kept hq⟩
theorem zEv.narrow {ad ad' : zR → Nat} {A B : Nat → Prop} {s : State} {H : Heap} (h : zEv ad A s H) (hAB : ∀ q, B q → A q) (had : ∀ j, ad' (100 + j, 0, 0) = ad (100 + j, 0, 0)) : zEv ad' B s H := by
  obtain ⟨h1, h2, h3, h4, h5⟩ := h
  exact ⟨fun j q hj => by rw [had]; exact ⟨(h1 j q hj).1.narrow hAB, (h1 j q hj).2.narrow hAB⟩, h2, h3, h4.narrow hAB, h5.narrow hAB⟩
/-- a frame of a method of the class own: its code, the machine's, the tables', the classes that are known -/
def zFr (X : zX) (cc : ByteArray) (nL : Nat) (own : String) (ret : Option FieldType) : Prop := match X with
  | (p, l, e, s, m, args, below, meth, c, D, cA, ad, A) => p.tables.exec = Jvm.exec ∧ c.code = cc ∧ c.maxLocals = nL ∧ s.vm.findClass own = some m.cls ∧ (∀ w ∈ zTg, w.before args s = true) ∧ meth.locks = false ∧ va_K D zcl (ztl cA) s ∧ (∀ q : Nat, s.heap.size ≤ q → A q) ∧ zEv ad A s s.heap ∧ l.stackTraces = false ∧ (∀ x ∈ c.exceptionTable.toList, False) ∧ meth.sig.returnType = ret
def zrm (fr lo : Nat) (o : zO) : Room := match o.1 with
  | .inl _ => { frames := fr, cells := 0, slots := 0, locals := lo }
  | .inr _ => { frames := fr, cells := 1, slots := 6, locals := lo }
theorem zrm_f (fr lo : Nat) (o : zO) : (zrm fr lo o).frames = fr := by unfold zrm; split <;> rfl
theorem zrm_l (fr lo : Nat) (o : zO) : (zrm fr lo o).locals = lo := by unfold zrm; split <;> rfl
def zQc (D : va_G) (cA : Nat → ClassId) (ad : zR → Nat) (A : Nat → Prop) (Rg : List zD) (v : Option zV) (Ms : List zM) : Array Value → State → Outcome → State → Prop := fun _ st oc t =>
  oc = .returned (v.map (zt ad)) ∧ va_P D zcl (zwl cA ad Rg Ms) t.heap ∧ va_F A st t
def zXc (D : va_G) (cA : Nat → ClassId) (ad : zR → Nat) (A : Nat → Prop) (Rg : List zD) (E : String) (Ms : List zM) : String → State → State → Prop := fun E' st t =>
  E' = E ∧ va_P D zcl (zwl cA ad Rg Ms) t.heap ∧ va_F A st t
def zNo : Array Value → State → Outcome → State → Prop := fun _ _ _ _ => False
def zQ (X : zX) (Rg : List zD) (o : zO) : State → Prop := match X with
  | (p, l, e, s, m, args, below, meth, c, D, cA, ad, A) => match o.1 with
    | .inl v => MQ below (zQc D cA ad A Rg v o.2) args s 0 0 A
    | .inr E => vx_MQ below zNo (zXc D cA ad A Rg E o.2) args s 1 6 A
/-- from pc, with these locals, this stack, these memories: the method comes to the outcome φ, if that is one -/
def zZ (X : zX) (Rg : List zD) (fr lo nL pc : Nat) (L : List (Option zV)) (st : List zV) (Ms : List zM) (φ : Option zO) : Prop := match X with
  | (p, l, e, s, m, args, below, meth, c, D, cA, ad, A) => ∀ o : zO, φ = some o → ∀ (H : Heap) (locs : List Loc) (ls : Array Slot), zlv ad nL ls L → va_P D zcl (zwl cA ad Rg Ms) H → va_D A (zwl cA ad Rg Ms) → va_S A s.heap H locs →
      W p l e (zrm fr lo o) s m args below meth c H locs 0 0 (zQ (p, l, e, s, m, args, below, meth, c, D, cA, ad, A) Rg o) (F0 m pc ls (st.map (zt ad)))
theorem zlb {a b : Nat} (h : Nat.ble (a + 1) b = true) : a < b := Nat.le_of_ble_eq_true h
def zmax (x y : Int32) : Int32 := if x < y then y else x
def zmin (x y : Int32) : Int32 := if y < x then y else x
def zabs (x : Int32) : Int32 := if 0 ≤ x then x else 0 - x
theorem zsw_out {v lw hi : Int32} {a b : Int} (ha : lw.toInt = a) (hb : hi.toInt = b) (h : v < lw ∨ hi < v) : v.toInt < a ∨ b < v.toInt := by
  subst ha; subst hb
  rcases h with h | h
  · exact Or.inl (Int32.lt_iff_toInt_lt.mp h)
  · exact Or.inr (Int32.lt_iff_toInt_lt.mp h)
theorem zsw_in {v lw hi : Int32} {a b : Int} (ha : lw.toInt = a) (hb : hi.toInt = b) (h : ¬ (v < lw ∨ hi < v)) : a ≤ v.toInt ∧ v.toInt ≤ b := by
  subst ha; subst hb
  exact ⟨Int.not_lt.mp fun q => h (Or.inl (Int32.lt_iff_toInt_lt.mpr q)), Int.not_lt.mp fun q => h (Or.inr (Int32.lt_iff_toInt_lt.mpr q))⟩
theorem zsw_at {v k : Int32} {a : Int} (hv : v = k) (hk : k.toInt = a) : v.toInt = a := by rw [hv]; exact hk
theorem zsw_ne {v k : Int32} {a : Int} (hk : k.toInt = a) (h : ¬ v = k) : v.toInt ≠ a := fun q => h (Int32.toInt_inj.mp (q.trans hk.symm))
theorem zsw_eq {v k : Int32} {a : Int} (hk : k.toInt = a) (h : v.toInt = a) : v = k := Int32.toInt_inj.mp (h.trans hk.symm)
section ZZ
variable {X : zX} {cc : ByteArray} {nL : Nat} {own : String} {ret : Option FieldType} {Rg : List zD} {fr lo pc : Nat} {L L' : List (Option zV)} {st : List zV} {Ms : List zM} {φ : Option zO} {α β : Type}
/-! what the value φ is made of -/
theorem zz_some {a : α} {κ : α → Option zO} (k : zZ X Rg fr lo nL pc L st Ms (κ a)) : zZ X Rg fr lo nL pc L st Ms (Option.bind (some a) κ) := k
theorem zz_bind {x : Option α} {f : α → Option β} {κ : β → Option zO} (k : zZ X Rg fr lo nL pc L st Ms (Option.bind x fun a => Option.bind (f a) κ)) : zZ X Rg fr lo nL pc L st Ms (Option.bind (Option.bind x f) κ) := by
  cases x <;> exact k
theorem zz_t {c : Prop} [Decidable c] {a b : Option α} {κ : α → Option zO} (h : c) (k : zZ X Rg fr lo nL pc L st Ms (Option.bind a κ)) : zZ X Rg fr lo nL pc L st Ms (Option.bind (if c then a else b) κ) := by
  rw [if_pos h]
  exact k
theorem zz_f {c : Prop} [Decidable c] {a b : Option α} {κ : α → Option zO} (h : ¬ c) (k : zZ X Rg fr lo nL pc L st Ms (Option.bind b κ)) : zZ X Rg fr lo nL pc L st Ms (Option.bind (if c then a else b) κ) := by
  rw [if_neg h]
  exact k
theorem zz_sw {c : Prop} [Decidable c] {a b : Option α} {κ : α → Option zO} (kt : c → zZ X Rg fr lo nL pc L st Ms (Option.bind a κ)) (kf : ¬ c → zZ X Rg fr lo nL pc L st Ms (Option.bind b κ)) : zZ X Rg fr lo nL pc L st Ms (Option.bind (if c then a else b) κ) := by
  by_cases h : c
  · exact zz_t h (kt h)
  · exact zz_f h (kf h)
theorem zz_none {κ : α → Option zO} : zZ X Rg fr lo nL pc L st Ms (Option.bind none κ) := by
  obtain ⟨p, l, e, s, m, args, below, meth, c, D, cA, ad, A⟩ := X
  intro o ho
  cases ho
/-- a test that must hold for there to be an outcome -/
def zg {α : Type} (c : Prop) [Decidable c] (x : Option α) : Option α := if c then x else none
theorem zz_g {c : Prop} [Decidable c] {x : Option α} {κ : α → Option zO} (k : c → zZ X Rg fr lo nL pc L st Ms (Option.bind x κ)) : zZ X Rg fr lo nL pc L st Ms (Option.bind (zg c x) κ) := by
  unfold zg
  by_cases h : c
  · rw [if_pos h]
    exact k h
  · rw [if_neg h]
    exact zz_none
/-- a name for a value -/
def zlet {α β : Type} (a : α) (f : α → β) : β := f a
theorem zz_let {a : α} {f : α → Option β} {κ : β → Option zO} (k : zZ X Rg fr lo nL pc L st Ms (Option.bind (f a) κ)) : zZ X Rg fr lo nL pc L st Ms (Option.bind (zlet a f) κ) := k
/-- an index into an array of n -/
def zix {α : Type} (i : Int32) (n : Nat) (f : Nat → Option α) : Option α := if i < 0 ∨ n ≤ i.toNatClampNeg then none else f i.toNatClampNeg
theorem zz_ix {i : Int32} {n : Nat} {f : Nat → Option α} {κ : α → Option zO} (k : ∀ j : Nat, j < n → vp_in i n → i.toNatClampNeg = j → zZ X Rg fr lo nL pc L st Ms (Option.bind (f j) κ)) : zZ X Rg fr lo nL pc L st Ms (Option.bind (zix i n f) κ) := by
  unfold zix
  by_cases h : i < 0 ∨ n ≤ i.toNatClampNeg
  · rw [if_pos h]
    exact zz_none
  · rw [if_neg h]
    exact k _ (Nat.not_le.mp fun q => h (Or.inr q)) h rfl
theorem zz_letm {a : α} {f : α → Option β} {κ : β → Option zO} {Mf : α → List zM} (k : ∀ v, zZ X Rg fr lo nL pc L st (Mf v) (Option.bind (f v) κ)) : zZ X Rg fr lo nL pc L st (Mf a) (Option.bind (zlet a f) κ) := k a
theorem zz_letl {a : α} {f : α → Option β} {κ : β → Option zO} {Lf : α → List (Option zV)} (k : ∀ v, zZ X Rg fr lo nL pc (Lf v) st Ms (Option.bind (f v) κ)) : zZ X Rg fr lo nL pc (Lf a) st Ms (Option.bind (zlet a f) κ) := k a
/-- a loop, at most n times round: a turn goes on (inl) or ends it (inr) -/
def ziter {σ β : Type} (b : σ → Option (σ ⊕ β)) : Nat → σ → Option β
  | 0, _ => none
  | n + 1, s => (b s).bind (Sum.elim (fun s' => ziter b n s') some)
theorem ziter_succ {σ β : Type} (b : σ → Option (σ ⊕ β)) (n : Nat) (s : σ) : ziter b (n + 1) s = (b s).bind (Sum.elim (ziter b n) some) := by
  rw [ziter]
theorem zz_iter {σ : Type} {b : σ → Option (σ ⊕ β)} {κ : β → Option zO} {Lf : σ → List (Option zV)} {Mf : σ → List zM} (h : ∀ (s : σ) (ψ : σ ⊕ β → Option zO), (∀ s', zZ X Rg fr lo nL pc (Lf s') st (Mf s') (ψ (.inl s'))) → (∀ x, ψ (.inr x) = κ x) → zZ X Rg fr lo nL pc (Lf s) st (Mf s) (Option.bind (b s) ψ)) : ∀ (n : Nat) (s : σ), zZ X Rg fr lo nL pc (Lf s) st (Mf s) (Option.bind (ziter b n s) κ)
  | 0, _ => zz_none
  | n + 1, s => by
    have h1 := h s (Sum.elim (fun s' => Option.bind (ziter b n s') κ) κ) (fun s' => zz_iter h n s') (fun _ => rfl)
    rw [ziter_succ]
    rw [show Option.bind ((b s).bind (Sum.elim (ziter b n) some)) κ = Option.bind (b s) (Sum.elim (fun s' => Option.bind (ziter b n s') κ) κ) by
      cases b s with
      | none => rfl
      | some r => cases r <;> rfl]
    exact h1
theorem zz_sub (hs : zsub L L') (k : zZ X Rg fr lo nL pc L' st Ms φ) : zZ X Rg fr lo nL pc L st Ms φ := by
  obtain ⟨p, l, e, s, m, args, below, meth, c, D, cA, ad, A⟩ := X
  exact fun o ho H locs ls hl hP hD hS => k o ho H locs ls (zlv_sub hl hs) hP hD hS

theorem zz_iadd (F : zFr X cc nL own ret) {x y : Int32} (hd : decode cc pc = .ok (.iadd, 1)) (k : zZ X Rg fr lo nL (pc + 1) L (zi (x + y) :: st) Ms φ) : zZ X Rg fr lo nL pc L (zi y :: zi x :: st) Ms φ := by
  obtain ⟨p, l, e, s, m, args, below, meth, c, D, cA, ad, A⟩ := X
  obtain ⟨hx, hb, hml, hown, hts, hlk, hK, hA, hE, htr, hex, hret⟩ := F
  exact fun o ho H locs ls hl hP hD hS => lv_iadd hx hb hd (k o ho H locs ls hl hP hD hS)

theorem zz_isub (F : zFr X cc nL own ret) {x y : Int32} (hd : decode cc pc = .ok (.isub, 1)) (k : zZ X Rg fr lo nL (pc + 1) L (zi (x - y) :: st) Ms φ) : zZ X Rg fr lo nL pc L (zi y :: zi x :: st) Ms φ := by
  obtain ⟨p, l, e, s, m, args, below, meth, c, D, cA, ad, A⟩ := X
  obtain ⟨hx, hb, hml, hown, hts, hlk, hK, hA, hE, htr, hex, hret⟩ := F
  exact fun o ho H locs ls hl hP hD hS => lv_isub hx hb hd (k o ho H locs ls hl hP hD hS)

theorem zz_imul (F : zFr X cc nL own ret) {x y : Int32} (hd : decode cc pc = .ok (.imul, 1)) (k : zZ X Rg fr lo nL (pc + 1) L (zi (x * y) :: st) Ms φ) : zZ X Rg fr lo nL pc L (zi y :: zi x :: st) Ms φ := by
  obtain ⟨p, l, e, s, m, args, below, meth, c, D, cA, ad, A⟩ := X
  obtain ⟨hx, hb, hml, hown, hts, hlk, hK, hA, hE, htr, hex, hret⟩ := F
  exact fun o ho H locs ls hl hP hD hS => lv_imul hx hb hd (k o ho H locs ls hl hP hD hS)

theorem zz_iand (F : zFr X cc nL own ret) {x y : Int32} (hd : decode cc pc = .ok (.iand, 1)) (k : zZ X Rg fr lo nL (pc + 1) L (zi (x &&& y) :: st) Ms φ) : zZ X Rg fr lo nL pc L (zi y :: zi x :: st) Ms φ := by
  obtain ⟨p, l, e, s, m, args, below, meth, c, D, cA, ad, A⟩ := X
  obtain ⟨hx, hb, hml, hown, hts, hlk, hK, hA, hE, htr, hex, hret⟩ := F
  exact fun o ho H locs ls hl hP hD hS => lv_iand hx hb hd (k o ho H locs ls hl hP hD hS)

theorem zz_ior (F : zFr X cc nL own ret) {x y : Int32} (hd : decode cc pc = .ok (.ior, 1)) (k : zZ X Rg fr lo nL (pc + 1) L (zi (x ||| y) :: st) Ms φ) : zZ X Rg fr lo nL pc L (zi y :: zi x :: st) Ms φ := by
  obtain ⟨p, l, e, s, m, args, below, meth, c, D, cA, ad, A⟩ := X
  obtain ⟨hx, hb, hml, hown, hts, hlk, hK, hA, hE, htr, hex, hret⟩ := F
  exact fun o ho H locs ls hl hP hD hS => lv_ior hx hb hd (k o ho H locs ls hl hP hD hS)

theorem zz_ixor (F : zFr X cc nL own ret) {x y : Int32} (hd : decode cc pc = .ok (.ixor, 1)) (k : zZ X Rg fr lo nL (pc + 1) L (zi (x ^^^ y) :: st) Ms φ) : zZ X Rg fr lo nL pc L (zi y :: zi x :: st) Ms φ := by
  obtain ⟨p, l, e, s, m, args, below, meth, c, D, cA, ad, A⟩ := X
  obtain ⟨hx, hb, hml, hown, hts, hlk, hK, hA, hE, htr, hex, hret⟩ := F
  exact fun o ho H locs ls hl hP hD hS => lv_ixor hx hb hd (k o ho H locs ls hl hP hD hS)

theorem zz_ishr (F : zFr X cc nL own ret) {x y : Int32} (hd : decode cc pc = .ok (.ishr, 1)) (k : zZ X Rg fr lo nL (pc + 1) L (zi (x >>> (y &&& 31)) :: st) Ms φ) : zZ X Rg fr lo nL pc L (zi y :: zi x :: st) Ms φ := by
  obtain ⟨p, l, e, s, m, args, below, meth, c, D, cA, ad, A⟩ := X
  obtain ⟨hx, hb, hml, hown, hts, hlk, hK, hA, hE, htr, hex, hret⟩ := F
  exact fun o ho H locs ls hl hP hD hS => lv_ishr hx hb hd (k o ho H locs ls hl hP hD hS)

theorem zz_ladd (F : zFr X cc nL own ret) {x y : Int64} (hd : decode cc pc = .ok (.ladd, 1)) (k : zZ X Rg fr lo nL (pc + 1) L (zl (x + y) :: st) Ms φ) : zZ X Rg fr lo nL pc L (zl y :: zl x :: st) Ms φ := by
  obtain ⟨p, l, e, s, m, args, below, meth, c, D, cA, ad, A⟩ := X
  obtain ⟨hx, hb, hml, hown, hts, hlk, hK, hA, hE, htr, hex, hret⟩ := F
  exact fun o ho H locs ls hl hP hD hS => lv_ladd hx hb hd (k o ho H locs ls hl hP hD hS)

theorem zz_lsub (F : zFr X cc nL own ret) {x y : Int64} (hd : decode cc pc = .ok (.lsub, 1)) (k : zZ X Rg fr lo nL (pc + 1) L (zl (x - y) :: st) Ms φ) : zZ X Rg fr lo nL pc L (zl y :: zl x :: st) Ms φ := by
  obtain ⟨p, l, e, s, m, args, below, meth, c, D, cA, ad, A⟩ := X
  obtain ⟨hx, hb, hml, hown, hts, hlk, hK, hA, hE, htr, hex, hret⟩ := F
  exact fun o ho H locs ls hl hP hD hS => lv_lsub hx hb hd (k o ho H locs ls hl hP hD hS)

theorem zz_lmul (F : zFr X cc nL own ret) {x y : Int64} (hd : decode cc pc = .ok (.lmul, 1)) (k : zZ X Rg fr lo nL (pc + 1) L (zl (x * y) :: st) Ms φ) : zZ X Rg fr lo nL pc L (zl y :: zl x :: st) Ms φ := by
  obtain ⟨p, l, e, s, m, args, below, meth, c, D, cA, ad, A⟩ := X
  obtain ⟨hx, hb, hml, hown, hts, hlk, hK, hA, hE, htr, hex, hret⟩ := F
  exact fun o ho H locs ls hl hP hD hS => lv_lmul hx hb hd (k o ho H locs ls hl hP hD hS)

theorem zz_idiv (F : zFr X cc nL own ret) {x y : Int32} (hd : decode cc pc = .ok (.idiv, 1)) (hne : ¬ y = 0) (k : zZ X Rg fr lo nL (pc + 1) L (zi (x / y) :: st) Ms φ) : zZ X Rg fr lo nL pc L (zi y :: zi x :: st) Ms φ := by
  obtain ⟨p, l, e, s, m, args, below, meth, c, D, cA, ad, A⟩ := X
  obtain ⟨hx, hb, hml, hown, hts, hlk, hK, hA, hE, htr, hex, hret⟩ := F
  exact fun o ho H locs ls hl hP hD hS => lv_idiv hx hb hd hne (k o ho H locs ls hl hP hD hS)

theorem zz_irem (F : zFr X cc nL own ret) {x y : Int32} (hd : decode cc pc = .ok (.irem, 1)) (hne : ¬ y = 0) (k : zZ X Rg fr lo nL (pc + 1) L (zi (x % y) :: st) Ms φ) : zZ X Rg fr lo nL pc L (zi y :: zi x :: st) Ms φ := by
  obtain ⟨p, l, e, s, m, args, below, meth, c, D, cA, ad, A⟩ := X
  obtain ⟨hx, hb, hml, hown, hts, hlk, hK, hA, hE, htr, hex, hret⟩ := F
  exact fun o ho H locs ls hl hP hD hS => lv_irem hx hb hd hne (by have h := k o ho H locs ls hl hP hD hS; rw [← irem_eq_mod] at h; exact h)

theorem zz_ineg (F : zFr X cc nL own ret) {x : Int32} (hd : decode cc pc = .ok (.ineg, 1)) (k : zZ X Rg fr lo nL (pc + 1) L (zi (-x) :: st) Ms φ) : zZ X Rg fr lo nL pc L (zi x :: st) Ms φ := by
  obtain ⟨p, l, e, s, m, args, below, meth, c, D, cA, ad, A⟩ := X
  obtain ⟨hx, hb, hml, hown, hts, hlk, hK, hA, hE, htr, hex, hret⟩ := F
  exact fun o ho H locs ls hl hP hD hS => lv_ineg hx hb hd (k o ho H locs ls hl hP hD hS)

theorem zz_i2l (F : zFr X cc nL own ret) {x : Int32} (hd : decode cc pc = .ok (.i2l, 1)) (k : zZ X Rg fr lo nL (pc + 1) L (zl x.toInt64 :: st) Ms φ) : zZ X Rg fr lo nL pc L (zi x :: st) Ms φ := by
  obtain ⟨p, l, e, s, m, args, below, meth, c, D, cA, ad, A⟩ := X
  obtain ⟨hx, hb, hml, hown, hts, hlk, hK, hA, hE, htr, hex, hret⟩ := F
  exact fun o ho H locs ls hl hP hD hS => lv_i2l hx hb hd rfl (k o ho H locs ls hl hP hD hS)

theorem zz_lcmp (F : zFr X cc nL own ret) {x y : Int64} (hd : decode cc pc = .ok (.lcmp, 1)) (k : zZ X Rg fr lo nL (pc + 1) L (zi (lg_cmp x y) :: st) Ms φ) : zZ X Rg fr lo nL pc L (zl y :: zl x :: st) Ms φ := by
  obtain ⟨p, l, e, s, m, args, below, meth, c, D, cA, ad, A⟩ := X
  obtain ⟨hx, hb, hml, hown, hts, hlk, hK, hA, hE, htr, hex, hret⟩ := F
  exact fun o ho H locs ls hl hP hD hS => W.lcmp hx hb hd (k o ho H locs ls hl hP hD hS)

theorem zz_iconst (F : zFr X cc nL own ret) {n : Int} {v : Int32} (hd : decode cc pc = .ok (.iconst n, 1)) (hv : Int32.ofInt n = v) (k : zZ X Rg fr lo nL (pc + 1) L (zi v :: st) Ms φ) : zZ X Rg fr lo nL pc L st Ms φ := by
  obtain ⟨p, l, e, s, m, args, below, meth, c, D, cA, ad, A⟩ := X
  obtain ⟨hx, hb, hml, hown, hts, hlk, hK, hA, hE, htr, hex, hret⟩ := F
  exact fun o ho H locs ls hl hP hD hS => lv_iconst hx hb hd hv (k o ho H locs ls hl hP hD hS)

theorem zz_bipush (F : zFr X cc nL own ret) {n : Int} {v : Int32} (hd : decode cc pc = .ok (.bipush n, 2)) (hv : (Int8.ofInt n).toInt32 = v) (k : zZ X Rg fr lo nL (pc + 2) L (zi v :: st) Ms φ) : zZ X Rg fr lo nL pc L st Ms φ := by
  obtain ⟨p, l, e, s, m, args, below, meth, c, D, cA, ad, A⟩ := X
  obtain ⟨hx, hb, hml, hown, hts, hlk, hK, hA, hE, htr, hex, hret⟩ := F
  exact fun o ho H locs ls hl hP hD hS => lv_bipush hx hb hd hv (k o ho H locs ls hl hP hD hS)

theorem zz_sipush (F : zFr X cc nL own ret) {n : Int} {v : Int32} (hd : decode cc pc = .ok (.sipush n, 3)) (hv : (Int16.ofInt n).toInt32 = v) (k : zZ X Rg fr lo nL (pc + 3) L (zi v :: st) Ms φ) : zZ X Rg fr lo nL pc L st Ms φ := by
  obtain ⟨p, l, e, s, m, args, below, meth, c, D, cA, ad, A⟩ := X
  obtain ⟨hx, hb, hml, hown, hts, hlk, hK, hA, hE, htr, hex, hret⟩ := F
  exact fun o ho H locs ls hl hP hD hS => lv_sipush hx hb hd hv (k o ho H locs ls hl hP hD hS)

theorem zz_lconst (F : zFr X cc nL own ret) {n : Fin 2} {v : Int64} (hd : decode cc pc = .ok (.lconst n, 1)) (hv : Int64.ofNat (n : Nat) = v) (k : zZ X Rg fr lo nL (pc + 1) L (zl v :: st) Ms φ) : zZ X Rg fr lo nL pc L st Ms φ := by
  obtain ⟨p, l, e, s, m, args, below, meth, c, D, cA, ad, A⟩ := X
  obtain ⟨hx, hb, hml, hown, hts, hlk, hK, hA, hE, htr, hex, hret⟩ := F
  exact fun o ho H locs ls hl hP hD hS => lv_lconst hx hb hd hv (k o ho H locs ls hl hP hD hS)

theorem zz_ldc2 (F : zFr X cc nL own ret) {idx : Nat} {v : Int64} (hd : decode cc pc = .ok (.ldc2_w idx, 3)) (hw : Cond.constantLong own idx v ∈ zTg) (k : zZ X Rg fr lo nL (pc + 3) L (zl v :: st) Ms φ) : zZ X Rg fr lo nL pc L st Ms φ := by
  obtain ⟨p, l, e, s, m, args, below, meth, c, D, cA, ad, A⟩ := X
  obtain ⟨hx, hb, hml, hown, hts, hlk, hK, hA, hE, htr, hex, hret⟩ := F
  exact fun o ho H locs ls hl hP hD hS => lv_ldc2 hx hb hown (hts _ hw) hd (k o ho H locs ls hl hP hD hS)

theorem zz_dup (F : zFr X cc nL own ret) {u : zV} (hd : decode cc pc = .ok (.dup, 1)) (uc : zcat u = 1) (k : zZ X Rg fr lo nL (pc + 1) L (u :: u :: st) Ms φ) : zZ X Rg fr lo nL pc L (u :: st) Ms φ := by
  obtain ⟨p, l, e, s, m, args, below, meth, c, D, cA, ad, A⟩ := X
  obtain ⟨hx, hb, hml, hown, hts, hlk, hK, hA, hE, htr, hex, hret⟩ := F
  exact fun o ho H locs ls hl hP hD hS => lv_dup hx hb hd ((zcat_t ad u).trans uc) (k o ho H locs ls hl hP hD hS)

theorem zz_pop (F : zFr X cc nL own ret) {u : zV} (hd : decode cc pc = .ok (.pop, 1)) (uc : zcat u = 1) (k : zZ X Rg fr lo nL (pc + 1) L st Ms φ) : zZ X Rg fr lo nL pc L (u :: st) Ms φ := by
  obtain ⟨p, l, e, s, m, args, below, meth, c, D, cA, ad, A⟩ := X
  obtain ⟨hx, hb, hml, hown, hts, hlk, hK, hA, hE, htr, hex, hret⟩ := F
  exact fun o ho H locs ls hl hP hD hS => lv_pop hx hb hd ((zcat_t ad u).trans uc) (k o ho H locs ls hl hP hD hS)

theorem zz_dup2 (F : zFr X cc nL own ret) {u v : zV} (hd : decode cc pc = .ok (.dup2, 1)) (uc : zcat u = 1) (vc : zcat v = 1) (k : zZ X Rg fr lo nL (pc + 1) L (u :: v :: u :: v :: st) Ms φ) : zZ X Rg fr lo nL pc L (u :: v :: st) Ms φ := by
  obtain ⟨p, l, e, s, m, args, below, meth, c, D, cA, ad, A⟩ := X
  obtain ⟨hx, hb, hml, hown, hts, hlk, hK, hA, hE, htr, hex, hret⟩ := F
  exact fun o ho H locs ls hl hP hD hS => lv_dup2_11 hx hb hd ((zcat_t ad u).trans uc) ((zcat_t ad v).trans vc) (k o ho H locs ls hl hP hD hS)

theorem zz_dup_x1 (F : zFr X cc nL own ret) {u v : zV} (hd : decode cc pc = .ok (.dup_x1, 1)) (uc : zcat u = 1) (vc : zcat v = 1) (k : zZ X Rg fr lo nL (pc + 1) L (u :: v :: u :: st) Ms φ) : zZ X Rg fr lo nL pc L (u :: v :: st) Ms φ := by
  obtain ⟨p, l, e, s, m, args, below, meth, c, D, cA, ad, A⟩ := X
  obtain ⟨hx, hb, hml, hown, hts, hlk, hK, hA, hE, htr, hex, hret⟩ := F
  exact fun o ho H locs ls hl hP hD hS => lv_dup_x1 hx hb hd ((zcat_t ad u).trans uc) ((zcat_t ad v).trans vc) (k o ho H locs ls hl hP hD hS)

theorem zz_goto (F : zFr X cc nL own ret) {off : Int} {tgt : Nat} (hd : decode cc pc = .ok (.goto off, 3)) (ht : (pc : Int) + off = (tgt : Int)) (k : zZ X Rg fr lo nL tgt L st Ms φ) : zZ X Rg fr lo nL pc L st Ms φ := by
  obtain ⟨p, l, e, s, m, args, below, meth, c, D, cA, ad, A⟩ := X
  obtain ⟨hx, hb, hml, hown, hts, hlk, hK, hA, hE, htr, hex, hret⟩ := F
  exact fun o ho H locs ls hl hP hD hS => lv_goto hx hb hd ht (k o ho H locs ls hl hP hD hS)

theorem zz_iload_n (F : zFr X cc nL own ret) {j : Fin 4} {i : Nat} {x : Int32} (hd : decode cc pc = .ok (.iload_n j, 1)) (hi : (j : Nat) = i) (hL : L[i]? = some (some (zi x))) (k : zZ X Rg fr lo nL (pc + 1) L (zi x :: st) Ms φ) : zZ X Rg fr lo nL pc L st Ms φ := by
  obtain ⟨p, l, e, s, m, args, below, meth, c, D, cA, ad, A⟩ := X
  obtain ⟨hx, hb, hml, hown, hts, hlk, hK, hA, hE, htr, hex, hret⟩ := F
  exact fun o ho H locs ls hl hP hD hS => lv_iload_n hx hb hd hi (hl.2.2 _ _ hL) (k o ho H locs ls hl hP hD hS)

theorem zz_iload (F : zFr X cc nL own ret) {i : Nat} {x : Int32} (hd : decode cc pc = .ok (.iload i, 2)) (hL : L[i]? = some (some (zi x))) (k : zZ X Rg fr lo nL (pc + 2) L (zi x :: st) Ms φ) : zZ X Rg fr lo nL pc L st Ms φ := by
  obtain ⟨p, l, e, s, m, args, below, meth, c, D, cA, ad, A⟩ := X
  obtain ⟨hx, hb, hml, hown, hts, hlk, hK, hA, hE, htr, hex, hret⟩ := F
  exact fun o ho H locs ls hl hP hD hS => lv_iload hx hb hd (hl.2.2 _ _ hL) (k o ho H locs ls hl hP hD hS)

theorem zz_aload_n (F : zFr X cc nL own ret) {j : Fin 4} {i : Nat} {r q q2 : Nat} (hd : decode cc pc = .ok (.aload_n j, 1)) (hi : (j : Nat) = i) (hL : L[i]? = some (some (zr r q q2))) (k : zZ X Rg fr lo nL (pc + 1) L (zr r q q2 :: st) Ms φ) : zZ X Rg fr lo nL pc L st Ms φ := by
  obtain ⟨p, l, e, s, m, args, below, meth, c, D, cA, ad, A⟩ := X
  obtain ⟨hx, hb, hml, hown, hts, hlk, hK, hA, hE, htr, hex, hret⟩ := F
  exact fun o ho H locs ls hl hP hD hS => lv_aload_n hx hb hd hi (hl.2.2 _ _ hL) (k o ho H locs ls hl hP hD hS)

theorem zz_aload (F : zFr X cc nL own ret) {i : Nat} {r q q2 : Nat} (hd : decode cc pc = .ok (.aload i, 2)) (hL : L[i]? = some (some (zr r q q2))) (k : zZ X Rg fr lo nL (pc + 2) L (zr r q q2 :: st) Ms φ) : zZ X Rg fr lo nL pc L st Ms φ := by
  obtain ⟨p, l, e, s, m, args, below, meth, c, D, cA, ad, A⟩ := X
  obtain ⟨hx, hb, hml, hown, hts, hlk, hK, hA, hE, htr, hex, hret⟩ := F
  exact fun o ho H locs ls hl hP hD hS => lv_aload hx hb hd (hl.2.2 _ _ hL) (k o ho H locs ls hl hP hD hS)

theorem zz_lload_n (F : zFr X cc nL own ret) {j : Fin 4} {i : Nat} {x : Int64} (hd : decode cc pc = .ok (.lload_n j, 1)) (hi : (j : Nat) = i) (hL : L[i]? = some (some (zl x))) (k : zZ X Rg fr lo nL (pc + 1) L (zl x :: st) Ms φ) : zZ X Rg fr lo nL pc L st Ms φ := by
  obtain ⟨p, l, e, s, m, args, below, meth, c, D, cA, ad, A⟩ := X
  obtain ⟨hx, hb, hml, hown, hts, hlk, hK, hA, hE, htr, hex, hret⟩ := F
  exact fun o ho H locs ls hl hP hD hS => lv_lload_n hx hb hd hi (hl.2.2 _ _ hL) (k o ho H locs ls hl hP hD hS)

theorem zz_lload (F : zFr X cc nL own ret) {i : Nat} {x : Int64} (hd : decode cc pc = .ok (.lload i, 2)) (hL : L[i]? = some (some (zl x))) (k : zZ X Rg fr lo nL (pc + 2) L (zl x :: st) Ms φ) : zZ X Rg fr lo nL pc L st Ms φ := by
  obtain ⟨p, l, e, s, m, args, below, meth, c, D, cA, ad, A⟩ := X
  obtain ⟨hx, hb, hml, hown, hts, hlk, hK, hA, hE, htr, hex, hret⟩ := F
  exact fun o ho H locs ls hl hP hD hS => lv_lload hx hb hd (hl.2.2 _ _ hL) (k o ho H locs ls hl hP hD hS)

theorem zz_istore_n (F : zFr X cc nL own ret) {j : Fin 4} {i : Nat} {x : Int32} (hd : decode cc pc = .ok (.istore_n j, 1)) (hi : (j : Nat) = i) (hn : i < nL) (hsf : zsafe L i = true) (hL : L.set i (some (zi x)) = L') (k : zZ X Rg fr lo nL (pc + 1) L' st Ms φ) : zZ X Rg fr lo nL pc L (zi x :: st) Ms φ := by
  obtain ⟨p, l, e, s, m, args, below, meth, c, D, cA, ad, A⟩ := X
  obtain ⟨hx, hb, hml, hown, hts, hlk, hK, hA, hE, htr, hex, hret⟩ := F
  subst hL
  exact fun o ho H locs ls hl hP hD hS => lv_istore_n hx hb hd hi (zlv_has hl) hn rfl fun ls' h' => k o ho H locs ls' (zlv_set (v := zi x) hsf rfl h') hP hD hS

theorem zz_istore (F : zFr X cc nL own ret) {i : Nat} {x : Int32} (hd : decode cc pc = .ok (.istore i, 2)) (hn : i < nL) (hsf : zsafe L i = true) (hL : L.set i (some (zi x)) = L') (k : zZ X Rg fr lo nL (pc + 2) L' st Ms φ) : zZ X Rg fr lo nL pc L (zi x :: st) Ms φ := by
  obtain ⟨p, l, e, s, m, args, below, meth, c, D, cA, ad, A⟩ := X
  obtain ⟨hx, hb, hml, hown, hts, hlk, hK, hA, hE, htr, hex, hret⟩ := F
  subst hL
  exact fun o ho H locs ls hl hP hD hS => lv_istore hx hb hd (zlv_has hl) hn rfl fun ls' h' => k o ho H locs ls' (zlv_set (v := zi x) hsf rfl h') hP hD hS

theorem zz_astore_n (F : zFr X cc nL own ret) {j : Fin 4} {i : Nat} {r q q2 : Nat} (hd : decode cc pc = .ok (.astore_n j, 1)) (hi : (j : Nat) = i) (hn : i < nL) (hsf : zsafe L i = true) (hL : L.set i (some (zr r q q2)) = L') (k : zZ X Rg fr lo nL (pc + 1) L' st Ms φ) : zZ X Rg fr lo nL pc L (zr r q q2 :: st) Ms φ := by
  obtain ⟨p, l, e, s, m, args, below, meth, c, D, cA, ad, A⟩ := X
  obtain ⟨hx, hb, hml, hown, hts, hlk, hK, hA, hE, htr, hex, hret⟩ := F
  subst hL
  exact fun o ho H locs ls hl hP hD hS => lv_astore_n hx hb hd hi (zlv_has hl) hn rfl fun ls' h' => k o ho H locs ls' (zlv_set (v := zr r q q2) hsf rfl h') hP hD hS

theorem zz_astore (F : zFr X cc nL own ret) {i : Nat} {r q q2 : Nat} (hd : decode cc pc = .ok (.astore i, 2)) (hn : i < nL) (hsf : zsafe L i = true) (hL : L.set i (some (zr r q q2)) = L') (k : zZ X Rg fr lo nL (pc + 2) L' st Ms φ) : zZ X Rg fr lo nL pc L (zr r q q2 :: st) Ms φ := by
  obtain ⟨p, l, e, s, m, args, below, meth, c, D, cA, ad, A⟩ := X
  obtain ⟨hx, hb, hml, hown, hts, hlk, hK, hA, hE, htr, hex, hret⟩ := F
  subst hL
  exact fun o ho H locs ls hl hP hD hS => lv_astore hx hb hd (zlv_has hl) hn rfl fun ls' h' => k o ho H locs ls' (zlv_set (v := zr r q q2) hsf rfl h') hP hD hS

theorem zz_lstore_n (F : zFr X cc nL own ret) {j : Fin 4} {i : Nat} {x : Int64} (hd : decode cc pc = .ok (.lstore_n j, 1)) (hi : (j : Nat) = i) (hn : i + 1 < nL) (hsf : zsafe L i = true) (hL : (L.set i (some (zl x))).set (i + 1) none = L') (k : zZ X Rg fr lo nL (pc + 1) L' st Ms φ) : zZ X Rg fr lo nL pc L (zl x :: st) Ms φ := by
  obtain ⟨p, l, e, s, m, args, below, meth, c, D, cA, ad, A⟩ := X
  obtain ⟨hx, hb, hml, hown, hts, hlk, hK, hA, hE, htr, hex, hret⟩ := F
  subst hL
  exact fun o ho H locs ls hl hP hD hS => lv_lstore_n hx hb hd hi (zlv_has hl) hn rfl fun ls' h' => k o ho H locs ls' (zlv_setl hsf h') hP hD hS

theorem zz_lstore (F : zFr X cc nL own ret) {i : Nat} {x : Int64} (hd : decode cc pc = .ok (.lstore i, 2)) (hn : i + 1 < nL) (hsf : zsafe L i = true) (hL : (L.set i (some (zl x))).set (i + 1) none = L') (k : zZ X Rg fr lo nL (pc + 2) L' st Ms φ) : zZ X Rg fr lo nL pc L (zl x :: st) Ms φ := by
  obtain ⟨p, l, e, s, m, args, below, meth, c, D, cA, ad, A⟩ := X
  obtain ⟨hx, hb, hml, hown, hts, hlk, hK, hA, hE, htr, hex, hret⟩ := F
  subst hL
  exact fun o ho H locs ls hl hP hD hS => lv_lstore hx hb hd (zlv_has hl) hn rfl fun ls' h' => k o ho H locs ls' (zlv_setl hsf h') hP hD hS

theorem zz_iinc (F : zFr X cc nL own ret) {i : Nat} {n : Int} {x v : Int32} (hd : decode cc pc = .ok (.iinc i n, 3)) (hx0 : L[i]? = some (some (zi x))) (hv : x + Int32.ofInt n = v) (hn : i < nL) (hsf : zsafe L i = true) (hL : L.set i (some (zi v)) = L') (k : zZ X Rg fr lo nL (pc + 3) L' st Ms φ) : zZ X Rg fr lo nL pc L st Ms φ := by
  obtain ⟨p, l, e, s, m, args, below, meth, c, D, cA, ad, A⟩ := X
  obtain ⟨hx, hb, hml, hown, hts, hlk, hK, hA, hE, htr, hex, hret⟩ := F
  subst hL
  intro o ho H locs ls hl hP hD hS
  obtain ⟨j, hj⟩ := List.getElem?_of_mem (zll_mem (ad := ad) hx0)
  exact lv_iinc hx hb hd (zlv_has hl) hj hv hn rfl fun ls' h' => k o ho H locs ls' (zlv_set (v := zi v) hsf rfl h') hP hD hS

theorem zz_icmp_eq (F : zFr X cc nL own ret) {x y : Int32} {off : Int} {tgt : Nat} (hd : decode cc pc = .ok (.if_icmp .eq off, 3)) (ht : (pc : Int) + off = (tgt : Int)) (kt : x = y → zZ X Rg fr lo nL tgt L st Ms φ) (kf : ¬ (x = y) → zZ X Rg fr lo nL (pc + 3) L st Ms φ) : zZ X Rg fr lo nL pc L (zi y :: zi x :: st) Ms φ := by
  obtain ⟨p, l, e, s, m, args, below, meth, c, D, cA, ad, A⟩ := X
  obtain ⟨hx, hb, hml, hown, hts, hlk, hK, hA, hE, htr, hex, hret⟩ := F
  exact fun o ho H locs ls hl hP hD hS => lv_icmp_eq hx hb hd ht (fun h => kt h o ho H locs ls hl hP hD hS) (fun h => kf h o ho H locs ls hl hP hD hS)

theorem zz_if_eq (F : zFr X cc nL own ret) {x : Int32} {off : Int} {tgt : Nat} (hd : decode cc pc = .ok (.ifCond .eq off, 3)) (ht : (pc : Int) + off = (tgt : Int)) (kt : x = 0 → zZ X Rg fr lo nL tgt L st Ms φ) (kf : ¬ (x = 0) → zZ X Rg fr lo nL (pc + 3) L st Ms φ) : zZ X Rg fr lo nL pc L (zi x :: st) Ms φ := by
  obtain ⟨p, l, e, s, m, args, below, meth, c, D, cA, ad, A⟩ := X
  obtain ⟨hx, hb, hml, hown, hts, hlk, hK, hA, hE, htr, hex, hret⟩ := F
  exact fun o ho H locs ls hl hP hD hS => lv_if_eq hx hb hd ht (fun h => kt h o ho H locs ls hl hP hD hS) (fun h => kf h o ho H locs ls hl hP hD hS)

theorem zz_icmp_ne (F : zFr X cc nL own ret) {x y : Int32} {off : Int} {tgt : Nat} (hd : decode cc pc = .ok (.if_icmp .ne off, 3)) (ht : (pc : Int) + off = (tgt : Int)) (kt : ¬ x = y → zZ X Rg fr lo nL tgt L st Ms φ) (kf : x = y → zZ X Rg fr lo nL (pc + 3) L st Ms φ) : zZ X Rg fr lo nL pc L (zi y :: zi x :: st) Ms φ := by
  obtain ⟨p, l, e, s, m, args, below, meth, c, D, cA, ad, A⟩ := X
  obtain ⟨hx, hb, hml, hown, hts, hlk, hK, hA, hE, htr, hex, hret⟩ := F
  exact fun o ho H locs ls hl hP hD hS => lv_icmp_ne hx hb hd ht (fun h => kt h o ho H locs ls hl hP hD hS) (fun h => kf h o ho H locs ls hl hP hD hS)

theorem zz_if_ne (F : zFr X cc nL own ret) {x : Int32} {off : Int} {tgt : Nat} (hd : decode cc pc = .ok (.ifCond .ne off, 3)) (ht : (pc : Int) + off = (tgt : Int)) (kt : ¬ x = 0 → zZ X Rg fr lo nL tgt L st Ms φ) (kf : x = 0 → zZ X Rg fr lo nL (pc + 3) L st Ms φ) : zZ X Rg fr lo nL pc L (zi x :: st) Ms φ := by
  obtain ⟨p, l, e, s, m, args, below, meth, c, D, cA, ad, A⟩ := X
  obtain ⟨hx, hb, hml, hown, hts, hlk, hK, hA, hE, htr, hex, hret⟩ := F
  exact fun o ho H locs ls hl hP hD hS => lv_if_ne hx hb hd ht (fun h => kt h o ho H locs ls hl hP hD hS) (fun h => kf h o ho H locs ls hl hP hD hS)

theorem zz_icmp_lt (F : zFr X cc nL own ret) {x y : Int32} {off : Int} {tgt : Nat} (hd : decode cc pc = .ok (.if_icmp .lt off, 3)) (ht : (pc : Int) + off = (tgt : Int)) (kt : x < y → zZ X Rg fr lo nL tgt L st Ms φ) (kf : ¬ (x < y) → zZ X Rg fr lo nL (pc + 3) L st Ms φ) : zZ X Rg fr lo nL pc L (zi y :: zi x :: st) Ms φ := by
  obtain ⟨p, l, e, s, m, args, below, meth, c, D, cA, ad, A⟩ := X
  obtain ⟨hx, hb, hml, hown, hts, hlk, hK, hA, hE, htr, hex, hret⟩ := F
  exact fun o ho H locs ls hl hP hD hS => lv_icmp_lt hx hb hd ht (fun h => kt h o ho H locs ls hl hP hD hS) (fun h => kf h o ho H locs ls hl hP hD hS)

theorem zz_if_lt (F : zFr X cc nL own ret) {x : Int32} {off : Int} {tgt : Nat} (hd : decode cc pc = .ok (.ifCond .lt off, 3)) (ht : (pc : Int) + off = (tgt : Int)) (kt : x < 0 → zZ X Rg fr lo nL tgt L st Ms φ) (kf : ¬ (x < 0) → zZ X Rg fr lo nL (pc + 3) L st Ms φ) : zZ X Rg fr lo nL pc L (zi x :: st) Ms φ := by
  obtain ⟨p, l, e, s, m, args, below, meth, c, D, cA, ad, A⟩ := X
  obtain ⟨hx, hb, hml, hown, hts, hlk, hK, hA, hE, htr, hex, hret⟩ := F
  exact fun o ho H locs ls hl hP hD hS => lv_if_lt hx hb hd ht (fun h => kt h o ho H locs ls hl hP hD hS) (fun h => kf h o ho H locs ls hl hP hD hS)

theorem zz_icmp_ge (F : zFr X cc nL own ret) {x y : Int32} {off : Int} {tgt : Nat} (hd : decode cc pc = .ok (.if_icmp .ge off, 3)) (ht : (pc : Int) + off = (tgt : Int)) (kt : y ≤ x → zZ X Rg fr lo nL tgt L st Ms φ) (kf : ¬ (y ≤ x) → zZ X Rg fr lo nL (pc + 3) L st Ms φ) : zZ X Rg fr lo nL pc L (zi y :: zi x :: st) Ms φ := by
  obtain ⟨p, l, e, s, m, args, below, meth, c, D, cA, ad, A⟩ := X
  obtain ⟨hx, hb, hml, hown, hts, hlk, hK, hA, hE, htr, hex, hret⟩ := F
  exact fun o ho H locs ls hl hP hD hS => lv_icmp_ge hx hb hd ht (fun h => kt h o ho H locs ls hl hP hD hS) (fun h => kf h o ho H locs ls hl hP hD hS)

theorem zz_if_ge (F : zFr X cc nL own ret) {x : Int32} {off : Int} {tgt : Nat} (hd : decode cc pc = .ok (.ifCond .ge off, 3)) (ht : (pc : Int) + off = (tgt : Int)) (kt : 0 ≤ x → zZ X Rg fr lo nL tgt L st Ms φ) (kf : ¬ (0 ≤ x) → zZ X Rg fr lo nL (pc + 3) L st Ms φ) : zZ X Rg fr lo nL pc L (zi x :: st) Ms φ := by
  obtain ⟨p, l, e, s, m, args, below, meth, c, D, cA, ad, A⟩ := X
  obtain ⟨hx, hb, hml, hown, hts, hlk, hK, hA, hE, htr, hex, hret⟩ := F
  exact fun o ho H locs ls hl hP hD hS => lv_if_ge hx hb hd ht (fun h => kt h o ho H locs ls hl hP hD hS) (fun h => kf h o ho H locs ls hl hP hD hS)

theorem zz_icmp_gt (F : zFr X cc nL own ret) {x y : Int32} {off : Int} {tgt : Nat} (hd : decode cc pc = .ok (.if_icmp .gt off, 3)) (ht : (pc : Int) + off = (tgt : Int)) (kt : y < x → zZ X Rg fr lo nL tgt L st Ms φ) (kf : ¬ (y < x) → zZ X Rg fr lo nL (pc + 3) L st Ms φ) : zZ X Rg fr lo nL pc L (zi y :: zi x :: st) Ms φ := by
  obtain ⟨p, l, e, s, m, args, below, meth, c, D, cA, ad, A⟩ := X
  obtain ⟨hx, hb, hml, hown, hts, hlk, hK, hA, hE, htr, hex, hret⟩ := F
  exact fun o ho H locs ls hl hP hD hS => lv_icmp_gt hx hb hd ht (fun h => kt h o ho H locs ls hl hP hD hS) (fun h => kf h o ho H locs ls hl hP hD hS)

theorem zz_if_gt (F : zFr X cc nL own ret) {x : Int32} {off : Int} {tgt : Nat} (hd : decode cc pc = .ok (.ifCond .gt off, 3)) (ht : (pc : Int) + off = (tgt : Int)) (kt : 0 < x → zZ X Rg fr lo nL tgt L st Ms φ) (kf : ¬ (0 < x) → zZ X Rg fr lo nL (pc + 3) L st Ms φ) : zZ X Rg fr lo nL pc L (zi x :: st) Ms φ := by
  obtain ⟨p, l, e, s, m, args, below, meth, c, D, cA, ad, A⟩ := X
  obtain ⟨hx, hb, hml, hown, hts, hlk, hK, hA, hE, htr, hex, hret⟩ := F
  exact fun o ho H locs ls hl hP hD hS => lv_if_gt hx hb hd ht (fun h => kt h o ho H locs ls hl hP hD hS) (fun h => kf h o ho H locs ls hl hP hD hS)

theorem zz_icmp_le (F : zFr X cc nL own ret) {x y : Int32} {off : Int} {tgt : Nat} (hd : decode cc pc = .ok (.if_icmp .le off, 3)) (ht : (pc : Int) + off = (tgt : Int)) (kt : x ≤ y → zZ X Rg fr lo nL tgt L st Ms φ) (kf : ¬ (x ≤ y) → zZ X Rg fr lo nL (pc + 3) L st Ms φ) : zZ X Rg fr lo nL pc L (zi y :: zi x :: st) Ms φ := by
  obtain ⟨p, l, e, s, m, args, below, meth, c, D, cA, ad, A⟩ := X
  obtain ⟨hx, hb, hml, hown, hts, hlk, hK, hA, hE, htr, hex, hret⟩ := F
  exact fun o ho H locs ls hl hP hD hS => lv_icmp_le hx hb hd ht (fun h => kt h o ho H locs ls hl hP hD hS) (fun h => kf h o ho H locs ls hl hP hD hS)

theorem zz_if_le (F : zFr X cc nL own ret) {x : Int32} {off : Int} {tgt : Nat} (hd : decode cc pc = .ok (.ifCond .le off, 3)) (ht : (pc : Int) + off = (tgt : Int)) (kt : x ≤ 0 → zZ X Rg fr lo nL tgt L st Ms φ) (kf : ¬ (x ≤ 0) → zZ X Rg fr lo nL (pc + 3) L st Ms φ) : zZ X Rg fr lo nL pc L (zi x :: st) Ms φ := by
  obtain ⟨p, l, e, s, m, args, below, meth, c, D, cA, ad, A⟩ := X
  obtain ⟨hx, hb, hml, hown, hts, hlk, hK, hA, hE, htr, hex, hret⟩ := F
  exact fun o ho H locs ls hl hP hD hS => lv_if_le hx hb hd ht (fun h => kt h o ho H locs ls hl hP hD hS) (fun h => kf h o ho H locs ls hl hP hD hS)

theorem zz_tableOut (F : zFr X cc nL own ret) {dflt lw hi : Int} {offs : Array Int} {len tgt : Nat} {x : Int32} (hd : decode cc pc = .ok (.tableswitch dflt lw hi offs, len)) (h : x.toInt < lw ∨ hi < x.toInt) (ht : (pc : Int) + dflt = (tgt : Int)) (k : zZ X Rg fr lo nL tgt L st Ms φ) : zZ X Rg fr lo nL pc L (zi x :: st) Ms φ := by
  obtain ⟨p, l, e, s, m, args, below, meth, c, D, cA, ad, A⟩ := X
  obtain ⟨hx, hb, hml, hown, hts, hlk, hK, hA, hE, htr, hex, hret⟩ := F
  exact fun o ho H locs ls hl hP hD hS => lv_tableOut hx hb hd h ht (k o ho H locs ls hl hP hD hS)
theorem zz_tableIn (F : zFr X cc nL own ret) {dflt lw hi off : Int} {offs : Array Int} {len tgt : Nat} {x : Int32} (hd : decode cc pc = .ok (.tableswitch dflt lw hi offs, len)) (h1 : ¬ x.toInt < lw) (h2 : ¬ hi < x.toInt) (ho : offs[(x.toInt - lw).toNat]? = some off) (ht : (pc : Int) + off = (tgt : Int)) (k : zZ X Rg fr lo nL tgt L st Ms φ) : zZ X Rg fr lo nL pc L (zi x :: st) Ms φ := by
  obtain ⟨p, l, e, s, m, args, below, meth, c, D, cA, ad, A⟩ := X
  obtain ⟨hx, hb, hml, hown, hts, hlk, hK, hA, hE, htr, hex, hret⟩ := F
  exact fun o ho' H locs ls hl hP hD hS => lv_tableIn hx hb hd h1 h2 ho ht (k o ho' H locs ls hl hP hD hS)

theorem zz_ireturn (F : zFr X cc nL own ret) {x : Int32} (hd : decode cc pc = .ok (.ireturn, 1)) (hr : ret = some .int) (hφ : φ = some (.inl (some (zi x)), Ms)) : zZ X Rg fr lo nL pc L [zi x] Ms φ := by
  obtain ⟨p, l, e, s, m, args, below, meth, c, D, cA, ad, A⟩ := X
  obtain ⟨hx, hb, hml, hown, hts, hlk, hK, hA, hE, htr, hex, hret⟩ := F
  intro o ho H locs ls hl hP hD hS
  rw [hφ] at ho
  cases ho
  exact W.iret hx hb (hret.trans hr) (fun t ht hW => ⟨rfl, by rw [ht]; exact hP, hS.F ht⟩) hS.2.2 hd hlk
theorem zz_zreturn (F : zFr X cc nL own ret) {x : Int32} (hd : decode cc pc = .ok (.ireturn, 1)) (hr : ret = some .boolean) (hn : narrow .boolean (.int x) = .int x) (hφ : φ = some (.inl (some (zi x)), Ms)) : zZ X Rg fr lo nL pc L [zi x] Ms φ := by
  obtain ⟨p, l, e, s, m, args, below, meth, c, D, cA, ad, A⟩ := X
  obtain ⟨hx, hb, hml, hown, hts, hlk, hK, hA, hE, htr, hex, hret⟩ := F
  intro o ho H locs ls hl hP hD hS
  rw [hφ] at ho
  cases ho
  exact W.zret hx hb (hret.trans hr) hn (fun t ht hW => ⟨rfl, by rw [ht]; exact hP, hS.F ht⟩) hS.2.2 hd hlk
theorem zz_lreturn (F : zFr X cc nL own ret) {x : Int64} (hd : decode cc pc = .ok (.lreturn, 1)) (hr : ret = some .long) (hφ : φ = some (.inl (some (zl x)), Ms)) : zZ X Rg fr lo nL pc L [zl x] Ms φ := by
  obtain ⟨p, l, e, s, m, args, below, meth, c, D, cA, ad, A⟩ := X
  obtain ⟨hx, hb, hml, hown, hts, hlk, hK, hA, hE, htr, hex, hret⟩ := F
  intro o ho H locs ls hl hP hD hS
  rw [hφ] at ho
  cases ho
  exact W.lret hx hb (hret.trans hr) (fun t ht hW => ⟨rfl, by rw [ht]; exact hP, hS.F ht⟩) hS.2.2 hd hlk
theorem zz_return (F : zFr X cc nL own ret) (hd : decode cc pc = .ok (.return_, 1)) (hr : ret = none) (hφ : φ = some (.inl none, Ms)) : zZ X Rg fr lo nL pc L [] Ms φ := by
  obtain ⟨p, l, e, s, m, args, below, meth, c, D, cA, ad, A⟩ := X
  obtain ⟨hx, hb, hml, hown, hts, hlk, hK, hA, hE, htr, hex, hret⟩ := F
  intro o ho H locs ls hl hP hD hS
  rw [hφ] at ho
  cases ho
  exact W.vret hx hb (hret.trans hr) (fun t ht hW => ⟨rfl, by rw [ht]; exact hP, hS.F ht⟩) hS.2.2 hd hlk

end ZZ
end
section
/-! ===== rows of the heap ===== -/
/-- the field that entry idx of the class own names: slot o of the class of number ci -/
def zFl (own : String) (idx ci o : Nat) : Prop := ∃ q : vw_C, zcl[ci]? = some q ∧ o < q.2.2 ∧ Cond.fieldLink own idx (q.2.1 o).1 (q.2.1 o).2.1 (q.2.1 o).2.2.1 ∈ zTg
def zFw (own : String) (idx ci o : Nat) (ty : FieldType) : Prop := ∃ q : vw_C, zcl[ci]? = some q ∧ o < q.2.2 ∧ Cond.fieldLink own idx (q.2.1 o).1 (q.2.1 o).2.1 (q.2.1 o).2.2.1 ∈ zTg ∧ (q.2.1 o).2.2.2 = false ∧ parseFieldDescriptor (q.2.1 o).2.2.1 = some ty
/-- of every class: its layout's words, its fields' types and names -/
def zCl (ci : Nat) : Prop := ∀ q : vw_C, zcl[ci]? = some q → (∀ w ∈ u_ws q.1 q.2.1 q.2.2, w ∈ zTg) ∧ (∃ ty0 : Nat → FieldType, ∀ k, k < q.2.2 → parseFieldDescriptor (q.2.1 k).2.2.1 = some (ty0 k)) ∧ ∀ a, a < q.2.2 → ∀ b, b < q.2.2 → a ≠ b → (q.2.1 a).2.1 ≠ (q.2.1 b).2.1
theorem zm_f {w : Cond} (i : Nat) (h : lw_tbl[i]? = some w) (hg : goodWord w = true) : w ∈ zTg := List.mem_filter.mpr ⟨List.mem_of_getElem? h, hg⟩
theorem zm_all {ws : List Cond} (h : ∀ w ∈ ws, w ∈ lw_tbl) (hg : ws.all goodWord = true) : ∀ w ∈ ws, w ∈ zTg := fun w hw => List.mem_filter.mpr ⟨h w hw, List.all_eq_true.mp hg w hw⟩
theorem zsv_i {ad : zR → Nat} {r : Nat} {lk : List Nat} {ty k i o : Nat} {f : Nat → Int32} (hrs : zrs ty k i o = none) (hbo : zbo ty k o = false) : zsv ad r lk ty k i f o = .int (f o) := by
  unfold zsv zrf
  rw [hrs]
  simp [hbo]
theorem zsv_b {ad : zR → Nat} {r : Nat} {lk : List Nat} {ty k i o : Nat} {f : Nat → Int32} (hrs : zrs ty k i o = none) (hbo : zbo ty k o = true) : zsv ad r lk ty k i f o = .int (f o &&& 1) := by
  unfold zsv zrf
  rw [hrs]
  simp [hbo]
theorem zsv_r {ad : zR → Nat} {r : Nat} {lk : List Nat} {ty k i o l' k' i' : Nat} {f : Nat → Int32} (hrs : zrs ty k i o = some (l', k', i')) : zsv ad r lk ty k i f o = .ref (ad ((if l' = 0 then r else lk.getD (l' - 1) r), k', i')) := by
  unfold zsv zrf
  rw [hrs]
  rfl
theorem zsv_map {ad : zR → Nat} {r : Nat} {lk : List Nat} {ty k i o n : Nat} {f : Nat → Int32} (h : o < n) : ((List.range n).map (zsv ad r lk ty k i f))[o]? = some (zsv ad r lk ty k i f o) := by
  rw [List.getElem?_map, List.getElem?_range h]
  rfl
theorem zsv_set {ad : zR → Nat} {r : Nat} {lk : List Nat} {ty k i o n : Nat} {f : Nat → Int32} {x : Int32} {v : Value} (hv : v = zsv ad r lk ty k i (upd f o x) o) : ((List.range n).map (zsv ad r lk ty k i f)).set o v = (List.range n).map (zsv ad r lk ty k i (upd f o x)) := by
  refine List.ext_getElem? fun j => ?_
  rcases Nat.lt_or_ge j n with h | h
  · rw [zsv_map h]
    by_cases hj : j = o
    · subst hj
      rw [List.getElem?_set_self (by simpa using h), hv]
    · rw [List.getElem?_set_ne (Ne.symm hj), zsv_map h]
      unfold zsv
      rw [show upd f o x j = f j from if_neg hj]
  · rw [List.getElem?_eq_none (by simpa using h), List.getElem?_eq_none (by simpa using h)]
section ZH
variable {X : zX} {cc : ByteArray} {nL : Nat} {own : String} {ret : Option FieldType} {Rg : List zD} {fr lo pc : Nat} {L L' : List (Option zV)} {st : List zV} {Ms Ms' : List zM} {φ : Option zO}

theorem zz_getf (F : zFr X cc nL own ret) {idx ci q r k i n : Nat} {σ : zM} (hd : decode cc pc = .ok (.getfield idx, 3)) (hf : zFl own idx ci q) (hcl : zCl ci) (hm : Ms[r]? = some σ) (hi : zin Rg (r, k, i)) (hs : (zsh (zty' Rg r) k).2 = .inl (ci, n)) (hq : q < n) (hrs : zrs (zty' Rg r) k i q = none) (hbo : zbo (zty' Rg r) k q = false) (kk : zZ X Rg fr lo nL (pc + 3) L (zi (σ k i q) :: st) Ms φ) : zZ X Rg fr lo nL pc L (zr r k i :: st) Ms φ := by
  obtain ⟨p, l, e, s, m, args, below, meth, c, D, cA, ad, A⟩ := X
  obtain ⟨hx, hb, hml, hown, hts, hlk, hK, hA, hE, htr, hex, hret⟩ := F
  intro o ho H locs ls hl hP hD hS
  obtain ⟨j, hj⟩ := zw_get (cA := cA) (ad := ad) (Ms := Ms) hi
  rw [zcq_at hm] at hj
  unfold zce at hj
  rw [hs] at hj
  obtain ⟨Q, hQ, hqn, hlink⟩ := hf
  refine va_get hx hb hts (hcl Q hQ).1 hown hK hP j hj hQ q hqn (hts _ hlink) (fun _ h => h) ((zsv_map hq).trans (congrArg some ?_)) hd (kk o ho H locs ls hl hP hD hS)
  exact zsv_i hrs hbo

theorem zz_getb (F : zFr X cc nL own ret) {idx ci q r k i n : Nat} {σ : zM} (hd : decode cc pc = .ok (.getfield idx, 3)) (hf : zFl own idx ci q) (hcl : zCl ci) (hm : Ms[r]? = some σ) (hi : zin Rg (r, k, i)) (hs : (zsh (zty' Rg r) k).2 = .inl (ci, n)) (hq : q < n) (hrs : zrs (zty' Rg r) k i q = none) (hbo : zbo (zty' Rg r) k q = true) (kk : zZ X Rg fr lo nL (pc + 3) L (zi (σ k i q &&& 1) :: st) Ms φ) : zZ X Rg fr lo nL pc L (zr r k i :: st) Ms φ := by
  obtain ⟨p, l, e, s, m, args, below, meth, c, D, cA, ad, A⟩ := X
  obtain ⟨hx, hb, hml, hown, hts, hlk, hK, hA, hE, htr, hex, hret⟩ := F
  intro o ho H locs ls hl hP hD hS
  obtain ⟨j, hj⟩ := zw_get (cA := cA) (ad := ad) (Ms := Ms) hi
  rw [zcq_at hm] at hj
  unfold zce at hj
  rw [hs] at hj
  obtain ⟨Q, hQ, hqn, hlink⟩ := hf
  refine va_get hx hb hts (hcl Q hQ).1 hown hK hP j hj hQ q hqn (hts _ hlink) (fun _ h => h) ((zsv_map hq).trans (congrArg some ?_)) hd (kk o ho H locs ls hl hP hD hS)
  exact zsv_b hrs hbo

theorem zz_getr (F : zFr X cc nL own ret) {idx ci q r k i n : Nat} {σ : zM} {l' k' i' r' : Nat} (hd : decode cc pc = .ok (.getfield idx, 3)) (hf : zFl own idx ci q) (hcl : zCl ci) (hm : Ms[r]? = some σ) (hi : zin Rg (r, k, i)) (hs : (zsh (zty' Rg r) k).2 = .inl (ci, n)) (hq : q < n) (hrs : zrs (zty' Rg r) k i q = some (l', k', i')) (hr : (if l' = 0 then r else (zlk Rg r).getD (l' - 1) r) = r') (kk : zZ X Rg fr lo nL (pc + 3) L (zr r' k' i' :: st) Ms φ) : zZ X Rg fr lo nL pc L (zr r k i :: st) Ms φ := by
  obtain ⟨p, l, e, s, m, args, below, meth, c, D, cA, ad, A⟩ := X
  obtain ⟨hx, hb, hml, hown, hts, hlk, hK, hA, hE, htr, hex, hret⟩ := F
  intro o ho H locs ls hl hP hD hS
  obtain ⟨j, hj⟩ := zw_get (cA := cA) (ad := ad) (Ms := Ms) hi
  rw [zcq_at hm] at hj
  unfold zce at hj
  rw [hs] at hj
  obtain ⟨Q, hQ, hqn, hlink⟩ := hf
  refine va_get hx hb hts (hcl Q hQ).1 hown hK hP j hj hQ q hqn (hts _ hlink) (fun _ h => h) ((zsv_map hq).trans (congrArg some ?_)) hd (kk o ho H locs ls hl hP hD hS)
  exact (zsv_r hrs).trans (by rw [hr]; rfl)

theorem zz_put (F : zFr X cc nL own ret) {idx ci q r k i n : Nat} {σ : zM} {x : Int32} (hd : decode cc pc = .ok (.putfield idx, 3)) (hf : zFw own idx ci q .int) (hcl : zCl ci) (hm : Ms[r]? = some σ) (hi : zin Rg (r, k, i)) (hs : (zsh (zty' Rg r) k).2 = .inl (ci, n)) (hq : q < n) (hrs : zrs (zty' Rg r) k i q = none) (hbo : zbo (zty' Rg r) k q = false) (hM : Ms.set r (zu σ k i q x) = Ms') (kk : zZ X Rg fr lo nL (pc + 3) L st Ms' φ) : zZ X Rg fr lo nL pc L (zi x :: zr r k i :: st) Ms φ := by
  obtain ⟨p, l, e, s, m, args, below, meth, c, D, cA, ad, A⟩ := X
  obtain ⟨hx, hb, hml, hown, hts, hlk, hK, hA, hE, htr, hex, hret⟩ := F
  intro o ho H locs ls hl hP hD hS
  obtain ⟨j, hj⟩ := zw_get (cA := cA) (ad := ad) (Ms := Ms) hi
  have hj0 := hj
  rw [zcq_at hm] at hj
  unfold zce at hj
  rw [hs] at hj
  obtain ⟨Q, hQ, hqn, hlink, hfin, hdsc⟩ := hf
  obtain ⟨hc1, ⟨ty0, hc2⟩, hc3⟩ := hcl Q hQ
  refine va_put hx hb hts hc1 ty0 hc2 hc3 hown hK hP hD hS j hj hQ q hqn (hts _ hlink) (fun _ h => h) hfin (v := .int x) hdsc rfl rfl (by simpa using hq) hd fun H1 locs1 hP1 hD1 hS1 => ?_
  have he : (zwl cA ad Rg Ms).set j (ad (r, k, i), .inr (ci, ((List.range n).map (zsv ad r (zlk Rg r) (zty' Rg r) k i (σ k i))).set q (.int x))) = zwl cA ad Rg Ms' := by
    subst hM
    refine zw_set hD hi hj0 ?_ (fun q' _ hne => zcq_row hm (fun _ _ h => zu_row h) q' hne)
    rw [zcq_here hm, zu_here]
    unfold zce
    rw [hs]
    refine congrArg (fun z => (Sum.inr (ci, z) : va_E)) (zsv_set (x := x) ?_).symm
    rw [zsv_i hrs hbo]
    show Value.int x = Value.int (upd (σ k i) q x q)
    rw [show upd (σ k i) q x q = x from if_pos rfl]
  rw [he] at hP1 hD1
  exact kk o ho H1 locs1 ls hl hP1 hD1 hS1

theorem zz_putb (F : zFr X cc nL own ret) {idx ci q r k i n : Nat} {σ : zM} {x : Int32} (hd : decode cc pc = .ok (.putfield idx, 3)) (hf : zFw own idx ci q .boolean) (hcl : zCl ci) (hm : Ms[r]? = some σ) (hi : zin Rg (r, k, i)) (hs : (zsh (zty' Rg r) k).2 = .inl (ci, n)) (hq : q < n) (hrs : zrs (zty' Rg r) k i q = none) (hbo : zbo (zty' Rg r) k q = true) (hn01 : x = 0 ∨ x = 1) (hM : Ms.set r (zu σ k i q x) = Ms') (kk : zZ X Rg fr lo nL (pc + 3) L st Ms' φ) : zZ X Rg fr lo nL pc L (zi x :: zr r k i :: st) Ms φ := by
  obtain ⟨p, l, e, s, m, args, below, meth, c, D, cA, ad, A⟩ := X
  obtain ⟨hx, hb, hml, hown, hts, hlk, hK, hA, hE, htr, hex, hret⟩ := F
  intro o ho H locs ls hl hP hD hS
  have hn : x &&& 1 = x := by rcases hn01 with h | h <;> (rw [h]; rfl)
  obtain ⟨j, hj⟩ := zw_get (cA := cA) (ad := ad) (Ms := Ms) hi
  have hj0 := hj
  rw [zcq_at hm] at hj
  unfold zce at hj
  rw [hs] at hj
  obtain ⟨Q, hQ, hqn, hlink, hfin, hdsc⟩ := hf
  obtain ⟨hc1, ⟨ty0, hc2⟩, hc3⟩ := hcl Q hQ
  refine va_put hx hb hts hc1 ty0 hc2 hc3 hown hK hP hD hS j hj hQ q hqn (hts _ hlink) (fun _ h => h) hfin (v := .int x) hdsc (by show Value.int (x &&& 1) = Value.int x; rw [hn]) (by first | exact decide_eq_true hn01 | simpa [fits] using hn01) (by simpa using hq) hd fun H1 locs1 hP1 hD1 hS1 => ?_
  have he : (zwl cA ad Rg Ms).set j (ad (r, k, i), .inr (ci, ((List.range n).map (zsv ad r (zlk Rg r) (zty' Rg r) k i (σ k i))).set q (.int x))) = zwl cA ad Rg Ms' := by
    subst hM
    refine zw_set hD hi hj0 ?_ (fun q' _ hne => zcq_row hm (fun _ _ h => zu_row h) q' hne)
    rw [zcq_here hm, zu_here]
    unfold zce
    rw [hs]
    refine congrArg (fun z => (Sum.inr (ci, z) : va_E)) (zsv_set (x := x) ?_).symm
    rw [zsv_b hrs hbo]
    show Value.int x = Value.int (upd (σ k i) q x q &&& 1)
    rw [show upd (σ k i) q x q = x from if_pos rfl, hn]
  rw [he] at hP1 hD1
  exact kk o ho H1 locs1 ls hl hP1 hD1 hS1

theorem zz_ial (F : zFr X cc nL own ret) {r k i n : Nat} {σ : zM} {j : Int32} {jn : Nat} (hd : decode cc pc = .ok (.iaload, 1)) (hm : Ms[r]? = some σ) (hi : zin Rg (r, k, i)) (hs : (zsh (zty' Rg r) k).2 = .inr (.inl n)) (hin : vp_in j n) (hjn : j.toNatClampNeg = jn) (kk : zZ X Rg fr lo nL (pc + 1) L (zi (σ k i jn) :: st) Ms φ) : zZ X Rg fr lo nL pc L (zi j :: zr r k i :: st) Ms φ := by
  obtain ⟨p, l, e, s, m, args, below, meth, c, D, cA, ad, A⟩ := X
  obtain ⟨hx, hb, hml, hown, hts, hlk, hK, hA, hE, htr, hex, hret⟩ := F
  subst hjn
  intro o ho H locs ls hl hP hD hS
  obtain ⟨q0, hj⟩ := zw_get (cA := cA) (ad := ad) (Ms := Ms) hi
  rw [zcq_at hm] at hj
  unfold zce at hj
  rw [hs] at hj
  exact va_iald hx hb hK hP q0 0 hj (ztl_at (by decide)) hin hd (kk o ho H locs ls hl hP hD hS)
theorem zz_ias (F : zFr X cc nL own ret) {r k i n : Nat} {σ : zM} {j x : Int32} {jn : Nat} (hd : decode cc pc = .ok (.iastore, 1)) (hm : Ms[r]? = some σ) (hi : zin Rg (r, k, i)) (hs : (zsh (zty' Rg r) k).2 = .inr (.inl n)) (hin : vp_in j n) (hjn : j.toNatClampNeg = jn) (hM : Ms.set r (zu σ k i jn x) = Ms') (kk : zZ X Rg fr lo nL (pc + 1) L st Ms' φ) : zZ X Rg fr lo nL pc L (zi x :: zi j :: zr r k i :: st) Ms φ := by
  obtain ⟨p, l, e, s, m, args, below, meth, c, D, cA, ad, A⟩ := X
  obtain ⟨hx, hb, hml, hown, hts, hlk, hK, hA, hE, htr, hex, hret⟩ := F
  subst hjn
  intro o ho H locs ls hl hP hD hS
  obtain ⟨q0, hj⟩ := zw_get (cA := cA) (ad := ad) (Ms := Ms) hi
  have hj0 := hj
  rw [zcq_at hm] at hj
  unfold zce at hj
  rw [hs] at hj
  refine va_iast hx hb hK hP hD hS q0 0 hj (ztl_at (by decide)) hin hd fun H1 locs1 hP1 hD1 hS1 => ?_
  have he : (zwl cA ad Rg Ms).set q0 (ad (r, k, i), .inl (cA 0, n, .inl (upd (σ k i) j.toNatClampNeg x))) = zwl cA ad Rg Ms' := by
    subst hM
    refine zw_set hD hi hj0 ?_ (fun q' _ hne => zcq_row hm (fun _ _ h => zu_row h) q' hne)
    rw [zcq_here hm, zu_here]
    unfold zce
    rw [hs]
  have hP2 : va_P D zcl ((zwl cA ad Rg Ms).set q0 (ad (r, k, i), .inl (cA 0, n, .inl (upd (σ k i) j.toNatClampNeg x)))) H1 := hP1
  rw [he] at hP2
  exact kk o ho H1 locs1 ls hl hP2 (zw_D Ms' hD) hS1
theorem zz_aal (F : zFr X cc nL own ret) {r k i n ca k' i' : Nat} {σ : zM} {j : Int32} {jn : Nat} (hd : decode cc pc = .ok (.aaload, 1)) (hm : Ms[r]? = some σ) (hi : zin Rg (r, k, i)) (hs : (zsh (zty' Rg r) k).2 = .inr (.inr (n, ca))) (hca : ca < zTn) (hrf : (zty ca).isReference = true) (hin : vp_in j n) (hjn : j.toNatClampNeg = jn) (hrs : zrs (zty' Rg r) k i jn = some (0, k', i')) (kk : zZ X Rg fr lo nL (pc + 1) L (zr r k' i' :: st) Ms φ) : zZ X Rg fr lo nL pc L (zi j :: zr r k i :: st) Ms φ := by
  obtain ⟨p, l, e, s, m, args, below, meth, c, D, cA, ad, A⟩ := X
  obtain ⟨hx, hb, hml, hown, hts, hlk, hK, hA, hE, htr, hex, hret⟩ := F
  subst hjn
  intro o ho H locs ls hl hP hD hS
  obtain ⟨q0, hj⟩ := zw_get (cA := cA) (ad := ad) (Ms := Ms) hi
  rw [zcq_at hm] at hj
  unfold zce at hj
  rw [hs] at hj
  have hlt : j.toNatClampNeg < n := Nat.not_le.mp fun q => hin (Or.inr q)
  have hv : zrf ad r (zlk Rg r) (zty' Rg r) k i j.toNatClampNeg = some (ad (r, k', i')) := by
    unfold zrf
    rw [hrs]
    rfl
  exact W.aald (v := .ref (ad (r, k', i'))) (ty := zty ca) hx hb (hP q0 _ hj) ((hK.2 ca _ (ztl_at hca)).1 n (fun j => va_rf (zrf ad r (zlk Rg r) (zty' Rg r) k i j))) hrf (fun q => by cases q) (by show ¬ (j < 0 ∨ (arrV _ _ _).slots.size ≤ _); rw [arrV_size]; exact hin) (by show (arrV _ _ _).slots[_]? = _; rw [arrV_read _ _ hlt, hv]; rfl) rfl rfl hd (kk o ho H locs ls hl hP hD hS)
theorem zz_gets (F : zFr X cc nL own ret) {idx j : Nat} {q : String × String × List Int32} (hd : decode cc pc = .ok (.getstatic idx, 3)) (hq : zst[j]? = some q) (hw : Cond.fieldLink own idx q.1 q.2.1 "[I" ∈ zTg) (kk : zZ X Rg fr lo nL (pc + 3) L (zr (100 + j) 0 0 :: st) Ms φ) : zZ X Rg fr lo nL pc L st Ms φ := by
  obtain ⟨p, l, e, s, m, args, below, meth, c, D, cA, ad, A⟩ := X
  obtain ⟨hx, hb, hml, hown, hts, hlk, hK, hA, hE, htr, hex, hret⟩ := F
  intro o ho H locs ls hl hP hD hS
  exact va_gets hx hb (hE.1 j q hq).1 hS hown (hts _ hw) (fun _ h => h) hd (kk o ho H locs ls hl hP hD hS)
theorem zz_getsN (F : zFr X cc nL own ret) {idx j : Nat} {host : String} {q : String × String × List Int32} (hd : decode cc pc = .ok (.getstatic idx, 3)) (hq : zst[j]? = some q) (hw : Cond.fieldLinkNest own idx q.1 q.2.1 "[I" host ∈ zNws) (kk : zZ X Rg fr lo nL (pc + 3) L (zr (100 + j) 0 0 :: st) Ms φ) : zZ X Rg fr lo nL pc L st Ms φ := by
  obtain ⟨p, l, e, s, m, args, below, meth, c, D, cA, ad, A⟩ := X
  obtain ⟨hx, hb, hml, hown, hts, hlk, hK, hA, hE, htr, hex, hret⟩ := F
  intro o ho H locs ls hl hP hD hS
  exact va_getsN hx hb (hE.1 j q hq).1 hS hown (va_Nw.use rfl (hE.2.2.1 _ hw)) (fun _ h => h) hd (kk o ho H locs ls hl hP hD hS)
theorem zz_tld (F : zFr X cc nL own ret) {j r : Nat} {q : String × String × List Int32} {x : Int32} {jn : Nat} (hd : decode cc pc = .ok (.iaload, 1)) (hr : r = 100 + j) (hq : zst[j]? = some q) (hin : vp_in x q.2.2.length) (hjn : x.toNatClampNeg = jn) (kk : zZ X Rg fr lo nL (pc + 1) L (zi (q.2.2.getD jn 0) :: st) Ms φ) : zZ X Rg fr lo nL pc L (zi x :: zr r 0 0 :: st) Ms φ := by
  obtain ⟨p, l, e, s, m, args, below, meth, c, D, cA, ad, A⟩ := X
  obtain ⟨hx, hb, hml, hown, hts, hlk, hK, hA, hE, htr, hex, hret⟩ := F
  subst hjn
  intro o ho H locs ls hl hP hD hS
  subst hr
  exact va_ti hx hb (hE.1 j q hq).2 hS hin rfl hd (kk o ho H locs ls hl hP hD hS)
theorem zz_tlen (F : zFr X cc nL own ret) {j r : Nat} {q : String × String × List Int32} {v : Int32} (hd : decode cc pc = .ok (.arraylength, 1)) (hr : r = 100 + j) (hq : zst[j]? = some q) (hv : Int32.ofNat q.2.2.length = v) (kk : zZ X Rg fr lo nL (pc + 1) L (zi v :: st) Ms φ) : zZ X Rg fr lo nL pc L (zr r 0 0 :: st) Ms φ := by
  obtain ⟨p, l, e, s, m, args, below, meth, c, D, cA, ad, A⟩ := X
  obtain ⟨hx, hb, hml, hown, hts, hlk, hK, hA, hE, htr, hex, hret⟩ := F
  intro o ho H locs ls hl hP hD hS
  subst hr
  exact va_tlen hx hb (hE.1 j q hq).2 hS hv hd (kk o ho H locs ls hl hP hD hS)
theorem zz_alen (F : zFr X cc nL own ret) {r k i n : Nat} {σ : zM} {v : Int32} (hd : decode cc pc = .ok (.arraylength, 1)) (hm : Ms[r]? = some σ) (hi : zin Rg (r, k, i)) (hs : (zsh (zty' Rg r) k).2 = .inr (.inl n)) (hv : Int32.ofNat n = v) (kk : zZ X Rg fr lo nL (pc + 1) L (zi v :: st) Ms φ) : zZ X Rg fr lo nL pc L (zr r k i :: st) Ms φ := by
  obtain ⟨p, l, e, s, m, args, below, meth, c, D, cA, ad, A⟩ := X
  obtain ⟨hx, hb, hml, hown, hts, hlk, hK, hA, hE, htr, hex, hret⟩ := F
  intro o ho H locs ls hl hP hD hS
  obtain ⟨q0, hj⟩ := zw_get (cA := cA) (ad := ad) (Ms := Ms) hi
  rw [zcq_at hm] at hj
  unfold zce at hj
  rw [hs] at hj
  exact va_alen hx hb hK hP q0 0 hj (ty := .int) (ztl_at (by decide)) hv hd (kk o ho H locs ls hl hP hD hS)

theorem zz_max (F : zFr X cc nL own ret) {idx : Nat} {x y : Int32} (hd : decode cc pc = .ok (.invokestatic idx, 3)) (hw : Cond.methodLink own idx Lib.Math.max.name ∈ zTg) (hwM : Cond.static Lib.Math.max.name ∈ zTg ∧ Cond.initialized "java/lang/Math" ∈ zTg ∧ Cond.code Lib.Math.max.name Lib.Math.max.code 2 (some .int) ∈ zTg) (hfr : 1 ≤ fr) (hlo : zcs st + 13 ≤ lo) (kk : zZ X Rg fr lo nL (pc + 3) L (zi (zmax x y) :: st) Ms φ) : zZ X Rg fr lo nL pc L (zi y :: zi x :: st) Ms φ := by
  obtain ⟨p, l, e, s, m, args, below, meth, c, D, cA, ad, A⟩ := X
  obtain ⟨hx, hb, hml, hown, hts, hlk, hK, hA, hE, htr, hex, hret⟩ := F
  intro o ho H locs ls hl hP hD hS
  exact va_mmax hx hb (hml.trans hl.1.symm) hown (hts _ hw) (hts _ hwM.1) (hts _ hwM.2.1) (hts _ hwM.2.2) (by rw [zrm_f]; exact hfr) (by rw [zcs_t, zrm_l]; exact hlo) (Nat.zero_le _) (Nat.zero_le _) hd (kk o ho H locs ls hl hP hD hS)

theorem zz_min (F : zFr X cc nL own ret) {idx : Nat} {x y : Int32} (hd : decode cc pc = .ok (.invokestatic idx, 3)) (hw : Cond.methodLink own idx Lib.Math.min.name ∈ zTg) (hwM : Cond.static Lib.Math.min.name ∈ zTg ∧ Cond.initialized "java/lang/Math" ∈ zTg ∧ Cond.code Lib.Math.min.name Lib.Math.min.code 2 (some .int) ∈ zTg) (hfr : 1 ≤ fr) (hlo : zcs st + 13 ≤ lo) (kk : zZ X Rg fr lo nL (pc + 3) L (zi (zmin x y) :: st) Ms φ) : zZ X Rg fr lo nL pc L (zi y :: zi x :: st) Ms φ := by
  obtain ⟨p, l, e, s, m, args, below, meth, c, D, cA, ad, A⟩ := X
  obtain ⟨hx, hb, hml, hown, hts, hlk, hK, hA, hE, htr, hex, hret⟩ := F
  intro o ho H locs ls hl hP hD hS
  exact va_mmin hx hb (hml.trans hl.1.symm) hown (hts _ hw) (hts _ hwM.1) (hts _ hwM.2.1) (hts _ hwM.2.2) (by rw [zrm_f]; exact hfr) (by rw [zcs_t, zrm_l]; exact hlo) (Nat.zero_le _) (Nat.zero_le _) hd (kk o ho H locs ls hl hP hD hS)

theorem zz_abs (F : zFr X cc nL own ret) {idx : Nat} {x : Int32} (hd : decode cc pc = .ok (.invokestatic idx, 3)) (hw : Cond.methodLink own idx Lib.Math.abs.name ∈ zTg) (hwM : Cond.static Lib.Math.abs.name ∈ zTg ∧ Cond.initialized "java/lang/Math" ∈ zTg ∧ Cond.code Lib.Math.abs.name Lib.Math.abs.code 1 (some .int) ∈ zTg) (hfr : 1 ≤ fr) (hlo : zcs st + 13 ≤ lo) (kk : zZ X Rg fr lo nL (pc + 3) L (zi (zabs x) :: st) Ms φ) : zZ X Rg fr lo nL pc L (zi x :: st) Ms φ := by
  obtain ⟨p, l, e, s, m, args, below, meth, c, D, cA, ad, A⟩ := X
  obtain ⟨hx, hb, hml, hown, hts, hlk, hK, hA, hE, htr, hex, hret⟩ := F
  intro o ho H locs ls hl hP hD hS
  exact va_mabs hx hb (hml.trans hl.1.symm) hown (hts _ hw) (hts _ hwM.1) (hts _ hwM.2.1) (hts _ hwM.2.2) (by rw [zrm_f]; exact hfr) (by rw [zcs_t, zrm_l]; exact hlo) (Nat.zero_le _) (Nat.zero_le _) hd (kk o ho H locs ls hl hP hD hS)

theorem zz_copy (F : zFr X cc nL own ret) {idx r0 k0 i0 n0 r1 k1 i1 n1 : Nat} {σ0 σ1 : zM} {sp dp n : Int32} (hd : decode cc pc = .ok (.invokestatic idx, 3)) (hw : Cond.methodLink own idx arraycopyName ∈ zTg) (hwM : Cond.native arraycopyName ∈ zTg ∧ Cond.static arraycopyName ∈ zTg ∧ Cond.initialized "java/lang/System" ∈ zTg)
    (hm0 : Ms[r0]? = some σ0) (hi0 : zin Rg (r0, k0, i0)) (hs0 : (zsh (zty' Rg r0) k0).2 = .inr (.inl n0)) (hm1 : Ms[r1]? = some σ1) (hi1 : zin Rg (r1, k1, i1)) (hs1 : (zsh (zty' Rg r1) k1).2 = .inr (.inl n1)) (h1 : ¬ sp < 0) (h2 : ¬ dp < 0) (h3 : ¬ n < 0) (h4 : sp.toNatClampNeg + n.toNatClampNeg ≤ n0) (h5 : dp.toNatClampNeg + n.toNatClampNeg ≤ n1)
    (hfr : 1 ≤ fr) (hlo : zcs st + (nativeFrameWords "java/lang/System" "arraycopy" 5 + 11) ≤ lo) (hM : Ms.set r1 (zur σ1 k1 i1 (va_cpy (σ0 k0 i0) (σ1 k1 i1) sp.toNatClampNeg dp.toNatClampNeg n.toNatClampNeg)) = Ms') (kk : zZ X Rg fr lo nL (pc + 3) L st Ms' φ) : zZ X Rg fr lo nL pc L (zi n :: zi dp :: zr r1 k1 i1 :: zi sp :: zr r0 k0 i0 :: st) Ms φ := by
  obtain ⟨p, l, e, s, m, args, below, meth, c, D, cA, ad, A⟩ := X
  obtain ⟨hx, hb, hml, hown, hts, hlk, hK, hA, hE, htr, hex, hret⟩ := F
  intro o ho H locs ls hl hP hD hS
  obtain ⟨q0, hj⟩ := zw_get (cA := cA) (ad := ad) (Ms := Ms) hi0
  obtain ⟨q1, hj1⟩ := zw_get (cA := cA) (ad := ad) (Ms := Ms) hi1
  have hj0 := hj1
  rw [zcq_at hm0] at hj
  rw [zcq_at hm1] at hj1
  unfold zce at hj hj1
  rw [hs0] at hj
  rw [hs1] at hj1
  refine va_copyi hx hb (hml.trans hl.1.symm) hown (hts _ hw) (hts _ hwM.1) (hts _ hwM.2.1) (hts _ hwM.2.2) hK hP hD hS q0 q1 0 0 hj hj1 (ty := .int) (ztl_at (by decide)) (ztl_at (by decide)) rfl h1 h2 h3 h4 h5 (fun i _ => rfl) (by rw [zrm_f]; exact hfr) (by rw [zcs_t, zrm_l]; exact hlo) hd fun H1 locs1 hP1 hD1 hS1 => ?_
  have he : (zwl cA ad Rg Ms).set q1 (ad (r1, k1, i1), .inl (cA 0, n1, .inl (va_cpy (σ0 k0 i0) (σ1 k1 i1) sp.toNatClampNeg dp.toNatClampNeg n.toNatClampNeg))) = zwl cA ad Rg Ms' := by
    subst hM
    refine zw_set hD hi1 hj0 ?_ (fun q' _ hne => zcq_row hm1 (fun _ _ h => zur_row h) q' hne)
    rw [zcq_here hm1, zur_here]
    unfold zce
    rw [hs1]
  rw [he] at hP1
  exact kk o ho H1 locs1 ls hl hP1 (zw_D Ms' hD) hS1
/-- throw new E("text") -/
theorem zz_throw (F : zFr X cc nL own ret) {cls text : String} {ik is ic : Nat} (d0 : decode cc pc = .ok (.new ik, 3)) (d3 : decode cc (pc + 3) = .ok (.dup, 1)) (d4 : decode cc (pc + 4) = .ok (.ldc is, 2)) (d6 : decode cc (pc + 6) = .ok (.invokespecial ic, 3)) (d9 : decode cc (pc + 9) = .ok (.athrow, 1))
    (hcls : Bundle.fit cls = true) (hk : Cond.classLink own ik cls ∈ zTg ∧ Cond.initialized cls ∈ zTg) (hstr : (own, is, text) ∈ zstr) (hg1 : ∀ w ∈ (vx_atS own ic cls ["java/lang/RuntimeException", "java/lang/Exception"]).filter goodWord, w ∈ zTg) (hg2 : ∀ w ∈ (vx_atS own ic cls ["java/lang/RuntimeException", "java/lang/Exception"]).filter (fun w => !goodWord w), w ∈ zNws)
    (hgood : ∀ w ∈ Cond.classLink own ik cls :: Cond.initialized cls :: vx_atS own ic cls ["java/lang/RuntimeException", "java/lang/Exception"], vx_ot w = true) (hfr : 5 < fr) (hlo : zcs st + 82 ≤ lo) (hφ : φ = some (.inr cls, Ms)) : zZ X Rg fr lo nL pc L st Ms φ := by
  obtain ⟨p, l, e, s, m, args, below, meth, c, D, cA, ad, A⟩ := X
  obtain ⟨hx, hb, hml, hown, hts, hlk, hK, hA, hE, htr, hex, hret⟩ := F
  intro o ho H locs ls hl hP hD hS
  rw [hφ] at ho
  cases ho
  obtain ⟨sa, hsa⟩ := hE.2.1 _ hstr
  refine vx_throwS hx hb htr (names := ["java/lang/RuntimeException", "java/lang/Exception"]) (A := A) (sa := sa) hown hcls (by decide) (hts _ hk.1) (hts _ hk.2) hsa (vx_hat (B := zNws) (fun w hw => hts w (hg1 w hw)) hg2 (fun w hw => va_Nw.use (zNw_on (List.all_eq_true.mp zNws_ok w hw)) (hE.2.2.1 w hw))) hgood hE.2.2.2.1 hE.2.2.2.2 hS (hl.1.trans hml.symm) d0 d3 d4 d6 d9 (fun x hx => (hex x hx).elim) (by exact hfr) (by rw [zcs_t]; exact hlo) (by exact Nat.le_refl _) (by exact Nat.le_refl _) hlk ?_ hS.2.2 (by exact Nat.le_refl _) (by exact Nat.le_refl _)
  intro t hal hsz hold
  exact ⟨rfl, hP.kept fun j x hx => hold x.1 ((hP j x hx).lt), Nat.le_trans hS.1 hsz, fun q h1 h2 => (hold q (Nat.lt_of_lt_of_le h1 hS.1)).trans (hS.2.1 q h1 h2)⟩
/-- throw new E("text") -/
theorem zz_throwW (F : zFr X cc nL own ret) {cls text : String} {ik is ic : Nat} (d0 : decode cc pc = .ok (.new ik, 3)) (d3 : decode cc (pc + 3) = .ok (.dup, 1)) (d4 : decode cc (pc + 4) = .ok (.ldc_w is, 3)) (d6 : decode cc (pc + 7) = .ok (.invokespecial ic, 3)) (d9 : decode cc (pc + 10) = .ok (.athrow, 1))
    (hcls : Bundle.fit cls = true) (hk : Cond.classLink own ik cls ∈ zTg ∧ Cond.initialized cls ∈ zTg) (hstr : (own, is, text) ∈ zstr) (hg1 : ∀ w ∈ (vx_atS own ic cls ["java/lang/RuntimeException", "java/lang/Exception"]).filter goodWord, w ∈ zTg) (hg2 : ∀ w ∈ (vx_atS own ic cls ["java/lang/RuntimeException", "java/lang/Exception"]).filter (fun w => !goodWord w), w ∈ zNws)
    (hgood : ∀ w ∈ Cond.classLink own ik cls :: Cond.initialized cls :: vx_atS own ic cls ["java/lang/RuntimeException", "java/lang/Exception"], vx_ot w = true) (hfr : 5 < fr) (hlo : zcs st + 82 ≤ lo) (hφ : φ = some (.inr cls, Ms)) : zZ X Rg fr lo nL pc L st Ms φ := by
  obtain ⟨p, l, e, s, m, args, below, meth, c, D, cA, ad, A⟩ := X
  obtain ⟨hx, hb, hml, hown, hts, hlk, hK, hA, hE, htr, hex, hret⟩ := F
  intro o ho H locs ls hl hP hD hS
  rw [hφ] at ho
  cases ho
  obtain ⟨sa, hsa⟩ := hE.2.1 _ hstr
  refine vx_throwSW hx hb htr (names := ["java/lang/RuntimeException", "java/lang/Exception"]) (A := A) (sa := sa) hown hcls (by decide) (hts _ hk.1) (hts _ hk.2) hsa (vx_hat (B := zNws) (fun w hw => hts w (hg1 w hw)) hg2 (fun w hw => va_Nw.use (zNw_on (List.all_eq_true.mp zNws_ok w hw)) (hE.2.2.1 w hw))) hgood hE.2.2.2.1 hE.2.2.2.2 hS (hl.1.trans hml.symm) d0 d3 d4 d6 d9 (fun x hx => (hex x hx).elim) (by exact hfr) (by rw [zcs_t]; exact hlo) (by exact Nat.le_refl _) (by exact Nat.le_refl _) hlk ?_ hS.2.2 (by exact Nat.le_refl _) (by exact Nat.le_refl _)
  intro t hal hsz hold
  exact ⟨rfl, hP.kept fun j x hx => hold x.1 ((hP j x hx).lt), Nat.le_trans hS.1 hsz, fun q h1 h2 => (hold q (Nat.lt_of_lt_of_le h1 hS.1)).trans (hS.2.1 q h1 h2)⟩

theorem zb01 (v : Int32) : v &&& 1 = 0 ∨ v &&& 1 = 1 := by
  obtain ⟨j, hj, e⟩ := pk_andE v (m := 1) 1 (by decide)
  rcases (show j = 0 ∨ j = 1 by omega) with rfl | rfl
  · exact Or.inl e
  · exact Or.inr e
end ZH
end
section
/-! ===== calls ===== -/
/-- a callee's place, seen by the caller: ρ names the caller's region of each of the callee's -/
def zmq (ρ : List Nat) (q : zR) : zR := (if q.1 < 100 then ρ.getD q.1 0 else q.1, q.2.1, q.2.2)
def zmv (ρ : List Nat) : zV → zV
  | .inl q => .inl (zmq ρ q)
  | .inr x => .inr x
theorem zt_mv (ad : zR → Nat) (ρ : List Nat) (v : zV) : zt (fun q => ad (zmq ρ q)) v = zt ad (zmv ρ v) := by
  rcases v with q | x | x <;> rfl
theorem zt_mvs (ad : zR → Nat) (ρ : List Nat) (vs : List zV) : vs.map (zt fun q => ad (zmq ρ q)) = (vs.map (zmv ρ)).map (zt ad) := by
  rw [List.map_map]
  exact List.map_congr_left fun v _ => zt_mv ad ρ v
def zRel (ρ : List Nat) (Rg Rg' : List zD) : Prop := Rg'.length ≤ 100 ∧ ρ.length = Rg'.length ∧
  (∀ r, r < Rg'.length → ρ.getD r 0 < Rg.length ∧ zty' Rg' r = zty' Rg (ρ.getD r 0) ∧ (zlk Rg' r).map (fun x => ρ.getD x 0) = zlk Rg (ρ.getD r 0) ∧ ∀ x ∈ zlk Rg' r, x < 100) ∧
  ∀ r, r < Rg'.length → ∀ r2, r2 < Rg'.length → ρ.getD r 0 = ρ.getD r2 0 → r = r2
theorem zmq_in {ρ : List Nat} {Rg Rg' : List zD} (h : zRel ρ Rg Rg') {q : zR} (hq : zin Rg' q) : zin Rg (zmq ρ q) := by
  obtain ⟨h1, h2, h3⟩ := hq
  obtain ⟨g1, -, g3, -⟩ := h
  obtain ⟨a1, a2, -, -⟩ := g3 _ h1
  unfold zmq
  rw [if_pos (Nat.lt_of_lt_of_le h1 g1)]
  exact ⟨a1, h2, by dsimp only; rw [← a2]; exact h3⟩
theorem zmq_inj {ρ : List Nat} {Rg Rg' : List zD} (h : zRel ρ Rg Rg') {q q' : zR} (hq : zin Rg' q) (hq' : zin Rg' q') (e : zmq ρ q = zmq ρ q') : q = q' := by
  obtain ⟨g1, -, -, g4⟩ := h
  obtain ⟨r, k, i⟩ := q
  obtain ⟨r', k', i'⟩ := q'
  have h1 : r < Rg'.length := hq.1
  have h2 : r' < Rg'.length := hq'.1
  unfold zmq at e
  dsimp only at e
  rw [if_pos (Nat.lt_of_lt_of_le h1 g1), if_pos (Nat.lt_of_lt_of_le h2 g1)] at e
  have e1 := g4 r h1 r' h2 (congrArg Prod.fst e)
  have e2 := congrArg Prod.snd e
  rw [e1]
  exact congrArg (Prod.mk r') e2
theorem zcq_mq {cA : Nat → ClassId} {ad : zR → Nat} {ρ : List Nat} {Rg Rg' : List zD} {Ms Ms' : List zM} (h : zRel ρ Rg Rg') {q : zR} (hq : zin Rg' q) (hM : Ms'.getD q.1 zm0 = Ms.getD (ρ.getD q.1 0) zm0) : zcq cA (fun q => ad (zmq ρ q)) Rg' Ms' q = zcq cA ad Rg Ms (zmq ρ q) := by
  obtain ⟨g1, g2, g3, -⟩ := h
  obtain ⟨r, k, i⟩ := q
  have h1 : r < Rg'.length := hq.1
  have h100 : r < 100 := Nat.lt_of_lt_of_le h1 g1
  obtain ⟨a1, a2, a3, a4⟩ := g3 _ h1
  dsimp only at hM
  generalize hr2 : ρ.getD r 0 = r2 at *
  have hz : zmq ρ (r, k, i) = (r2, k, i) := by
    unfold zmq
    dsimp only
    rw [if_pos h100, hr2]
  rw [hz]
  unfold zcq
  dsimp only
  rw [hM, a2]
  have hzrf : ∀ (ty k i o : Nat), zrf (fun q => ad (zmq ρ q)) r (zlk Rg' r) ty k i o = zrf ad r2 (zlk Rg r2) ty k i o := by
    intro ty k i o
    unfold zrf
    cases zrs ty k i o with
    | none => rfl
    | some q =>
      obtain ⟨l', k', i'⟩ := q
      show some (ad (zmq ρ _)) = some (ad _)
      unfold zmq
      dsimp only
      by_cases hl : l' = 0
      · rw [if_pos hl, if_pos hl, if_pos h100, hr2]
      · rw [if_neg hl, if_neg hl, ← a3]
        have e1 : ((zlk Rg' r).map fun x => ρ.getD x 0).getD (l' - 1) r2 = ρ.getD ((zlk Rg' r).getD (l' - 1) r) 0 := by
          rw [List.getD_eq_getElem?_getD] at hr2
          simp only [List.getD_eq_getElem?_getD, List.getElem?_map]
          cases hx : (zlk Rg' r)[l' - 1]? with
          | none => exact hr2.symm
          | some x => rfl
        have e2 : (zlk Rg' r).getD (l' - 1) r < 100 := by
          rw [List.getD_eq_getElem?_getD]
          cases hx : (zlk Rg' r)[l' - 1]? with
          | none => exact h100
          | some x => exact a4 x (List.mem_of_getElem? hx)
        rw [if_pos e2, e1]
  have hzsv : ∀ (ty k i : Nat) (f : Nat → Int32), zsv (fun q => ad (zmq ρ q)) r (zlk Rg' r) ty k i f = zsv ad r2 (zlk Rg r2) ty k i f := by
    intro ty k i f
    funext o
    unfold zsv
    rw [hzrf]
  unfold zce
  rw [show zrf (fun q => ad (zmq ρ q)) r (zlk Rg' r) (zty' Rg r2) k i = zrf ad r2 (zlk Rg r2) (zty' Rg r2) k i from funext fun o => hzrf _ _ _ o, hzsv]
theorem zids_nodup (Rg : List zD) : (zids Rg).Nodup := by
  unfold zids List.Nodup
  rw [List.pairwise_flatMap]
  refine ⟨fun r _ => ?_, ?_⟩
  · rw [List.pairwise_flatMap]
    refine ⟨fun k _ => ?_, ?_⟩
    · rw [List.pairwise_map]
      exact List.nodup_range.imp fun h e => h (congrArg (fun q : zR => q.2.2) e)
    · refine List.nodup_range.imp fun h x hx y hy e => ?_
      obtain ⟨i, -, rfl⟩ := List.mem_map.mp hx
      obtain ⟨j, -, rfl⟩ := List.mem_map.mp hy
      exact h (congrArg (fun q : zR => q.2.1) e)
  · refine List.nodup_range.imp fun h x hx y hy e => ?_
    obtain ⟨k, -, hx⟩ := List.mem_flatMap.mp hx
    obtain ⟨k', -, hy⟩ := List.mem_flatMap.mp hy
    obtain ⟨i, -, rfl⟩ := List.mem_map.mp hx
    obtain ⟨j, -, rfl⟩ := List.mem_map.mp hy
    exact h (congrArg (fun q : zR => q.1) e)
theorem zids_nd {Rg : List zD} {i j : Nat} {q : zR} (hi : (zids Rg)[i]? = some q) (hj : (zids Rg)[j]? = some q) : i = j :=
  (List.getElem?_inj (List.getElem?_eq_some_iff.mp hi).1 (zids_nodup Rg)).mp (hi.trans hj.symm)
/-- the callee's world out of the caller's -/
theorem zc_P {D : va_G} {cA : Nat → ClassId} {ad : zR → Nat} {ρ : List Nat} {Rg Rg' : List zD} {Ms Ms' : List zM} {H : Heap} (h : zRel ρ Rg Rg') (hM : ∀ r, r < Rg'.length → Ms'.getD r zm0 = Ms.getD (ρ.getD r 0) zm0) (hP : va_P D zcl (zwl cA ad Rg Ms) H) : va_P D zcl (zwl cA (fun q => ad (zmq ρ q)) Rg' Ms') H := by
  intro j x hx
  obtain ⟨q, -, hq, rfl⟩ := zw_of hx
  obtain ⟨j2, hj2⟩ := zw_get (cA := cA) (ad := ad) (Ms := Ms) (zmq_in h hq)
  rw [zcq_mq (Ms := Ms) h hq (hM _ hq.1)]
  exact hP j2 _ hj2
theorem zc_D {A : Nat → Prop} {cA : Nat → ClassId} {ad : zR → Nat} {ρ : List Nat} {Rg Rg' : List zD} {Ms : List zM} (Ms' : List zM) (h : zRel ρ Rg Rg') (hD : va_D A (zwl cA ad Rg Ms)) : va_D A (zwl cA (fun q => ad (zmq ρ q)) Rg' Ms') := by
  refine ⟨fun i j p q hi hj hpq => ?_, fun k q hk => ?_⟩
  · obtain ⟨q1, a1, a2, rfl⟩ := zw_of hi
    obtain ⟨q2, b1, b2, rfl⟩ := zw_of hj
    have e0 := zw_inj hD (zmq_in h a2) (zmq_in h b2) hpq
    have e : q1 = q2 := zmq_inj h a2 b2 e0
    subst e
    have f : ∀ (m : Nat), (zids Rg')[m]? = some q1 → (zwl cA (fun q => ad (zmq ρ q)) Rg' Ms')[m]? = some (ad (zmq ρ q1), zcq cA (fun q => ad (zmq ρ q)) Rg' Ms' q1) := fun m hm => by unfold zwl; rw [List.getElem?_map, hm]; rfl
    exact zids_nd a1 b1
  · obtain ⟨q1, a1, a2, rfl⟩ := zw_of hk
    obtain ⟨j2, hj2⟩ := zw_get (cA := cA) (ad := ad) (Ms := Ms) (zmq_in h a2)
    have := hD.2 j2 _ hj2
    exact this
/-- the caller's memories behind the call -/
def zput (ρ : List Nat) (Ms Ms' : List zM) : List zM := (List.range Ms.length).map fun r => match (List.range ρ.length).find? (fun r' => ρ.getD r' 0 == r) with
  | some r' => Ms'.getD r' zm0
  | none => Ms.getD r zm0
theorem zput_hit {ρ : List Nat} {Rg Rg' : List zD} {Ms Ms' : List zM} (h : zRel ρ Rg Rg') (hl : Ms.length = Rg.length) {r' : Nat} (hr : r' < Rg'.length) : (zput ρ Ms Ms').getD (ρ.getD r' 0) zm0 = Ms'.getD r' zm0 := by
  obtain ⟨g1, g2, g3, g4⟩ := h
  unfold zput
  rw [List.getD_eq_getElem?_getD, List.getElem?_map, List.getElem?_range (by rw [hl]; exact (g3 _ hr).1)]
  dsimp only [Option.map_some, Option.getD_some]
  cases hf : (List.range ρ.length).find? (fun r'' => ρ.getD r'' 0 == ρ.getD r' 0) with
  | none =>
    have := List.find?_eq_none.mp hf r' (List.mem_range.mpr (by rw [g2]; exact hr))
    exact absurd (beq_self_eq_true _) this
  | some r2 =>
    have h1 := List.find?_some hf
    have h2 := List.mem_range.mp (List.mem_of_find?_eq_some hf)
    rw [g4 r2 (by rw [← g2]; exact h2) r' hr (by simpa using h1)]
theorem zput_miss {ρ : List Nat} {Ms Ms' : List zM} {r : Nat} (hr : r < Ms.length) (h : ∀ r', r' < ρ.length → ρ.getD r' 0 ≠ r) : (zput ρ Ms Ms').getD r zm0 = Ms.getD r zm0 := by
  unfold zput
  rw [List.getD_eq_getElem?_getD, List.getElem?_map, List.getElem?_range hr]
  dsimp only [Option.map_some, Option.getD_some]
  cases hf : (List.range ρ.length).find? (fun r'' => ρ.getD r'' 0 == r) with
  | none => rfl
  | some r2 =>
    have h1 := List.find?_some hf
    have h2 := List.mem_range.mp (List.mem_of_find?_eq_some hf)
    exact absurd (by simpa using h1) (h r2 h2)
/-- the callee's cells are the caller's -/
theorem zc_A {A : Nat → Prop} {cA : Nat → ClassId} {ad : zR → Nat} {ρ : List Nat} {Rg Rg' : List zD} {Ms Ms' : List zM} {H0 H : Heap} {locs : List Loc} (h : zRel ρ Rg Rg') (hD : va_D A (zwl cA ad Rg Ms)) (hS : va_S A H0 H locs) (hA : ∀ q, H0.size ≤ q → A q) : ∀ q, va_A (zwl cA (fun q => ad (zmq ρ q)) Rg' Ms') H.size q → A q := by
  intro q hq
  rcases hq with ⟨k, e, hk⟩ | hq
  · obtain ⟨q1, -, a2, a3⟩ := zw_of hk
    obtain ⟨j, hj⟩ := zw_get (cA := cA) (ad := ad) (Ms := Ms) (zmq_in h a2)
    have := hD.2 j _ hj
    rw [show q = ad (zmq ρ q1) from congrArg Prod.fst a3]
    exact this
  · exact hA q (Nat.le_trans hS.1 hq)
/-- the caller's world behind the call -/
theorem zc_back {A : Nat → Prop} {D : va_G} {cA : Nat → ClassId} {ad : zR → Nat} {ρ : List Nat} {Rg Rg' : List zD} {Ms Ms' Ms'' : List zM} {H H1 : Heap} (h : zRel ρ Rg Rg') (hl : Ms.length = Rg.length) (hP : va_P D zcl (zwl cA ad Rg Ms) H) (hD : va_D A (zwl cA ad Rg Ms)) (hk : ∀ q : Nat, q < H.size → ¬ va_A (zwl cA (fun q => ad (zmq ρ q)) Rg' Ms') H.size q → H1[q]? = H[q]?) (hP1 : va_P D zcl (zwl cA (fun q => ad (zmq ρ q)) Rg' Ms'') H1) : va_P D zcl (zwl cA ad Rg (zput ρ Ms Ms'')) H1 := by
  intro j x hx
  obtain ⟨q, hq0, hq, rfl⟩ := zw_of hx
  by_cases hex : ∃ r', r' < Rg'.length ∧ ρ.getD r' 0 = q.1
  · obtain ⟨r', hr, e⟩ := hex
    obtain ⟨g1, g2, g3, g4⟩ := id h
    obtain ⟨r, k, i⟩ := q
    dsimp only at e
    have hq' : zin Rg' (r', k, i) := ⟨hr, hq.2.1, by
      have h3 := hq.2.2
      dsimp only at h3 ⊢
      rw [(g3 _ hr).2.1, e]
      exact h3⟩
    have ez : zmq ρ (r', k, i) = (r, k, i) := by
      unfold zmq
      dsimp only
      rw [if_pos (Nat.lt_of_lt_of_le hr g1), e]
    obtain ⟨j2, hj2⟩ := zw_get (cA := cA) (ad := fun q => ad (zmq ρ q)) (Ms := Ms'') hq'
    have hat := hP1 j2 _ hj2
    have e2 := zcq_mq (cA := cA) (ad := ad) (Ms := zput ρ Ms Ms'') (Ms' := Ms'') h hq' (zput_hit h hl hr).symm
    rw [e2, ez] at hat
    exact hat
  · have hmiss : ∀ r', r' < ρ.length → ρ.getD r' 0 ≠ q.1 := fun r' hr e => hex ⟨r', by rw [← h.2.1]; exact hr, e⟩
    obtain ⟨j2, hj2⟩ := zw_get (cA := cA) (ad := ad) (Ms := Ms) hq
    have hat := hP j2 _ hj2
    have hlt : ad q < H.size := hat.lt
    have hna : ¬ va_A (zwl cA (fun q => ad (zmq ρ q)) Rg' Ms') H.size (ad q) := by
      rintro (⟨k, e, hk⟩ | hk)
      · obtain ⟨q1, -, a2, a3⟩ := zw_of hk
        have e0 : q = zmq ρ q1 := zw_inj hD hq (zmq_in h a2) (congrArg Prod.fst a3)
        refine hmiss q1.1 (by rw [h.2.1]; exact a2.1) ?_
        rw [e0]
        unfold zmq
        rw [if_pos (Nat.lt_of_lt_of_le a2.1 h.1)]
      · omega
    have hz : zcq cA ad Rg (zput ρ Ms Ms'') q = zcq cA ad Rg Ms q := by
      unfold zcq
      rw [zput_miss (by rw [hl]; exact hq.1) hmiss]
    rw [hz]
    exact hat.kept (hk _ hlt hna)
/-! what a method does, as its callers see it: at every launch without stack traces, at all addresses -/
def zPc (D : va_G) (cA : Nat → ClassId) (ad : zR → Nat) (Rg : List zD) (as : List zV) (Ms : List zM) (sz : Nat) : Array Value → State → Prop := va_Pc (as.map (zt ad)) fun U =>
  U.heap.size = sz ∧ va_P D zcl (zwl cA ad Rg Ms) U.heap ∧ va_K D zcl (ztl cA) U ∧ va_D (fun _ => True) (zwl cA ad Rg Ms) ∧ zEv ad (va_A (zwl cA ad Rg Ms) sz) U U.heap
def zMet (y : MethodName) (cb : ByteArray) (nB : Nat) (rb : Option FieldType) (fb lb : Nat) (Rg : List zD) (as : List zV) (Ms : List zM) (o : zO) : Prop := ∀ (l : Launch), l.stackTraces = false → ∀ (D : va_G) (cA : Nat → ClassId) (ad : zR → Nat) (sz : Nat), match o.1 with
  | .inl v => Met l y (.code y cb nB rb :: zTg) (zrm fb lb o) (zPc D cA ad Rg as Ms sz) (zQc D cA ad (va_A (zwl cA ad Rg Ms) sz) Rg v o.2) 0 0 (va_A (zwl cA ad Rg Ms) sz)
  | .inr E => vx_Met l y (.code y cb nB rb :: zTg) (zrm fb lb o) (zPc D cA ad Rg as Ms sz) zNo (zXc D cA ad (va_A (zwl cA ad Rg Ms) sz) Rg E o.2) 1 6 (va_A (zwl cA ad Rg Ms) sz)
theorem zPc_blind {D : va_G} {cA : Nat → ClassId} {ad : zR → Nat} {Rg : List zD} {as : List zV} {Ms : List zM} {sz : Nat} : FrameBlind (zPc D cA ad Rg as Ms sz) := by
  rintro a U g mk ⟨q0, q1, q2, q3, q4, q5⟩
  exact ⟨q0, q1, q2, va_K.moved (u := U) (U := U.calling g mk a) (Vm.Alike.refl U.vm) q3, q4, zEv.same (s := U) (U := U.calling g mk a) rfl q5⟩
def zls (as : List zV) (nL : Nat) : List (Option zV) := as.flatMap (fun v => if zcat v = 2 then [some v, none] else [some v]) ++ List.replicate (nL - (as.flatMap fun v => if zcat v = 2 then [some v, none] else [some v]).length) none
end
section
/-! ===== calls: the rows ===== -/
section ZCR
variable {p : Program} {l : Launch} {e : Env} {R : Room} {s : State} {m : MethodId} {args : Array Value} {below : List Frame} {meth : Method} {c : Code} {H : Heap} {locs : List Loc} {Q : State → Prop}
variable {D : va_G} {cA : Nat → ClassId} {ad' : zR → Nat} {A0 A1 : Nat → Prop} {Rg' : List zD} {Ms'' : List zM} {H0 : Heap} {pc : Nat} {ls : Array Slot} {st0 rest : List Value} {free : Addr → Prop} {a : Array Value}
theorem zx_ret {v : Option zV} (hr : va_Run p l e R s m args below meth c H locs 0 0 0 0 (F0 m pc ls st0) rest (zQc D cA ad' A1 Rg' v Ms'' a) free) (hS : va_S A0 H0 H locs) (hA : ∀ q, q < H.size → A1 q → A0 q) (hf : ∀ q, free q → A0 q)
    (kk : ∀ (H1 : Heap) (locs1 : List Loc), va_P D zcl (zwl cA ad' Rg' Ms'') H1 → (∀ q : Nat, q < H.size → ¬ A1 q → H1[q]? = H[q]?) → va_S A0 H0 H1 locs1 → W p l e R s m args below meth c H1 locs1 0 0 Q (F0 m (pc + 3) ls ((v.map (zt ad')).toList ++ rest))) : W p l e R s m args below meth c H locs 0 0 Q (F0 m pc ls st0) := by
  intro T hT X
  obtain ⟨w, st₀, t, T', L, h0, X', hL, e1, e2, ⟨hv, hP1, hF⟩, st⟩ := hr T hT X
  cases hv
  obtain ⟨k1, k2, k3⟩ := vx_keep h0 e1 hS hA hf hL hF
  obtain ⟨t2, a1, b1⟩ := kk T'.heap (locs ++ L) (by rw [e1]; exact hP1) k2 k3 T' rfl X'
  exact ⟨t2, st t2 a1, b1⟩
theorem zx_thr {E : String} (hr : vx_Run p l e R s m args below meth c H locs 0 0 1 6 (F0 m pc ls st0) rest (zNo a) (zXc D cA ad' A1 Rg' E Ms'') free) (hS : va_S A0 H0 H locs) (hA : ∀ q, q < H.size → A1 q → A0 q) (hf : ∀ q, free q → A0 q)
    (kk : ∀ (ce : Cell) (q9 : Addr) (H1 : Heap) (locs1 : List Loc), va_P D zcl (zwl cA ad' Rg' Ms'') H1 → (∀ q : Nat, q < H.size → ¬ A1 q → H1[q]? = H[q]?) → va_S A0 H0 H1 locs1 → H1[q9]? = some ce → ce.vm = .none → s.vm.findClass E = some ce.cls → vx_W p l e R s m args below meth c H1 locs1 1 6 Q (F0 m pc ls rest) q9) : W p l e R s m args below meth c H locs 0 0 Q (F0 m pc ls st0) := by
  intro T hT X
  rcases hr T hT X with ⟨w, st₀, t, T', L, h0, X', hL, e1, e2, hno, st⟩ | ⟨q, st₀, t, T', L, E', ce, h0, X', hL, e1, e2, ⟨rfl, hP1, hF⟩, hce, hcv, hcl, st⟩
  · exact hno.elim
  · obtain ⟨k1, k2, k3⟩ := vx_keep h0 e1 hS hA hf hL hF
    obtain ⟨t2, a1, b1⟩ := kk ce q T'.heap (locs ++ L) (by rw [e1]; exact hP1) k2 k3 (by rw [e1]; exact hce) hcv hcl T' rfl X'
    exact ⟨t2, st.trans a1, b1⟩
end ZCR
theorem zgood {ws : List Cond} (h : ∀ w ∈ ws, w ∈ zTg) : GoodIn zTg ws := fun w hw => ⟨h w hw, good_of_word (List.mem_filter.mp (h w hw)).2⟩
theorem zrm_c0 {fr lo : Nat} {o : zO} {v : Option zV} (h : o.1 = .inl v) : (zrm fr lo o).cells = 0 ∧ (zrm fr lo o).slots = 0 := by unfold zrm; rw [h]; exact ⟨rfl, rfl⟩
theorem zrm_c1 {fr lo : Nat} {o : zO} {E : String} (h : o.1 = .inr E) : (zrm fr lo o).cells = 1 ∧ (zrm fr lo o).slots = 6 := by unfold zrm; rw [h]; exact ⟨rfl, rfl⟩
theorem zgetD_map {ρ : List Nat} {Ms : List zM} {r n : Nat} (hn : ρ.length = n) (h : r < n) : (ρ.map fun r => Ms.getD r zm0).getD r zm0 = Ms.getD (ρ.getD r 0) zm0 := by
  subst hn
  rw [List.getD_eq_getElem?_getD, List.getElem?_map, List.getElem?_eq_getElem h, List.getD_eq_getElem?_getD (l := ρ), List.getElem?_eq_getElem h]
  rfl
/-- what is asked of every call -/
def zCall (fr lo fb lb nB : Nat) (st : List zV) (ρ : List Nat) (Rg Rg' : List zD) (Ms Ms' : List zM) : Prop :=
  zRel ρ Rg Rg' ∧ Ms.length = Rg.length ∧ Ms' = ρ.map (fun r => Ms.getD r zm0) ∧ zcs st ≤ 8 ∧ fb + 1 ≤ fr ∧ 8 + (nB + 11) + lb ≤ lo
section ZZC
variable {X : zX} {cc : ByteArray} {nL : Nat} {own : String} {ret : Option FieldType} {Rg Rg' : List zD} {fr lo pc : Nat} {L : List (Option zV)} {st S as : List zV} {Ms Ms' : List zM} {α : Type} {x : Option α} {κ : α → Option zO} {toO : α → zO}
variable {y : MethodName} {cb : ByteArray} {nB fb lb idx n : Nat} {rb : Option FieldType} {C : String} {ρ : List Nat}
theorem zz_callV (F : zFr X cc nL own ret) {r0 k0 i0 ci nf N : Nat} {T : u_T} (hC : ∀ a, x = some a → zMet y cb nB rb fb lb Rg' (zr r0 k0 i0 :: as) Ms' (toO a)) (hd : decode cc pc = .ok (.invokevirtual idx, 3))
    (hw : Cond.methodLink own idx y ∈ zTg ∧ Cond.instanceMethod y ∈ zTg ∧ Cond.selects C y y ∈ zTg ∧ Cond.initialized C ∈ zTg ∧ Cond.code y cb nB rb ∈ zTg) (hy : y.cls = C ∧ y.cls ≠ "java/lang/invoke/MethodHandle" ∧ y.cls ≠ "java/lang/invoke/VarHandle" ∧ (parseMethodDescriptor y.desc).map (fun d => d.parameters.length) = some n) (hn : as.length = n)
    (hcall : zCall fr lo fb lb nB st ρ Rg Rg' Ms Ms') (hin0 : zin Rg' (r0, k0, i0)) (hsh : (zsh (zty' Rg' r0) k0).2 = .inl (ci, nf)) (hci : zcl[ci]? = some (C, T, N)) (hS0 : S = (as.map (zmv ρ)).reverse ++ zmv ρ (zr r0 k0 i0) :: st)
    (kk : ∀ a, x = some a → match (toO a).1 with
      | .inl v => zZ X Rg fr lo nL (pc + 3) L ((v.map (zmv ρ)).toList ++ st) (zput ρ Ms (toO a).2) (κ a)
      | .inr E => κ a = some (.inr E, zput ρ Ms (toO a).2)) : zZ X Rg fr lo nL pc L S Ms (Option.bind x κ) := by
  obtain ⟨p, l, e, s, m, args, below, meth, c, D, cA, ad, A⟩ := X
  obtain ⟨hx, hb, hml, hown, hts, hlk, hK, hA, hE, htr, hex, hret⟩ := F
  obtain ⟨hrel, hlen, hMs, hcs, hfr, hlo⟩ := hcall
  intro o ho H locs ls hl hP hD hS
  cases hxa : x with
  | none => rw [hxa] at ho; cases ho
  | some a =>
    rw [hxa] at ho
    have ho : κ a = some o := ho
    have hk := kk a hxa
    have hM := hC a hxa l htr D cA (fun q => ad (zmq ρ q)) H.size
    have hM1 : ∀ r, r < Rg'.length → Ms'.getD r zm0 = Ms.getD (ρ.getD r 0) zm0 := fun r hr => by rw [hMs]; exact zgetD_map hrel.2.1 hr
    have hP' := zc_P (D := D) (cA := cA) (ad := ad) hrel hM1 hP
    have hD' := zc_D (cA := cA) (ad := ad) Ms' hrel hD
    have hAA := zc_A (Ms' := Ms') (ad := ad) hrel hD hS hA
    have hW8 : 2 * 0 + ((st.map (zt ad)).map fun v => v.category).sum ≤ 8 := by rw [zcs_t]; omega
    have hstk : S.map (zt ad) = (as.map (zt fun q => ad (zmq ρ q))).reverse ++ .ref (ad (zmq ρ (r0, k0, i0))) :: st.map (zt ad) := by
      rw [hS0, List.map_append, List.map_cons, zt_mvs, List.map_reverse]
      rfl
    have hG : GoodIn zTg (wsV own idx C y (.code y cb nB rb :: zTg)) := zgood fun w hw' => by
      obtain ⟨w1, w2, w3, w4, w5⟩ := hw
      unfold wsV at hw'
      rcases List.mem_append.mp hw' with h | h
      · simp only [List.mem_cons, List.not_mem_nil, or_false] at h
        rcases h with rfl | rfl | rfl | rfl <;> assumption
      · rcases List.mem_cons.mp h with rfl | h
        · exact w5
        · exact h
    obtain ⟨j0, hj0⟩ := zw_get (cA := cA) (ad := fun q => ad (zmq ρ q)) (Ms := Ms') hin0
    unfold zcq zce at hj0
    dsimp only at hj0
    rw [hsh] at hj0
    have hpre : ∀ U : State, U.heap = H → s.WarmedH U.vm → zPc D cA (fun q => ad (zmq ρ q)) Rg' (zr r0 k0 i0 :: as) Ms' H.size (Value.ref (ad (zmq ρ (r0, k0, i0))) :: as.map (zt fun q => ad (zmq ρ q))).toArray U := fun U hU hW =>
      ⟨rfl, by rw [hU], by rw [hU]; exact hP', va_K.moved hW.alike hK, hD'.weaken fun _ _ _ _ => trivial, by
        rw [hU]
        exact zEv.warm hW ((hE.kept hS.2.1).narrow hAA fun j => by unfold zmq; dsimp only; rw [if_neg (by omega)])⟩
    cases h1 : (toO a).1 with
    | inl v =>
      rw [h1] at hk hM
      dsimp only at hk hM
      rw [hstk]
      refine zx_ret (va_runV (As := as.map (zt fun q => ad (zmq ρ q))) (rest := st.map (zt ad)) ⟨hx, hb, hml, hown, hts⟩ hM (cwV n hts hG rfl (zrm_c0 h1).1 (zrm_c0 h1).2 hy (by rw [zrm_f, zrm_f, zrm_l, zrm_l]; exact ⟨hfr, hlo⟩)) ⟨zPc_blind, va_recv hK hP' hci hj0, hpre⟩ rfl (by rw [List.length_map]; exact hn) hl.1 rfl hW8 hd ⟨Nat.zero_le _, Nat.zero_le _⟩) hS (fun q _ h => hAA q h) hAA fun H1 locs1 hP1 hk1 hS1 => ?_
      have h2 := hk o ho H1 locs1 ls hl (zc_back hrel hlen hP hD hk1 hP1) (zw_D _ hD) hS1
      rw [show (v.map (zt fun q => ad (zmq ρ q))).toList ++ st.map (zt ad) = ((v.map (zmv ρ)).toList ++ st).map (zt ad) by
        cases v with
        | none => rfl
        | some v => exact congrArg (· :: st.map (zt ad)) (zt_mv ad ρ v)]
      exact h2
    | inr E =>
      rw [h1] at hk hM
      dsimp only at hk hM
      rw [hstk]
      rw [hk] at ho
      cases ho
      refine zx_thr (vx_runV (As := as.map (zt fun q => ad (zmq ρ q))) (rest := st.map (zt ad)) ⟨hx, hb, hml, hown, hts⟩ hM (cwV n hts hG rfl (zrm_c1 h1).1 (zrm_c1 h1).2 hy (by rw [zrm_f, zrm_f, zrm_l, zrm_l]; exact ⟨hfr, hlo⟩)) ⟨zPc_blind, va_recv hK hP' hci hj0, hpre⟩ rfl (by rw [List.length_map]; exact hn) hl.1 rfl hW8 hd ⟨Nat.le_refl 1, Nat.le_refl 6⟩) hS (fun q _ h => hAA q h) hAA fun ce q9 H1 locs1 hP1 hk1 hS1 hce hcv hcl => ?_
      exact vx_out (fun x hx => (hex x hx).elim) hlk hce hcv hcl (fun t ht _ => ⟨rfl, by rw [ht]; exact zc_back hrel hlen hP hD hk1 hP1, hS1.F ht⟩) hS1.2.2 (Nat.le_refl _) (Nat.le_refl _)
theorem zz_callS (F : zFr X cc nL own ret) (hC : ∀ a, x = some a → zMet y cb nB rb fb lb Rg' as Ms' (toO a)) (hd : decode cc pc = .ok (.invokestatic idx, 3))
    (hw : Cond.methodLink own idx y ∈ zTg ∧ Cond.static y ∈ zTg ∧ Cond.initialized y.cls ∈ zTg ∧ Cond.code y cb nB rb ∈ zTg) (hy : y.cls ≠ "java/lang/invoke/MethodHandle" ∧ y.cls ≠ "java/lang/invoke/VarHandle" ∧ (parseMethodDescriptor y.desc).map (fun d => d.parameters.length) = some n) (hn : as.length = n)
    (hcall : zCall fr lo fb lb nB st ρ Rg Rg' Ms Ms') (hS0 : S = (as.map (zmv ρ)).reverse ++ st)
    (kk : ∀ a, x = some a → match (toO a).1 with
      | .inl v => zZ X Rg fr lo nL (pc + 3) L ((v.map (zmv ρ)).toList ++ st) (zput ρ Ms (toO a).2) (κ a)
      | .inr E => κ a = some (.inr E, zput ρ Ms (toO a).2)) : zZ X Rg fr lo nL pc L S Ms (Option.bind x κ) := by
  obtain ⟨p, l, e, s, m, args, below, meth, c, D, cA, ad, A⟩ := X
  obtain ⟨hx, hb, hml, hown, hts, hlk, hK, hA, hE, htr, hex, hret⟩ := F
  obtain ⟨hrel, hlen, hMs, hcs, hfr, hlo⟩ := hcall
  intro o ho H locs ls hl hP hD hS
  cases hxa : x with
  | none => rw [hxa] at ho; cases ho
  | some a =>
    rw [hxa] at ho
    have ho : κ a = some o := ho
    have hk := kk a hxa
    have hM := hC a hxa l htr D cA (fun q => ad (zmq ρ q)) H.size
    have hM1 : ∀ r, r < Rg'.length → Ms'.getD r zm0 = Ms.getD (ρ.getD r 0) zm0 := fun r hr => by rw [hMs]; exact zgetD_map hrel.2.1 hr
    have hP' := zc_P (D := D) (cA := cA) (ad := ad) hrel hM1 hP
    have hD' := zc_D (cA := cA) (ad := ad) Ms' hrel hD
    have hAA := zc_A (Ms' := Ms') (ad := ad) hrel hD hS hA
    have hW8 : 2 * 0 + ((st.map (zt ad)).map fun v => v.category).sum ≤ 8 := by rw [zcs_t]; omega
    have hstk : S.map (zt ad) = (as.map (zt fun q => ad (zmq ρ q))).reverse ++ st.map (zt ad) := by
      rw [hS0, List.map_append, zt_mvs, List.map_reverse]
    have hG : GoodIn zTg (va_wsS own idx y (.code y cb nB rb :: zTg)) := zgood fun w hw' => by
      obtain ⟨w1, w2, w3, w5⟩ := hw
      unfold va_wsS at hw'
      rcases List.mem_append.mp hw' with h | h
      · simp only [List.mem_cons, List.not_mem_nil, or_false] at h
        rcases h with rfl | rfl | rfl <;> assumption
      · rcases List.mem_cons.mp h with rfl | h
        · exact w5
        · exact h
    have hpre : ∀ U : State, U.heap = H → s.WarmedH U.vm → zPc D cA (fun q => ad (zmq ρ q)) Rg' as Ms' H.size (as.map (zt fun q => ad (zmq ρ q))).toArray U := fun U hU hW =>
      ⟨rfl, by rw [hU], by rw [hU]; exact hP', va_K.moved hW.alike hK, hD'.weaken fun _ _ _ _ => trivial, by
        rw [hU]
        exact zEv.warm hW ((hE.kept hS.2.1).narrow hAA fun j => by unfold zmq; dsimp only; rw [if_neg (by omega)])⟩
    cases h1 : (toO a).1 with
    | inl v =>
      rw [h1] at hk hM
      dsimp only at hk hM
      rw [hstk]
      refine zx_ret (va_runS (As := as.map (zt fun q => ad (zmq ρ q))) (rest := st.map (zt ad)) ⟨hx, hb, hml, hown, hts⟩ hM (va_cwS n hts hG rfl (zrm_c0 h1).1 (zrm_c0 h1).2 hy (by rw [zrm_f, zrm_f, zrm_l, zrm_l]; exact ⟨hfr, hlo⟩)) ⟨zPc_blind, hpre⟩ rfl (by rw [List.length_map]; exact hn) hl.1 rfl hW8 hd ⟨Nat.zero_le _, Nat.zero_le _⟩) hS (fun q _ h => hAA q h) hAA fun H1 locs1 hP1 hk1 hS1 => ?_
      have h2 := hk o ho H1 locs1 ls hl (zc_back hrel hlen hP hD hk1 hP1) (zw_D _ hD) hS1
      rw [show (v.map (zt fun q => ad (zmq ρ q))).toList ++ st.map (zt ad) = ((v.map (zmv ρ)).toList ++ st).map (zt ad) by
        cases v with
        | none => rfl
        | some v => exact congrArg (· :: st.map (zt ad)) (zt_mv ad ρ v)]
      exact h2
    | inr E =>
      rw [h1] at hk hM
      dsimp only at hk hM
      rw [hstk]
      rw [hk] at ho
      cases ho
      refine zx_thr (vx_runS (As := as.map (zt fun q => ad (zmq ρ q))) (rest := st.map (zt ad)) ⟨hx, hb, hml, hown, hts⟩ hM (va_cwS n hts hG rfl (zrm_c1 h1).1 (zrm_c1 h1).2 hy (by rw [zrm_f, zrm_f, zrm_l, zrm_l]; exact ⟨hfr, hlo⟩)) ⟨zPc_blind, hpre⟩ rfl (by rw [List.length_map]; exact hn) hl.1 rfl hW8 hd ⟨Nat.le_refl 1, Nat.le_refl 6⟩) hS (fun q _ h => hAA q h) hAA fun ce q9 H1 locs1 hP1 hk1 hS1 hce hcv hcl => ?_
      exact vx_out (fun x hx => (hex x hx).elim) hlk hce hcv hcl (fun t ht _ => ⟨rfl, by rw [ht]; exact zc_back hrel hlen hP hD hk1 hP1, hS1.F ht⟩) hS1.2.2 (Nat.le_refl _) (Nat.le_refl _)
/-- a static method of a nest mate, that returns -/
theorem zz_callSN (F : zFr X cc nL own ret) {host : String} (hC : ∀ a, x = some a → zMet y cb nB rb fb lb Rg' as Ms' (toO a)) (hd : decode cc pc = .ok (.invokestatic idx, 3))
    (hw : Cond.methodLinkNest own idx y host ∈ zNws ∧ Cond.static y ∈ zTg ∧ Cond.initialized y.cls ∈ zTg ∧ Cond.code y cb nB rb ∈ zTg) (hy : y.cls ≠ "java/lang/invoke/MethodHandle" ∧ y.cls ≠ "java/lang/invoke/VarHandle" ∧ (parseMethodDescriptor y.desc).map (fun d => d.parameters.length) = some n) (hn : as.length = n)
    (hcall : zCall fr lo fb lb nB st ρ Rg Rg' Ms Ms') (hS0 : S = (as.map (zmv ρ)).reverse ++ st)
    (kk : ∀ a, x = some a → ∃ v, (toO a).1 = .inl v ∧ zZ X Rg fr lo nL (pc + 3) L ((v.map (zmv ρ)).toList ++ st) (zput ρ Ms (toO a).2) (κ a)) : zZ X Rg fr lo nL pc L S Ms (Option.bind x κ) := by
  obtain ⟨p, l, e, s, m, args, below, meth, c, D, cA, ad, A⟩ := X
  obtain ⟨hx, hb, hml, hown, hts, hlk, hK, hA, hE, htr, hex, hret⟩ := F
  obtain ⟨hrel, hlen, hMs, hcs, hfr, hlo⟩ := hcall
  intro o ho H locs ls hl hP hD hS
  cases hxa : x with
  | none => rw [hxa] at ho; cases ho
  | some a =>
    rw [hxa] at ho
    have ho : κ a = some o := ho
    obtain ⟨v, h1, hk⟩ := kk a hxa
    have hM := hC a hxa l htr D cA (fun q => ad (zmq ρ q)) H.size
    have hM1 : ∀ r, r < Rg'.length → Ms'.getD r zm0 = Ms.getD (ρ.getD r 0) zm0 := fun r hr => by rw [hMs]; exact zgetD_map hrel.2.1 hr
    have hP' := zc_P (D := D) (cA := cA) (ad := ad) hrel hM1 hP
    have hD' := zc_D (cA := cA) (ad := ad) Ms' hrel hD
    have hAA := zc_A (Ms' := Ms') (ad := ad) hrel hD hS hA
    have hW8 : 2 * 0 + ((st.map (zt ad)).map fun v => v.category).sum ≤ 8 := by rw [zcs_t]; omega
    have hstk : S.map (zt ad) = (as.map (zt fun q => ad (zmq ρ q))).reverse ++ st.map (zt ad) := by
      rw [hS0, List.map_append, zt_mvs, List.map_reverse]
    have hG : GoodIn zTg (.code y cb nB rb :: zTg) := zgood fun w hw' => by
      rcases List.mem_cons.mp hw' with rfl | h
      · exact hw.2.2.2
      · exact h
    have hpre : ∀ U : State, U.heap = H → s.WarmedH U.vm → zPc D cA (fun q => ad (zmq ρ q)) Rg' as Ms' H.size (as.map (zt fun q => ad (zmq ρ q))).toArray U := fun U hU hW =>
      ⟨rfl, by rw [hU], by rw [hU]; exact hP', va_K.moved hW.alike hK, hD'.weaken fun _ _ _ _ => trivial, by
        rw [hU]
        exact zEv.warm hW ((hE.kept hS.2.1).narrow hAA fun j => by unfold zmq; dsimp only; rw [if_neg (by omega)])⟩
    rw [h1] at hM
    dsimp only at hM
    rw [hstk]
    refine zx_ret (va_runSN (As := as.map (zt fun q => ad (zmq ρ q))) (rest := st.map (zt ad)) ⟨hx, hb, hml, hown, hts⟩ hM ⟨va_cnB n hts hG rfl (zrm_c0 h1).1 (zrm_c0 h1).2 (hE.2.2.1 _ hw.1) (hts _ hw.2.2.1) hy (by rw [zrm_f, zrm_f, zrm_l, zrm_l]; exact ⟨hfr, hlo⟩), hts _ hw.2.1, trivial⟩ ⟨zPc_blind, hpre⟩ rfl (by rw [List.length_map]; exact hn) hl.1 rfl hW8 hd ⟨Nat.zero_le _, Nat.zero_le _⟩) hS (fun q _ h => hAA q h) hAA fun H1 locs1 hP1 hk1 hS1 => ?_
    have h2 := hk o ho H1 locs1 ls hl (zc_back hrel hlen hP hD hk1 hP1) (zw_D _ hD) hS1
    rw [show (v.map (zt fun q => ad (zmq ρ q))).toList ++ st.map (zt ad) = ((v.map (zmv ρ)).toList ++ st).map (zt ad) by
      cases v with
      | none => rfl
      | some v => exact congrArg (· :: st.map (zt ad)) (zt_mv ad ρ v)]
    exact h2
end ZZC
/-! a method's contract out of its body -/
def zlf (as : List zV) : List (Option zV) := as.flatMap fun v => if zcat v = 2 then [some v, none] else [some v]
theorem zlf_at (ad : zR → Nat) : ∀ (as : List zV) (k : Nat) (v : zV), (zlf as)[k]? = some (some v) → (lg_sl (as.map (zt ad)))[k]? = some (.val (zt ad v))
  | [], k, v, h => by cases h
  | a :: as, k, v, h => by
    have ih := zlf_at ad as
    unfold zlf lg_sl at *
    rw [List.flatMap_cons] at h
    rw [List.map_cons, List.flatMap_cons, zcat_t]
    by_cases hc : zcat a = 2
    · rw [if_pos hc] at h ⊢
      match k, h with
      | 0, h => cases h; rfl
      | 1, h => cases h
      | k + 2, h => exact ih k v h
    · rw [if_neg hc] at h ⊢
      match k, h with
      | 0, h => cases h; rfl
      | k + 1, h => exact ih k v h
theorem zMet_of {y : MethodName} {cb : ByteArray} {nB fb lb : Nat} {rb : Option FieldType} {Rg : List zD} {as : List zV} {Ms : List zM} {o : zO} {φ : Option zO} {L0 : List (Option zV)} (hy : plainName y.cls = true) (hsz : ∀ ad : zR → Nat, (lg_sl (as.map (zt ad))).length ≤ nB) (hL0 : ∀ (k : Nat) (v : zV), L0[k]? = some (some v) → (zlf as)[k]? = some (some v))
    (body : ∀ X : zX, zFr X cb nB y.cls rb → zZ X Rg fb lb nB 0 L0 [] Ms φ) (ho : φ = some o) : zMet y cb nB rb fb lb Rg as Ms o := by
  intro l htr D cA ad sz
  have key : ∀ p e s m args below meth c s₁, BodyLoose p l y (headSpec (.code y cb nB rb :: zTg) (zrm fb lb o)) cb nB rb e s m args below meth c s₁ → c.maxLocals = nB → zPc D cA ad Rg as Ms sz args s →
      W p l e (zrm fb lb o) s m args below meth c s.heap [] 0 0 (zQ (p, l, e, s, m, args, below, meth, c, D, cA, ad, va_A (zwl cA ad Rg Ms) sz) Rg o) (entryFrame m args nB) := by
    intro p e s m args below meth c s₁ B hml hv
    obtain ⟨rfl, hsz0, hP, hK, hD, hE⟩ := hv
    have hts := atoms_spec (ws := .code y cb nB rb :: zTg) B.pre
    have hex : ∀ x ∈ c.exceptionTable.toList, False := by
      obtain ⟨meth9, c9, h1, h2, -, -, -, -, h7, -⟩ := Cond.code_spec B.named (hts _ List.mem_cons_self)
      cases Option.some.inj (h1.symm.trans B.method)
      cases Option.some.inj (h2.symm.trans (Stand.of_body B).code)
      intro x hx
      rw [Array.isEmpty_iff.mp h7] at hx
      cases hx
    have F : zFr (p, l, e, s, m, (as.map (zt ad)).toArray, below, meth, c, D, cA, ad, va_A (zwl cA ad Rg Ms) sz) cb nB y.cls rb :=
      ⟨B.exec, B.bytes, hml, findClass_of_methodNamed B.named, fun w hw => hts w (List.mem_cons_of_mem _ hw), B.notSynchronized, hK, fun q h => Or.inr (by rw [← hsz0]; exact h), hE, htr, hex, B.returns⟩
    have hl := lv_entry (as.map (zt ad)) (n := nB) (hsz ad)
    rw [lg_entry_eq]
    refine body _ F o ho s.heap [] _ ⟨hl.1, hl.2.1, fun k v hk => ?_⟩ hP hD.self va_S.rf
    have h3 := zlf_at ad as k v (hL0 k v hk)
    have h4 := (List.getElem?_eq_some_iff.mp h3).1
    rw [List.getElem?_toArray, List.getElem?_append_left h4]
    exact h3
  cases h1 : o.1 with
  | inl v =>
    refine Met.ofW (cc := cb) (maxL := nB) (ret := rb) hy rfl ?_
    intro p e s m args below meth c s₁ B hml hv
    have h := key p e s m args below meth c s₁ B hml hv
    unfold zQ at h
    rw [h1] at h
    exact h
  | inr E =>
    refine vx_ofW (cc := cb) (maxL := nB) (ret := rb) hy rfl ?_
    intro p e s m args below meth c s₁ B hml _ hv
    have h := key p e s m args below meth c s₁ B hml hv
    unfold zQ at h
    rw [h1] at h
    exact h
end
section
/-! ===== calls as the program writes them ===== -/
section ZZD
variable {X : zX} {cc : ByteArray} {nL : Nat} {own : String} {ret : Option FieldType} {Rg Rg' : List zD} {fr lo pc : Nat} {L : List (Option zV)} {st S as : List zV} {Ms Ms' : List zM} {α β : Type} {x : Option α} {κ : α → Option zO}
variable {y : MethodName} {cb : ByteArray} {nB fb lb idx n : Nat} {rb : Option FieldType} {C : String} {ρ : List Nat}
variable {vo : α → Option zV} {mo : α → List zM} {so : α → List zV} {Mo : α → List zM}
theorem zz_callVr (F : zFr X cc nL own ret) {r0 k0 i0 ci nf N : Nat} {T : u_T} (hC : ∀ a, x = some a → zMet y cb nB rb fb lb Rg' (zr r0 k0 i0 :: as) Ms' (.inl (vo a), mo a)) (hd : decode cc pc = .ok (.invokevirtual idx, 3))
    (hw : Cond.methodLink own idx y ∈ zTg ∧ Cond.instanceMethod y ∈ zTg ∧ Cond.selects C y y ∈ zTg ∧ Cond.initialized C ∈ zTg ∧ Cond.code y cb nB rb ∈ zTg) (hy : y.cls = C ∧ y.cls ≠ "java/lang/invoke/MethodHandle" ∧ y.cls ≠ "java/lang/invoke/VarHandle" ∧ (parseMethodDescriptor y.desc).map (fun d => d.parameters.length) = some n) (hn : as.length = n)
    (hcall : zCall fr lo fb lb nB st ρ Rg Rg' Ms Ms') (hin0 : zin Rg' (r0, k0, i0)) (hsh : (zsh (zty' Rg' r0) k0).2 = .inl (ci, nf)) (hci : zcl[ci]? = some (C, T, N)) (hS0 : S = (as.map (zmv ρ)).reverse ++ zmv ρ (zr r0 k0 i0) :: st)
    (hso : ∀ a, ((vo a).map (zmv ρ)).toList ++ st = so a) (hMo : ∀ a, zput ρ Ms (mo a) = Mo a) (kk : ∀ a, zZ X Rg fr lo nL (pc + 3) L (so a) (Mo a) (κ a)) : zZ X Rg fr lo nL pc L S Ms (Option.bind x κ) :=
  zz_callV (toO := fun a => (.inl (vo a), mo a)) F hC hd hw hy hn hcall hin0 hsh hci hS0 fun a _ => by
    show zZ X Rg fr lo nL (pc + 3) L (((vo a).map (zmv ρ)).toList ++ st) (zput ρ Ms (mo a)) (κ a)
    rw [hso, hMo]
    exact kk a
theorem zz_callSr (F : zFr X cc nL own ret) (hC : ∀ a, x = some a → zMet y cb nB rb fb lb Rg' as Ms' (.inl (vo a), mo a)) (hd : decode cc pc = .ok (.invokestatic idx, 3))
    (hw : Cond.methodLink own idx y ∈ zTg ∧ Cond.static y ∈ zTg ∧ Cond.initialized y.cls ∈ zTg ∧ Cond.code y cb nB rb ∈ zTg) (hy : y.cls ≠ "java/lang/invoke/MethodHandle" ∧ y.cls ≠ "java/lang/invoke/VarHandle" ∧ (parseMethodDescriptor y.desc).map (fun d => d.parameters.length) = some n) (hn : as.length = n)
    (hcall : zCall fr lo fb lb nB st ρ Rg Rg' Ms Ms') (hS0 : S = (as.map (zmv ρ)).reverse ++ st)
    (hso : ∀ a, ((vo a).map (zmv ρ)).toList ++ st = so a) (hMo : ∀ a, zput ρ Ms (mo a) = Mo a) (kk : ∀ a, zZ X Rg fr lo nL (pc + 3) L (so a) (Mo a) (κ a)) : zZ X Rg fr lo nL pc L S Ms (Option.bind x κ) :=
  zz_callS (toO := fun a => (.inl (vo a), mo a)) F hC hd hw hy hn hcall hS0 fun a _ => by
    show zZ X Rg fr lo nL (pc + 3) L (((vo a).map (zmv ρ)).toList ++ st) (zput ρ Ms (mo a)) (κ a)
    rw [hso, hMo]
    exact kk a
theorem zz_callSNr (F : zFr X cc nL own ret) {host : String} (hC : ∀ a, x = some a → zMet y cb nB rb fb lb Rg' as Ms' (.inl (vo a), mo a)) (hd : decode cc pc = .ok (.invokestatic idx, 3))
    (hw : Cond.methodLinkNest own idx y host ∈ zNws ∧ Cond.static y ∈ zTg ∧ Cond.initialized y.cls ∈ zTg ∧ Cond.code y cb nB rb ∈ zTg) (hy : y.cls ≠ "java/lang/invoke/MethodHandle" ∧ y.cls ≠ "java/lang/invoke/VarHandle" ∧ (parseMethodDescriptor y.desc).map (fun d => d.parameters.length) = some n) (hn : as.length = n)
    (hcall : zCall fr lo fb lb nB st ρ Rg Rg' Ms Ms') (hS0 : S = (as.map (zmv ρ)).reverse ++ st)
    (hso : ∀ a, ((vo a).map (zmv ρ)).toList ++ st = so a) (hMo : ∀ a, zput ρ Ms (mo a) = Mo a) (kk : ∀ a, zZ X Rg fr lo nL (pc + 3) L (so a) (Mo a) (κ a)) : zZ X Rg fr lo nL pc L S Ms (Option.bind x κ) :=
  zz_callSN (toO := fun a => (.inl (vo a), mo a)) F hC hd hw hy hn hcall hS0 fun a _ => ⟨vo a, rfl, by
    show zZ X Rg fr lo nL (pc + 3) L (((vo a).map (zmv ρ)).toList ++ st) (zput ρ Ms (mo a)) (κ a)
    rw [hso, hMo]
    exact kk a⟩
/-! callees that may throw -/
def zts (vo : α → Option zV) (mo : α → List zM) (eo : β → String) (xo : β → List zM) : α ⊕ β → zO
  | .inl a => (.inl (vo a), mo a)
  | .inr b => (.inr (eo b), xo b)
variable {z : Option (α ⊕ β)} {κz : α ⊕ β → Option zO} {eo : β → String} {xo Xo : β → List zM}
theorem zz_callVx (F : zFr X cc nL own ret) {r0 k0 i0 ci nf N : Nat} {T : u_T} (hC : ∀ a, z = some a → zMet y cb nB rb fb lb Rg' (zr r0 k0 i0 :: as) Ms' (zts vo mo eo xo a)) (hd : decode cc pc = .ok (.invokevirtual idx, 3))
    (hw : Cond.methodLink own idx y ∈ zTg ∧ Cond.instanceMethod y ∈ zTg ∧ Cond.selects C y y ∈ zTg ∧ Cond.initialized C ∈ zTg ∧ Cond.code y cb nB rb ∈ zTg) (hy : y.cls = C ∧ y.cls ≠ "java/lang/invoke/MethodHandle" ∧ y.cls ≠ "java/lang/invoke/VarHandle" ∧ (parseMethodDescriptor y.desc).map (fun d => d.parameters.length) = some n) (hn : as.length = n)
    (hcall : zCall fr lo fb lb nB st ρ Rg Rg' Ms Ms') (hin0 : zin Rg' (r0, k0, i0)) (hsh : (zsh (zty' Rg' r0) k0).2 = .inl (ci, nf)) (hci : zcl[ci]? = some (C, T, N)) (hS0 : S = (as.map (zmv ρ)).reverse ++ zmv ρ (zr r0 k0 i0) :: st)
    (hso : ∀ a, ((vo a).map (zmv ρ)).toList ++ st = so a) (hMo : ∀ a, zput ρ Ms (mo a) = Mo a) (hXo : ∀ b, zput ρ Ms (xo b) = Xo b) (kx : ∀ b, κz (.inr b) = some (.inr (eo b), Xo b)) (kk : ∀ a, zZ X Rg fr lo nL (pc + 3) L (so a) (Mo a) (κz (.inl a))) : zZ X Rg fr lo nL pc L S Ms (Option.bind z κz) :=
  zz_callV (toO := zts vo mo eo xo) F hC hd hw hy hn hcall hin0 hsh hci hS0 fun a _ => by
    rcases a with a | b
    · show zZ X Rg fr lo nL (pc + 3) L (((vo a).map (zmv ρ)).toList ++ st) (zput ρ Ms (mo a)) (κz (.inl a))
      rw [hso, hMo]
      exact kk a
    · show κz (.inr b) = some (.inr (eo b), zput ρ Ms (xo b))
      rw [hXo]
      exact kx b
theorem zz_callSx (F : zFr X cc nL own ret) (hC : ∀ a, z = some a → zMet y cb nB rb fb lb Rg' as Ms' (zts vo mo eo xo a)) (hd : decode cc pc = .ok (.invokestatic idx, 3))
    (hw : Cond.methodLink own idx y ∈ zTg ∧ Cond.static y ∈ zTg ∧ Cond.initialized y.cls ∈ zTg ∧ Cond.code y cb nB rb ∈ zTg) (hy : y.cls ≠ "java/lang/invoke/MethodHandle" ∧ y.cls ≠ "java/lang/invoke/VarHandle" ∧ (parseMethodDescriptor y.desc).map (fun d => d.parameters.length) = some n) (hn : as.length = n)
    (hcall : zCall fr lo fb lb nB st ρ Rg Rg' Ms Ms') (hS0 : S = (as.map (zmv ρ)).reverse ++ st)
    (hso : ∀ a, ((vo a).map (zmv ρ)).toList ++ st = so a) (hMo : ∀ a, zput ρ Ms (mo a) = Mo a) (hXo : ∀ b, zput ρ Ms (xo b) = Xo b) (kx : ∀ b, κz (.inr b) = some (.inr (eo b), Xo b)) (kk : ∀ a, zZ X Rg fr lo nL (pc + 3) L (so a) (Mo a) (κz (.inl a))) : zZ X Rg fr lo nL pc L S Ms (Option.bind z κz) :=
  zz_callS (toO := zts vo mo eo xo) F hC hd hw hy hn hcall hS0 fun a _ => by
    rcases a with a | b
    · show zZ X Rg fr lo nL (pc + 3) L (((vo a).map (zmv ρ)).toList ++ st) (zput ρ Ms (mo a)) (κz (.inl a))
      rw [hso, hMo]
      exact kk a
    · show κz (.inr b) = some (.inr (eo b), zput ρ Ms (xo b))
      rw [hXo]
      exact kx b
end ZZD
section ZZJ
variable {X : zX} {cc : ByteArray} {nL : Nat} {own : String} {ret : Option FieldType} {Rg : List zD} {fr lo pc pj : Nat} {L : List (Option zV)} {st : List zV} {Ms : List zM} {φ : Option zO} {α β : Type}
/-- two ways that meet at pj -/
theorem zz_join {x : Option α} {f : α → Option β} {κ : β → Option zO} {Lj : α → List (Option zV)} {Sj : α → List zV} {Mj : α → List zM} (hj : ∀ a, zZ X Rg fr lo nL pj (Lj a) (Sj a) (Mj a) (Option.bind (f a) κ)) (k : ∀ κ' : α → Option zO, (∀ a, zZ X Rg fr lo nL pj (Lj a) (Sj a) (Mj a) (κ' a)) → zZ X Rg fr lo nL pc L st Ms (Option.bind x κ')) : zZ X Rg fr lo nL pc L st Ms (Option.bind (Option.bind x f) κ) :=
  zz_bind (k _ hj)
theorem zz_zret (F : zFr X cc nL own ret) {x : Int32} (hd : decode cc pc = .ok (.ireturn, 1)) (hr : ret = some .boolean) (hφ : φ = some (.inl (some (zi (x &&& 1))), Ms)) : zZ X Rg fr lo nL pc L [zi x] Ms φ := by
  obtain ⟨p, l, e, s, m, args, below, meth, c, D, cA, ad, A⟩ := X
  obtain ⟨hx, hb, hml, hown, hts, hlk, hK, hA, hE, htr, hex, hret⟩ := F
  intro o ho H locs ls hl hP hD hS
  rw [hφ] at ho
  cases ho
  intro T hT X
  have hr0 : meth.sig.returnType = some .boolean := hret.trans hr
  obtain ⟨fs, hret9, hrun, hended, hW, hframe⟩ := X.leave (v := some (.int (x &&& 1))) (fun h => by rw [hr0] at h; cases h) (hlocks := hlk)
  have hmeth' : T.vm.method? m = some meth := X.method'
  refine ⟨T.setFrames fs, ?_, .returned (some (.int (x &&& 1))), hrun, hended, ⟨rfl, by rw [show (T.setFrames fs).heap = H from hT]; exact hP, hS.F hT⟩, locs, ⟨⟨_, rfl⟩, hW, hframe⟩, hS.2.2⟩
  jvm_step X.here [X.here.top, hx, hb, hd, hmeth', hr0, narrow]
  refine ⟨x, [], ⟨rfl, rfl⟩, ?_⟩
  first | (intro acts; rw [hret9 _ acts rfl rfl rfl]) | rw [hret9 _ _ rfl rfl rfl]
  exact Steps.refl _
end ZZJ
theorem zl0 {L0 : List (Option zV)} {as : List zV} (n : Nat) (h : L0 = zlf as ++ List.replicate n none) : ∀ (k : Nat) (v : zV), L0[k]? = some (some v) → (zlf as)[k]? = some (some v) := by
  intro k v hk
  subst h
  rcases Nat.lt_or_ge k (zlf as).length with q | q
  · rw [List.getElem?_append_left q] at hk
    exact hk
  · rw [List.getElem?_append_right q] at hk
    have := List.mem_of_getElem? hk
    rw [List.mem_replicate] at this
    cases this.2
section ZZK
variable {X : zX} {nL : Nat} {Rg : List zD} {fr lo pc pj : Nat} {L : List (Option zV)} {st : List zV} {Ms : List zM} {α β ρ : Type}
/-- two ways that meet at pj, or end ahead of it -/
theorem zz_joinE {x : Option (α ⊕ ρ)} {f : α → Option β} {g : ρ → Option β} {κ : β → Option zO} {Lj : α → List (Option zV)} {Sj : α → List zV} {Mj : α → List zM} (hj : ∀ a, zZ X Rg fr lo nL pj (Lj a) (Sj a) (Mj a) (Option.bind (f a) κ)) (k : ∀ κ' : α ⊕ ρ → Option zO, (∀ a, zZ X Rg fr lo nL pj (Lj a) (Sj a) (Mj a) (κ' (.inl a))) → (∀ r, κ' (.inr r) = Option.bind (g r) κ) → zZ X Rg fr lo nL pc L st Ms (Option.bind x κ')) : zZ X Rg fr lo nL pc L st Ms (Option.bind (Option.bind x (Sum.elim f g)) κ) :=
  zz_bind (k (fun a => Option.bind (Sum.elim f g a) κ) hj fun _ => rfl)
end ZZK
end
section
theorem zCl_0 : zCl 0 := by
  intro q hq
  cases hq
  exact ⟨by decide +kernel, ⟨tyX0, tyX0_ok⟩, nmX0⟩
theorem zCl_1 : zCl 1 := by
  intro q hq
  cases hq
  exact ⟨by decide +kernel, ⟨tyX1, tyX1_ok⟩, nmX1⟩
theorem zCl_2 : zCl 2 := by
  intro q hq
  cases hq
  exact ⟨by decide +kernel, ⟨tyX2, tyX2_ok⟩, nmX2⟩
theorem zCl_3 : zCl 3 := by
  intro q hq
  cases hq
  exact ⟨by decide +kernel, ⟨tyX3, tyX3_ok⟩, nmX3⟩
theorem zCl_4 : zCl 4 := by
  intro q hq
  cases hq
  exact ⟨by decide +kernel, ⟨tyX4, tyX4_ok⟩, nmX4⟩
theorem zCl_5 : zCl 5 := by
  intro q hq
  cases hq
  exact ⟨by decide +kernel, ⟨tyX5, tyX5_ok⟩, nmX5⟩
theorem zCl_6 : zCl 6 := by
  intro q hq
  cases hq
  exact ⟨by decide +kernel, ⟨tyX6, tyX6_ok⟩, nmX6⟩
theorem zCl_7 : zCl 7 := by
  intro q hq
  cases hq
  exact ⟨by decide +kernel, ⟨tyX8, tyX8_ok⟩, nmX8⟩
theorem zCl_8 : zCl 8 := by
  intro q hq
  cases hq
  exact ⟨by decide +kernel, ⟨tyX9, tyX9_ok⟩, nmX9⟩
theorem zCl_9 : zCl 9 := by
  intro q hq
  cases hq
  exact ⟨by decide +kernel, ⟨tyX10, tyX10_ok⟩, nmX10⟩
theorem zCl_10 : zCl 10 := by
  intro q hq
  cases hq
  exact ⟨by decide +kernel, ⟨tyX11, tyX11_ok⟩, nmX11⟩
end
section
theorem dX9_outside_0 : decode cX9_outside 0 = .ok (.iload_n 0, 1) := by decide +kernel
theorem dX9_outside_1 : decode cX9_outside 1 = .ok (.iload_n 1, 1) := by decide +kernel
theorem dX9_outside_2 : decode cX9_outside 2 = .ok (.if_icmp .lt 8, 3) := by decide +kernel
theorem dX9_outside_5 : decode cX9_outside 5 = .ok (.iload_n 0, 1) := by decide +kernel
theorem dX9_outside_6 : decode cX9_outside 6 = .ok (.iload_n 2, 1) := by decide +kernel
theorem dX9_outside_7 : decode cX9_outside 7 = .ok (.if_icmp .le 7, 3) := by decide +kernel
theorem dX9_outside_10 : decode cX9_outside 10 = .ok (.iconst 1, 1) := by decide +kernel
theorem dX9_outside_11 : decode cX9_outside 11 = .ok (.goto 4, 3) := by decide +kernel
theorem dX9_outside_14 : decode cX9_outside 14 = .ok (.iconst 0, 1) := by decide +kernel
theorem dX9_outside_15 : decode cX9_outside 15 = .ok (.ireturn, 1) := by decide +kernel
def fWB_outside (a0 : Int32) (a1 : Int32) (a2 : Int32)  : Option (Int32) :=
  if a0 < a1 then
  some (1 : Int32)
else
  if a0 ≤ a2 then
    some (0 : Int32)
  else
    some (1 : Int32)
set_option maxHeartbeats 4000000 in
set_option maxRecDepth 20000 in
theorem bfWB_outside {X : zX} (F : zFr X cX9_outside 3 RX9 (some .boolean)) (a0 : Int32) (a1 : Int32) (a2 : Int32)   {κ : Int32 → Option zO} (hκ : ∀ a, κ a = some ((fun a => ((.inl ((fun q => some (zi q)) a), (fun _ => []) a) : zO)) a)) : zZ X [] 0 0 3 0 [some (zi a0), some (zi a1), some (zi a2)] [] [] (Option.bind (fWB_outside a0 a1 a2) κ) := by
  unfold fWB_outside
  refine zz_iload_n F (i := 0) dX9_outside_0 rfl rfl ?_
  refine zz_iload_n F (i := 1) dX9_outside_1 rfl rfl ?_
  refine zz_icmp_lt F (tgt := 10) dX9_outside_2 (by decide) (fun h => zz_t h ?_) (fun h => zz_f h ?_)
  · refine zz_iconst F (v := (1 : Int32)) dX9_outside_10 (by decide) ?_
    refine zz_goto F (tgt := 15) dX9_outside_11 (by decide) ?_
    exact zz_zreturn F dX9_outside_15 rfl rfl (hκ _)
  · refine zz_iload_n F (i := 0) dX9_outside_5 rfl rfl ?_
    refine zz_iload_n F (i := 2) dX9_outside_6 rfl rfl ?_
    refine zz_icmp_le F (tgt := 14) dX9_outside_7 (by decide) (fun h => zz_t h ?_) (fun h => zz_f h ?_)
    · refine zz_iconst F (v := (0 : Int32)) dX9_outside_14 (by decide) ?_
      exact zz_zreturn F dX9_outside_15 rfl rfl (hκ _)
    · refine zz_iconst F (v := (1 : Int32)) dX9_outside_10 (by decide) ?_
      refine zz_goto F (tgt := 15) dX9_outside_11 (by decide) ?_
      exact zz_zreturn F dX9_outside_15 rfl rfl (hκ _)
theorem zfWB_outside (a0 : Int32) (a1 : Int32) (a2 : Int32)   : ∀ a, fWB_outside a0 a1 a2 = some a → zMet yX9_outside cX9_outside 3 (some .boolean) 0 0 [] [zi a0, zi a1, zi a2] [] ((fun a => ((.inl ((fun q => some (zi q)) a), (fun _ => []) a) : zO)) a) := fun a ha => zMet_of (L0 := [some (zi a0), some (zi a1), some (zi a2)]) (φ := Option.bind (fWB_outside a0 a1 a2) (fun a => some ((fun a => ((.inl ((fun q => some (zi q)) a), (fun _ => []) a) : zO)) a))) (by decide) (fun _ => Nat.le_of_ble_eq_true rfl) (zl0 0 rfl) (fun X F => bfWB_outside F a0 a1 a2 (fun _ => rfl)) (by rw [ha]; rfl)

theorem dX3_addString_0 : decode cX3_addString 0 = .ok (.aload_n 0, 1) := by decide +kernel
theorem dX3_addString_1 : decode cX3_addString 1 = .ok (.getfield 19, 3) := by decide +kernel
theorem dX3_addString_4 : decode cX3_addString 4 = .ok (.aload_n 0, 1) := by decide +kernel
theorem dX3_addString_5 : decode cX3_addString 5 = .ok (.getfield 50, 3) := by decide +kernel
theorem dX3_addString_8 : decode cX3_addString 8 = .ok (.aaload, 1) := by decide +kernel
theorem dX3_addString_9 : decode cX3_addString 9 = .ok (.iload_n 1, 1) := by decide +kernel
theorem dX3_addString_10 : decode cX3_addString 10 = .ok (.putfield 53, 3) := by decide +kernel
theorem dX3_addString_13 : decode cX3_addString 13 = .ok (.aload_n 0, 1) := by decide +kernel
theorem dX3_addString_14 : decode cX3_addString 14 = .ok (.dup, 1) := by decide +kernel
theorem dX3_addString_15 : decode cX3_addString 15 = .ok (.getfield 50, 3) := by decide +kernel
theorem dX3_addString_18 : decode cX3_addString 18 = .ok (.iconst 1, 1) := by decide +kernel
theorem dX3_addString_19 : decode cX3_addString 19 = .ok (.iadd, 1) := by decide +kernel
theorem dX3_addString_20 : decode cX3_addString 20 = .ok (.putfield 50, 3) := by decide +kernel
theorem dX3_addString_23 : decode cX3_addString 23 = .ok (.aload_n 0, 1) := by decide +kernel
theorem dX3_addString_24 : decode cX3_addString 24 = .ok (.getfield 50, 3) := by decide +kernel
theorem dX3_addString_27 : decode cX3_addString 27 = .ok (.iconst 1, 1) := by decide +kernel
theorem dX3_addString_28 : decode cX3_addString 28 = .ok (.isub, 1) := by decide +kernel
theorem dX3_addString_29 : decode cX3_addString 29 = .ok (.ireturn, 1) := by decide +kernel
theorem wfRX3_19 : zFl RX3 19 3 1 := ⟨_, rfl, by decide, zm_f 282 (by decide +kernel) rfl⟩
theorem wfRX3_50 : zFl RX3 50 3 6 := ⟨_, rfl, by decide, zm_f 293 (by decide +kernel) rfl⟩
theorem wpRX3_53 : zFw RX3 53 0 0 .int := ⟨_, rfl, by decide, zm_f 231 (by decide +kernel) rfl, rfl, by decide +kernel⟩
theorem wpRX3_50 : zFw RX3 50 3 6 .int := ⟨_, rfl, by decide, zm_f 293 (by decide +kernel) rfl, rfl, by decide +kernel⟩
def fSe_addString (a1 : Int32) (s0 : zM) : Option (Int32 × zM) :=
  zix (s0 0 0 6) 3 fun j1 =>
  zlet (zu s0 12 j1 0 a1) fun s0_2 =>
  zlet (zu s0_2 0 0 6 ((s0_2 0 0 6) + (1 : Int32))) fun s0_3 =>
  some (((s0_3 0 0 6) - (1 : Int32)), s0_3)
set_option maxHeartbeats 4000000 in
set_option maxRecDepth 20000 in
theorem bfSe_addString {X : zX} (F : zFr X cX3_addString 2 RX3 (some .int)) (a1 : Int32)  (s0 : zM) {κ : Int32 × zM → Option zO} (hκ : ∀ a, κ a = some ((fun a => ((.inl ((fun q => some (zi q.1)) a), (fun q => [q.2]) a) : zO)) a)) : zZ X [(0, [])] 0 0 2 0 [some (zr 0 0 0), some (zi a1)] [] [s0] (Option.bind (fSe_addString a1 s0) κ) := by
  unfold fSe_addString
  refine zz_aload_n F (i := 0) dX3_addString_0 rfl rfl ?_
  refine zz_getr F dX3_addString_1 wfRX3_19 zCl_3 rfl (⟨zlb rfl, zlb rfl, zlb rfl⟩) rfl (by decide) rfl (r' := 0) (by decide) ?_
  refine zz_aload_n F (i := 0) dX3_addString_4 rfl rfl ?_
  refine zz_getf F dX3_addString_5 wfRX3_50 zCl_3 rfl (⟨zlb rfl, zlb rfl, zlb rfl⟩) rfl (by decide) rfl rfl ?_
  refine zz_ix fun j1 hj1 hinj1 hej1 => zz_aal F dX3_addString_8 rfl (⟨zlb rfl, zlb rfl, zlb rfl⟩) rfl (by decide) rfl hinj1 hej1 rfl ?_
  refine zz_iload_n F (i := 1) dX3_addString_9 rfl rfl ?_
  refine zz_put F (Ms' := [(zu s0 12 j1 0 a1)]) dX3_addString_10 wpRX3_53 zCl_0 rfl (⟨zlb rfl, zlb rfl, hj1⟩) rfl (by decide) rfl rfl rfl ?_
  refine zz_letm (Mf := fun s0_2 => [s0_2]) fun s0_2 => ?_
  refine zz_aload_n F (i := 0) dX3_addString_13 rfl rfl ?_
  refine zz_dup F dX3_addString_14 rfl ?_
  refine zz_getf F dX3_addString_15 wfRX3_50 zCl_3 rfl (⟨zlb rfl, zlb rfl, zlb rfl⟩) rfl (by decide) rfl rfl ?_
  refine zz_iconst F (v := (1 : Int32)) dX3_addString_18 (by decide) ?_
  refine zz_iadd F dX3_addString_19 ?_
  refine zz_put F (Ms' := [(zu s0_2 0 0 6 ((s0_2 0 0 6) + (1 : Int32)))]) dX3_addString_20 wpRX3_50 zCl_3 rfl (⟨zlb rfl, zlb rfl, zlb rfl⟩) rfl (by decide) rfl rfl rfl ?_
  refine zz_letm (Mf := fun s0_3 => [s0_3]) fun s0_3 => ?_
  refine zz_aload_n F (i := 0) dX3_addString_23 rfl rfl ?_
  refine zz_getf F dX3_addString_24 wfRX3_50 zCl_3 rfl (⟨zlb rfl, zlb rfl, zlb rfl⟩) rfl (by decide) rfl rfl ?_
  refine zz_iconst F (v := (1 : Int32)) dX3_addString_27 (by decide) ?_
  refine zz_isub F dX3_addString_28 ?_
  exact zz_ireturn F dX3_addString_29 rfl (hκ _)
theorem zfSe_addString (a1 : Int32)  (s0 : zM) : ∀ a, fSe_addString a1 s0 = some a → zMet yX3_addString cX3_addString 2 (some .int) 0 0 [(0, [])] [zr 0 0 0, zi a1] [s0] ((fun a => ((.inl ((fun q => some (zi q.1)) a), (fun q => [q.2]) a) : zO)) a) := fun a ha => zMet_of (L0 := [some (zr 0 0 0), some (zi a1)]) (φ := Option.bind (fSe_addString a1 s0) (fun a => some ((fun a => ((.inl ((fun q => some (zi q.1)) a), (fun q => [q.2]) a) : zO)) a))) (by decide) (fun _ => Nat.le_of_ble_eq_true rfl) (zl0 0 rfl) (fun X F => bfSe_addString F a1 s0 (fun _ => rfl)) (by rw [ha]; rfl)

theorem dX9_string_0 : decode cX9_string 0 = .ok (.iload_n 1, 1) := by decide +kernel
theorem dX9_string_1 : decode cX9_string 1 = .ok (.bipush 100, 2) := by decide +kernel
theorem dX9_string_3 : decode cX9_string 3 = .ok (.sipush 9999, 3) := by decide +kernel
theorem dX9_string_6 : decode cX9_string 6 = .ok (.invokestatic 26, 3) := by decide +kernel
theorem dX9_string_9 : decode cX9_string 9 = .ok (.ifCond .eq 13, 3) := by decide +kernel
theorem dX9_string_12 : decode cX9_string 12 = .ok (.new 30, 3) := by decide +kernel
theorem dX9_string_15 : decode cX9_string 15 = .ok (.dup, 1) := by decide +kernel
theorem dX9_string_16 : decode cX9_string 16 = .ok (.ldc 32, 2) := by decide +kernel
theorem dX9_string_18 : decode cX9_string 18 = .ok (.invokespecial 34, 3) := by decide +kernel
theorem dX9_string_21 : decode cX9_string 21 = .ok (.athrow, 1) := by decide +kernel
theorem dX9_string_22 : decode cX9_string 22 = .ok (.aload_n 0, 1) := by decide +kernel
theorem dX9_string_23 : decode cX9_string 23 = .ok (.getfield 10, 3) := by decide +kernel
theorem dX9_string_26 : decode cX9_string 26 = .ok (.getfield 37, 3) := by decide +kernel
theorem dX9_string_29 : decode cX9_string 29 = .ok (.iconst 3, 1) := by decide +kernel
theorem dX9_string_30 : decode cX9_string 30 = .ok (.if_icmp .lt 13, 3) := by decide +kernel
theorem dX9_string_33 : decode cX9_string 33 = .ok (.new 41, 3) := by decide +kernel
theorem dX9_string_36 : decode cX9_string 36 = .ok (.dup, 1) := by decide +kernel
theorem dX9_string_37 : decode cX9_string 37 = .ok (.ldc 43, 2) := by decide +kernel
theorem dX9_string_39 : decode cX9_string 39 = .ok (.invokespecial 45, 3) := by decide +kernel
theorem dX9_string_42 : decode cX9_string 42 = .ok (.athrow, 1) := by decide +kernel
theorem dX9_string_43 : decode cX9_string 43 = .ok (.aload_n 0, 1) := by decide +kernel
theorem dX9_string_44 : decode cX9_string 44 = .ok (.getfield 10, 3) := by decide +kernel
theorem dX9_string_47 : decode cX9_string 47 = .ok (.iload_n 1, 1) := by decide +kernel
theorem dX9_string_48 : decode cX9_string 48 = .ok (.invokevirtual 46, 3) := by decide +kernel
theorem dX9_string_51 : decode cX9_string 51 = .ok (.ireturn, 1) := by decide +kernel
theorem wcRX9_26 : Cond.methodLink RX9 26 yX9_outside ∈ zTg ∧ Cond.static yX9_outside ∈ zTg ∧ Cond.initialized yX9_outside.cls ∈ zTg ∧ Cond.code yX9_outside cX9_outside 3 (some .boolean) ∈ zTg := ⟨zm_f 539 (by decide +kernel) rfl, zm_f 540 (by decide +kernel) rfl, zm_f 37 (by decide +kernel) rfl, zm_f 541 (by decide +kernel) rfl⟩
theorem wy_yX9_outside : yX9_outside.cls ≠ "java/lang/invoke/MethodHandle" ∧ yX9_outside.cls ≠ "java/lang/invoke/VarHandle" ∧ (parseMethodDescriptor yX9_outside.desc).map (fun d => d.parameters.length) = some 3 := by decide +kernel
theorem rel0 : zRel [] [(2, [1, 2, 3]), (0, []), (0, []), (1, [])] [] := by unfold zRel; decide
theorem wfRX9_10 : zFl RX9 10 8 0 := ⟨_, rfl, by decide, zm_f 339 (by decide +kernel) rfl⟩
theorem wfRX9_37 : zFl RX9 37 3 6 := ⟨_, rfl, by decide, zm_f 294 (by decide +kernel) rfl⟩
theorem wcRX9_46 : Cond.methodLink RX9 46 yX3_addString ∈ zTg ∧ Cond.instanceMethod yX3_addString ∈ zTg ∧ Cond.selects RX3 yX3_addString yX3_addString ∈ zTg ∧ Cond.initialized RX3 ∈ zTg ∧ Cond.code yX3_addString cX3_addString 2 (some .int) ∈ zTg := ⟨zm_f 773 (by decide +kernel) rfl, zm_f 774 (by decide +kernel) rfl, zm_f 775 (by decide +kernel) rfl, zm_f 38 (by decide +kernel) rfl, zm_f 776 (by decide +kernel) rfl⟩
theorem wy_yX3_addString : yX3_addString.cls = RX3 ∧ yX3_addString.cls ≠ "java/lang/invoke/MethodHandle" ∧ yX3_addString.cls ≠ "java/lang/invoke/VarHandle" ∧ (parseMethodDescriptor yX3_addString.desc).map (fun d => d.parameters.length) = some 1 := by decide +kernel
theorem rel1 : zRel [1] [(2, [1, 2, 3]), (0, []), (0, []), (1, [])] [(0, [])] := by unfold zRel; decide
theorem wtRX9_41_45k : Cond.classLink RX9 41 "java/lang/IllegalStateException" ∈ zTg ∧ Cond.initialized "java/lang/IllegalStateException" ∈ zTg := ⟨zm_f 757 (by decide +kernel) rfl, zm_f 52 (by decide +kernel) rfl⟩
theorem wtRX9_41_45g : ∀ w ∈ (vx_atS RX9 45 "java/lang/IllegalStateException" ["java/lang/RuntimeException", "java/lang/Exception"]).filter goodWord, w ∈ zTg := by decide +kernel
theorem wtRX9_41_45n : ∀ w ∈ (vx_atS RX9 45 "java/lang/IllegalStateException" ["java/lang/RuntimeException", "java/lang/Exception"]).filter (fun w => !goodWord w), w ∈ zNws := by decide +kernel
theorem wtRX9_41_45o : ∀ w ∈ Cond.classLink RX9 41 "java/lang/IllegalStateException" :: Cond.initialized "java/lang/IllegalStateException" :: vx_atS RX9 45 "java/lang/IllegalStateException" ["java/lang/RuntimeException", "java/lang/Exception"], vx_ot w = true := by decide +kernel
theorem wsRX9_43 : (RX9, 43, "there are 3 STRINGS") ∈ zstr := by decide +kernel
theorem wtRX9_30_34k : Cond.classLink RX9 30 "java/lang/IllegalArgumentException" ∈ zTg ∧ Cond.initialized "java/lang/IllegalArgumentException" ∈ zTg := ⟨zm_f 420 (by decide +kernel) rfl, zm_f 51 (by decide +kernel) rfl⟩
theorem wtRX9_30_34g : ∀ w ∈ (vx_atS RX9 34 "java/lang/IllegalArgumentException" ["java/lang/RuntimeException", "java/lang/Exception"]).filter goodWord, w ∈ zTg := by decide +kernel
theorem wtRX9_30_34n : ∀ w ∈ (vx_atS RX9 34 "java/lang/IllegalArgumentException" ["java/lang/RuntimeException", "java/lang/Exception"]).filter (fun w => !goodWord w), w ∈ zNws := by decide +kernel
theorem wtRX9_30_34o : ∀ w ∈ Cond.classLink RX9 30 "java/lang/IllegalArgumentException" :: Cond.initialized "java/lang/IllegalArgumentException" :: vx_atS RX9 34 "java/lang/IllegalArgumentException" ["java/lang/RuntimeException", "java/lang/Exception"], vx_ot w = true := by decide +kernel
theorem wsRX9_32 : (RX9, 32, "a RATING is 100 to 9999") ∈ zstr := by decide +kernel
def fWB_string (a1 : Int32) (s0 : zM) (s1 : zM) (s2 : zM) (s3 : zM) : Option ((Int32 × zM) ⊕ (String × zM)) :=
  Option.bind (fWB_outside a1 (100 : Int32) (9999 : Int32)) fun q1 =>
  if q1 = 0 then
  if (s1 0 0 6) < (3 : Int32) then
    Option.bind (fSe_addString a1 s1) fun q2 =>
      some (.inl (q2.1, q2.2))
  else
    some (.inr ("java/lang/IllegalStateException", s1))
else
  some (.inr ("java/lang/IllegalArgumentException", s1))
set_option maxHeartbeats 4000000 in
set_option maxRecDepth 20000 in
theorem bfWB_string {X : zX} (F : zFr X cX9_string 2 RX9 (some .int)) (a1 : Int32)  (s0 : zM) (s1 : zM) (s2 : zM) (s3 : zM) {κ : (Int32 × zM) ⊕ (String × zM) → Option zO} (hκ : ∀ a, κ a = some ((zts (fun q => some (zi q.1)) (fun q => [s0, q.2, s2, s3]) (fun b => b.1) (fun b => [s0, b.2, s2, s3])) a)) : zZ X [(2, [1, 2, 3]), (0, []), (0, []), (1, [])] 6 90 2 0 [some (zr 0 0 0), some (zi a1)] [] [s0, s1, s2, s3] (Option.bind (fWB_string a1 s0 s1 s2 s3) κ) := by
  unfold fWB_string
  refine zz_iload_n F (i := 1) dX9_string_0 rfl rfl ?_
  refine zz_bipush F (v := (100 : Int32)) dX9_string_1 (by decide) ?_
  refine zz_sipush F (v := (9999 : Int32)) dX9_string_3 (by decide) ?_
  refine zz_bind ?_
  refine zz_callSr F (ρ := []) (so := fun q1 => [zi q1]) (Mo := fun q1 => [s0, s1, s2, s3]) (zfWB_outside a1 (100 : Int32) (9999 : Int32)) dX9_string_6 wcRX9_26 wy_yX9_outside rfl ⟨rel0, rfl, rfl, Nat.le_of_ble_eq_true rfl, Nat.le_of_ble_eq_true rfl, Nat.le_of_ble_eq_true rfl⟩ rfl (fun _ => rfl) (fun _ => rfl) fun q1 => ?_
  refine zz_if_eq F (tgt := 22) dX9_string_9 (by decide) (fun h => zz_t h ?_) (fun h => zz_f h ?_)
  · refine zz_aload_n F (i := 0) dX9_string_22 rfl rfl ?_
    refine zz_getr F dX9_string_23 wfRX9_10 zCl_8 rfl (⟨zlb rfl, zlb rfl, zlb rfl⟩) rfl (by decide) rfl (r' := 1) (by decide) ?_
    refine zz_getf F dX9_string_26 wfRX9_37 zCl_3 rfl (⟨zlb rfl, zlb rfl, zlb rfl⟩) rfl (by decide) rfl rfl ?_
    refine zz_iconst F (v := (3 : Int32)) dX9_string_29 (by decide) ?_
    refine zz_icmp_lt F (tgt := 43) dX9_string_30 (by decide) (fun h => zz_t h ?_) (fun h => zz_f h ?_)
    · refine zz_aload_n F (i := 0) dX9_string_43 rfl rfl ?_
      refine zz_getr F dX9_string_44 wfRX9_10 zCl_8 rfl (⟨zlb rfl, zlb rfl, zlb rfl⟩) rfl (by decide) rfl (r' := 1) (by decide) ?_
      refine zz_iload_n F (i := 1) dX9_string_47 rfl rfl ?_
      refine zz_bind ?_
      refine zz_callVr F (ρ := [1]) (so := fun q2 => [zi q2.1]) (Mo := fun q2 => [s0, q2.2, s2, s3]) (zfSe_addString a1 s1) dX9_string_48 wcRX9_46 wy_yX3_addString rfl ⟨rel1, rfl, rfl, Nat.le_of_ble_eq_true rfl, Nat.le_of_ble_eq_true rfl, Nat.le_of_ble_eq_true rfl⟩ (⟨zlb rfl, zlb rfl, zlb rfl⟩) rfl rfl rfl (fun _ => rfl) (fun _ => rfl) fun q2 => ?_
      exact zz_ireturn F dX9_string_51 rfl (hκ _)
    · exact zz_throw F (cls := "java/lang/IllegalStateException") dX9_string_33 dX9_string_36 dX9_string_37 dX9_string_39 dX9_string_42 (by decide) wtRX9_41_45k wsRX9_43 wtRX9_41_45g wtRX9_41_45n wtRX9_41_45o (Nat.le_of_ble_eq_true rfl) (Nat.le_of_ble_eq_true rfl) (hκ _)
  · exact zz_throw F (cls := "java/lang/IllegalArgumentException") dX9_string_12 dX9_string_15 dX9_string_16 dX9_string_18 dX9_string_21 (by decide) wtRX9_30_34k wsRX9_32 wtRX9_30_34g wtRX9_30_34n wtRX9_30_34o (Nat.le_of_ble_eq_true rfl) (Nat.le_of_ble_eq_true rfl) (hκ _)
theorem zfWB_string (a1 : Int32)  (s0 : zM) (s1 : zM) (s2 : zM) (s3 : zM) : ∀ a, fWB_string a1 s0 s1 s2 s3 = some a → zMet yX9_string cX9_string 2 (some .int) 6 90 [(2, [1, 2, 3]), (0, []), (0, []), (1, [])] [zr 0 0 0, zi a1] [s0, s1, s2, s3] ((zts (fun q => some (zi q.1)) (fun q => [s0, q.2, s2, s3]) (fun b => b.1) (fun b => [s0, b.2, s2, s3])) a) := fun a ha => zMet_of (L0 := [some (zr 0 0 0), some (zi a1)]) (φ := Option.bind (fWB_string a1 s0 s1 s2 s3) (fun a => some ((zts (fun q => some (zi q.1)) (fun q => [s0, q.2, s2, s3]) (fun b => b.1) (fun b => [s0, b.2, s2, s3])) a))) (by decide) (fun _ => Nat.le_of_ble_eq_true rfl) (zl0 0 rfl) (fun X F => bfWB_string F a1 s0 s1 s2 s3 (fun _ => rfl)) (by rw [ha]; rfl)

theorem dX9_checkString_0 : decode cX9_checkString 0 = .ok (.iload_n 1, 1) := by decide +kernel
theorem dX9_checkString_1 : decode cX9_checkString 1 = .ok (.ifCond .lt 14, 3) := by decide +kernel
theorem dX9_checkString_4 : decode cX9_checkString 4 = .ok (.iload_n 1, 1) := by decide +kernel
theorem dX9_checkString_5 : decode cX9_checkString 5 = .ok (.aload_n 0, 1) := by decide +kernel
theorem dX9_checkString_6 : decode cX9_checkString 6 = .ok (.getfield 10, 3) := by decide +kernel
theorem dX9_checkString_9 : decode cX9_checkString 9 = .ok (.getfield 37, 3) := by decide +kernel
theorem dX9_checkString_12 : decode cX9_checkString 12 = .ok (.if_icmp .lt 14, 3) := by decide +kernel
theorem dX9_checkString_15 : decode cX9_checkString 15 = .ok (.new 238, 3) := by decide +kernel
theorem dX9_checkString_18 : decode cX9_checkString 18 = .ok (.dup, 1) := by decide +kernel
theorem dX9_checkString_19 : decode cX9_checkString 19 = .ok (.ldc_w 364, 3) := by decide +kernel
theorem dX9_checkString_22 : decode cX9_checkString 22 = .ok (.invokespecial 242, 3) := by decide +kernel
theorem dX9_checkString_25 : decode cX9_checkString 25 = .ok (.athrow, 1) := by decide +kernel
theorem dX9_checkString_26 : decode cX9_checkString 26 = .ok (.return_, 1) := by decide +kernel
theorem wtRX9_238_242k : Cond.classLink RX9 238 "java/lang/IndexOutOfBoundsException" ∈ zTg ∧ Cond.initialized "java/lang/IndexOutOfBoundsException" ∈ zTg := ⟨zm_f 504 (by decide +kernel) rfl, zm_f 53 (by decide +kernel) rfl⟩
theorem wtRX9_238_242g : ∀ w ∈ (vx_atS RX9 242 "java/lang/IndexOutOfBoundsException" ["java/lang/RuntimeException", "java/lang/Exception"]).filter goodWord, w ∈ zTg := by decide +kernel
theorem wtRX9_238_242n : ∀ w ∈ (vx_atS RX9 242 "java/lang/IndexOutOfBoundsException" ["java/lang/RuntimeException", "java/lang/Exception"]).filter (fun w => !goodWord w), w ∈ zNws := by decide +kernel
theorem wtRX9_238_242o : ∀ w ∈ Cond.classLink RX9 238 "java/lang/IndexOutOfBoundsException" :: Cond.initialized "java/lang/IndexOutOfBoundsException" :: vx_atS RX9 242 "java/lang/IndexOutOfBoundsException" ["java/lang/RuntimeException", "java/lang/Exception"], vx_ot w = true := by decide +kernel
theorem wsRX9_364 : (RX9, 364, "no such STRING") ∈ zstr := by decide +kernel
def fWB_checkString (a1 : Int32) (s0 : zM) (s1 : zM) (s2 : zM) (s3 : zM) : Option ((Unit) ⊕ (String)) :=
  if a1 < 0 then
  some (.inr "java/lang/IndexOutOfBoundsException")
else
  if a1 < (s1 0 0 6) then
    some (.inl ())
  else
    some (.inr "java/lang/IndexOutOfBoundsException")
set_option maxHeartbeats 4000000 in
set_option maxRecDepth 20000 in
theorem bfWB_checkString {X : zX} (F : zFr X cX9_checkString 2 RX9 none) (a1 : Int32)  (s0 : zM) (s1 : zM) (s2 : zM) (s3 : zM) {κ : (Unit) ⊕ (String) → Option zO} (hκ : ∀ a, κ a = some ((zts (fun _ => (none : Option zV)) (fun _ => [s0, s1, s2, s3]) (fun b => b) (fun _ => [s0, s1, s2, s3])) a)) : zZ X [(2, [1, 2, 3]), (0, []), (0, []), (1, [])] 6 90 2 0 [some (zr 0 0 0), some (zi a1)] [] [s0, s1, s2, s3] (Option.bind (fWB_checkString a1 s0 s1 s2 s3) κ) := by
  unfold fWB_checkString
  refine zz_iload_n F (i := 1) dX9_checkString_0 rfl rfl ?_
  refine zz_if_lt F (tgt := 15) dX9_checkString_1 (by decide) (fun h => zz_t h ?_) (fun h => zz_f h ?_)
  · exact zz_throwW F (cls := "java/lang/IndexOutOfBoundsException") dX9_checkString_15 dX9_checkString_18 dX9_checkString_19 dX9_checkString_22 dX9_checkString_25 (by decide) wtRX9_238_242k wsRX9_364 wtRX9_238_242g wtRX9_238_242n wtRX9_238_242o (Nat.le_of_ble_eq_true rfl) (Nat.le_of_ble_eq_true rfl) (hκ _)
  · refine zz_iload_n F (i := 1) dX9_checkString_4 rfl rfl ?_
    refine zz_aload_n F (i := 0) dX9_checkString_5 rfl rfl ?_
    refine zz_getr F dX9_checkString_6 wfRX9_10 zCl_8 rfl (⟨zlb rfl, zlb rfl, zlb rfl⟩) rfl (by decide) rfl (r' := 1) (by decide) ?_
    refine zz_getf F dX9_checkString_9 wfRX9_37 zCl_3 rfl (⟨zlb rfl, zlb rfl, zlb rfl⟩) rfl (by decide) rfl rfl ?_
    refine zz_icmp_lt F (tgt := 26) dX9_checkString_12 (by decide) (fun h => zz_t h ?_) (fun h => zz_f h ?_)
    · exact zz_return F dX9_checkString_26 rfl (hκ _)
    · exact zz_throwW F (cls := "java/lang/IndexOutOfBoundsException") dX9_checkString_15 dX9_checkString_18 dX9_checkString_19 dX9_checkString_22 dX9_checkString_25 (by decide) wtRX9_238_242k wsRX9_364 wtRX9_238_242g wtRX9_238_242n wtRX9_238_242o (Nat.le_of_ble_eq_true rfl) (Nat.le_of_ble_eq_true rfl) (hκ _)
theorem zfWB_checkString (a1 : Int32)  (s0 : zM) (s1 : zM) (s2 : zM) (s3 : zM) : ∀ a, fWB_checkString a1 s0 s1 s2 s3 = some a → zMet yX9_checkString cX9_checkString 2 none 6 90 [(2, [1, 2, 3]), (0, []), (0, []), (1, [])] [zr 0 0 0, zi a1] [s0, s1, s2, s3] ((zts (fun _ => (none : Option zV)) (fun _ => [s0, s1, s2, s3]) (fun b => b) (fun _ => [s0, s1, s2, s3])) a) := fun a ha => zMet_of (L0 := [some (zr 0 0 0), some (zi a1)]) (φ := Option.bind (fWB_checkString a1 s0 s1 s2 s3) (fun a => some ((zts (fun _ => (none : Option zV)) (fun _ => [s0, s1, s2, s3]) (fun b => b) (fun _ => [s0, s1, s2, s3])) a))) (by decide) (fun _ => Nat.le_of_ble_eq_true rfl) (zl0 0 rfl) (fun X F => bfWB_checkString F a1 s0 s1 s2 s3 (fun _ => rfl)) (by rw [ha]; rfl)

theorem dX3_isTaken_0 : decode cX3_isTaken 0 = .ok (.iconst 0, 1) := by decide +kernel
theorem dX3_isTaken_1 : decode cX3_isTaken 1 = .ok (.istore_n 3, 1) := by decide +kernel
theorem dX3_isTaken_2 : decode cX3_isTaken 2 = .ok (.iload_n 3, 1) := by decide +kernel
theorem dX3_isTaken_3 : decode cX3_isTaken 3 = .ok (.aload_n 0, 1) := by decide +kernel
theorem dX3_isTaken_4 : decode cX3_isTaken 4 = .ok (.getfield 56, 3) := by decide +kernel
theorem dX3_isTaken_7 : decode cX3_isTaken 7 = .ok (.if_icmp .ge 37, 3) := by decide +kernel
theorem dX3_isTaken_10 : decode cX3_isTaken 10 = .ok (.aload_n 0, 1) := by decide +kernel
theorem dX3_isTaken_11 : decode cX3_isTaken 11 = .ok (.getfield 11, 3) := by decide +kernel
theorem dX3_isTaken_14 : decode cX3_isTaken 14 = .ok (.iload_n 3, 1) := by decide +kernel
theorem dX3_isTaken_15 : decode cX3_isTaken 15 = .ok (.aaload, 1) := by decide +kernel
theorem dX3_isTaken_16 : decode cX3_isTaken 16 = .ok (.getfield 59, 3) := by decide +kernel
theorem dX3_isTaken_19 : decode cX3_isTaken 19 = .ok (.iload_n 1, 1) := by decide +kernel
theorem dX3_isTaken_20 : decode cX3_isTaken 20 = .ok (.if_icmp .ne 18, 3) := by decide +kernel
theorem dX3_isTaken_23 : decode cX3_isTaken 23 = .ok (.aload_n 0, 1) := by decide +kernel
theorem dX3_isTaken_24 : decode cX3_isTaken 24 = .ok (.getfield 11, 3) := by decide +kernel
theorem dX3_isTaken_27 : decode cX3_isTaken 27 = .ok (.iload_n 3, 1) := by decide +kernel
theorem dX3_isTaken_28 : decode cX3_isTaken 28 = .ok (.aaload, 1) := by decide +kernel
theorem dX3_isTaken_29 : decode cX3_isTaken 29 = .ok (.getfield 62, 3) := by decide +kernel
theorem dX3_isTaken_32 : decode cX3_isTaken 32 = .ok (.iload_n 2, 1) := by decide +kernel
theorem dX3_isTaken_33 : decode cX3_isTaken 33 = .ok (.if_icmp .ne 5, 3) := by decide +kernel
theorem dX3_isTaken_36 : decode cX3_isTaken 36 = .ok (.iconst 1, 1) := by decide +kernel
theorem dX3_isTaken_37 : decode cX3_isTaken 37 = .ok (.ireturn, 1) := by decide +kernel
theorem dX3_isTaken_38 : decode cX3_isTaken 38 = .ok (.iinc 3 1, 3) := by decide +kernel
theorem dX3_isTaken_41 : decode cX3_isTaken 41 = .ok (.goto (-39), 3) := by decide +kernel
theorem dX3_isTaken_44 : decode cX3_isTaken 44 = .ok (.iconst 0, 1) := by decide +kernel
theorem dX3_isTaken_45 : decode cX3_isTaken 45 = .ok (.ireturn, 1) := by decide +kernel
theorem wfRX3_56 : zFl RX3 56 3 5 := ⟨_, rfl, by decide, zm_f 291 (by decide +kernel) rfl⟩
theorem wfRX3_11 : zFl RX3 11 3 0 := ⟨_, rfl, by decide, zm_f 279 (by decide +kernel) rfl⟩
theorem wfRX3_59 : zFl RX3 59 5 0 := ⟨_, rfl, by decide, zm_f 163 (by decide +kernel) rfl⟩
theorem wfRX3_62 : zFl RX3 62 5 1 := ⟨_, rfl, by decide, zm_f 166 (by decide +kernel) rfl⟩
def fSe_isTaken_l2 (a1 : Int32) (a2 : Int32) (s0 : zM) (q1 : Int32) : Option ((Int32) ⊕ ((Unit) ⊕ (Int32))) :=
  if (s0 0 0 5) ≤ q1 then
  some (.inr (.inl ()))
else
  zix q1 8 fun j3 =>
    if (s0 7 j3 0) = a1 then
    zix q1 8 fun j5 =>
      if (s0 7 j5 1) = a2 then
      some (.inr (.inr (1 : Int32)))
    else
      zlet (q1 + 1) fun v6 =>
        some (.inl v6)
  else
    zlet (q1 + 1) fun v4 =>
      some (.inl v4)
def fSe_isTaken (a1 : Int32) (a2 : Int32) (s0 : zM) : Option (Int32) :=
  Option.bind (ziter (fSe_isTaken_l2 a1 a2 s0) 1000 (0 : Int32)) (Sum.elim (fun _ =>
  some (0 : Int32)) (fun r => some r))
set_option maxHeartbeats 4000000 in
set_option maxRecDepth 20000 in
theorem bfSe_isTaken_l2 {X : zX} (F : zFr X cX3_isTaken 4 RX3 (some .boolean)) (a1 : Int32) (a2 : Int32) (s0 : zM)  {ψ : (Int32) ⊕ ((Unit) ⊕ (Int32)) → Option zO} (h1 : ∀ q1 : Int32, zZ X [(0, [])] 0 0 4 2 [some (zr 0 0 0), some (zi a1), some (zi a2), some (zi q1)] [] [s0] (ψ (.inl q1))) (h2 : ∀ q2 : Unit, zZ X [(0, [])] 0 0 4 44 [none, none, none, none] [] [s0] (ψ (.inr (.inl q2)))) (h3 : ∀ r, ψ (.inr (.inr r)) = some ((fun a => ((.inl ((fun q => some (zi q)) a), (fun _ => [s0]) a) : zO)) r)) (q1 : Int32) : zZ X [(0, [])] 0 0 4 2 [some (zr 0 0 0), some (zi a1), some (zi a2), some (zi q1)] [] [s0] (Option.bind (fSe_isTaken_l2 a1 a2 s0 q1) ψ) := by
  unfold fSe_isTaken_l2
  refine zz_iload_n F (i := 3) dX3_isTaken_2 rfl rfl ?_
  refine zz_aload_n F (i := 0) dX3_isTaken_3 rfl rfl ?_
  refine zz_getf F dX3_isTaken_4 wfRX3_56 zCl_3 rfl (⟨zlb rfl, zlb rfl, zlb rfl⟩) rfl (by decide) rfl rfl ?_
  refine zz_icmp_ge F (tgt := 44) dX3_isTaken_7 (by decide) (fun h => zz_t h ?_) (fun h => zz_f h ?_)
  · exact zz_sub (zs_n (zs_n (zs_n (zs_n zs_z)))) (h2 ())
  · refine zz_aload_n F (i := 0) dX3_isTaken_10 rfl rfl ?_
    refine zz_getr F dX3_isTaken_11 wfRX3_11 zCl_3 rfl (⟨zlb rfl, zlb rfl, zlb rfl⟩) rfl (by decide) rfl (r' := 0) (by decide) ?_
    refine zz_iload_n F (i := 3) dX3_isTaken_14 rfl rfl ?_
    refine zz_ix fun j3 hj3 hinj3 hej3 => zz_aal F dX3_isTaken_15 rfl (⟨zlb rfl, zlb rfl, zlb rfl⟩) rfl (by decide) rfl hinj3 hej3 rfl ?_
    refine zz_getf F dX3_isTaken_16 wfRX3_59 zCl_5 rfl (⟨zlb rfl, zlb rfl, hj3⟩) rfl (by decide) rfl rfl ?_
    refine zz_iload_n F (i := 1) dX3_isTaken_19 rfl rfl ?_
    refine zz_icmp_ne F (tgt := 38) dX3_isTaken_20 (by decide) (fun h => zz_f h ?_) (fun h => zz_t h ?_)
    · refine zz_iinc F (i := 3) (v := q1 + 1) (L' := [some (zr 0 0 0), some (zi a1), some (zi a2), some (zi (q1 + 1))]) dX3_isTaken_38 rfl (by first | rfl | decide) (by decide) rfl rfl ?_
      refine zz_letl (Lf := fun v4 => [some (zr 0 0 0), some (zi a1), some (zi a2), some (zi v4)]) fun v4 => ?_
      refine zz_goto F (tgt := 2) dX3_isTaken_41 (by decide) ?_
      exact zz_sub (zs_k (zs_k (zs_k (zs_k zs_z)))) (h1 v4)
    · refine zz_aload_n F (i := 0) dX3_isTaken_23 rfl rfl ?_
      refine zz_getr F dX3_isTaken_24 wfRX3_11 zCl_3 rfl (⟨zlb rfl, zlb rfl, zlb rfl⟩) rfl (by decide) rfl (r' := 0) (by decide) ?_
      refine zz_iload_n F (i := 3) dX3_isTaken_27 rfl rfl ?_
      refine zz_ix fun j5 hj5 hinj5 hej5 => zz_aal F dX3_isTaken_28 rfl (⟨zlb rfl, zlb rfl, zlb rfl⟩) rfl (by decide) rfl hinj5 hej5 rfl ?_
      refine zz_getf F dX3_isTaken_29 wfRX3_62 zCl_5 rfl (⟨zlb rfl, zlb rfl, hj5⟩) rfl (by decide) rfl rfl ?_
      refine zz_iload_n F (i := 2) dX3_isTaken_32 rfl rfl ?_
      refine zz_icmp_ne F (tgt := 38) dX3_isTaken_33 (by decide) (fun h => zz_f h ?_) (fun h => zz_t h ?_)
      · refine zz_iinc F (i := 3) (v := q1 + 1) (L' := [some (zr 0 0 0), some (zi a1), some (zi a2), some (zi (q1 + 1))]) dX3_isTaken_38 rfl (by first | rfl | decide) (by decide) rfl rfl ?_
        refine zz_letl (Lf := fun v6 => [some (zr 0 0 0), some (zi a1), some (zi a2), some (zi v6)]) fun v6 => ?_
        refine zz_goto F (tgt := 2) dX3_isTaken_41 (by decide) ?_
        exact zz_sub (zs_k (zs_k (zs_k (zs_k zs_z)))) (h1 v6)
      · refine zz_iconst F (v := (1 : Int32)) dX3_isTaken_36 (by decide) ?_
        exact zz_zreturn F dX3_isTaken_37 rfl rfl (h3 _)
set_option maxHeartbeats 4000000 in
set_option maxRecDepth 20000 in
theorem bfSe_isTaken {X : zX} (F : zFr X cX3_isTaken 4 RX3 (some .boolean)) (a1 : Int32) (a2 : Int32)  (s0 : zM) {κ : Int32 → Option zO} (hκ : ∀ a, κ a = some ((fun a => ((.inl ((fun q => some (zi q)) a), (fun _ => [s0]) a) : zO)) a)) : zZ X [(0, [])] 0 0 4 0 [some (zr 0 0 0), some (zi a1), some (zi a2), none] [] [s0] (Option.bind (fSe_isTaken a1 a2 s0) κ) := by
  unfold fSe_isTaken
  refine zz_iconst F (v := (0 : Int32)) dX3_isTaken_0 (by decide) ?_
  refine zz_istore_n F (i := 3) (L' := [some (zr 0 0 0), some (zi a1), some (zi a2), some (zi (0 : Int32))]) dX3_isTaken_1 rfl (by decide) rfl rfl ?_
  refine zz_sub (zs_k (zs_k (zs_k (zs_k zs_z)))) ?_
  refine zz_bind ?_
  refine zz_iter (Lf := fun q1 => [some (zr 0 0 0), some (zi a1), some (zi a2), some (zi q1)]) (Mf := fun q1 => [s0]) (fun q1 ψ h1 h2 => bfSe_isTaken_l2 F a1 a2 s0  h1 (fun q2 => ?_) (fun r => ?_) q1) 1000 (0 : Int32)
  · rw [h2]
    dsimp only [Sum.elim_inl]
    refine zz_iconst F (v := (0 : Int32)) dX3_isTaken_44 (by decide) ?_
    exact zz_zreturn F dX3_isTaken_45 rfl rfl (hκ _)
  · exact (h2 _).trans (hκ _)
theorem zfSe_isTaken (a1 : Int32) (a2 : Int32)  (s0 : zM) : ∀ a, fSe_isTaken a1 a2 s0 = some a → zMet yX3_isTaken cX3_isTaken 4 (some .boolean) 0 0 [(0, [])] [zr 0 0 0, zi a1, zi a2] [s0] ((fun a => ((.inl ((fun q => some (zi q)) a), (fun _ => [s0]) a) : zO)) a) := fun a ha => zMet_of (L0 := [some (zr 0 0 0), some (zi a1), some (zi a2), none]) (φ := Option.bind (fSe_isTaken a1 a2 s0) (fun a => some ((fun a => ((.inl ((fun q => some (zi q)) a), (fun _ => [s0]) a) : zO)) a))) (by decide) (fun _ => Nat.le_of_ble_eq_true rfl) (zl0 1 rfl) (fun X F => bfSe_isTaken F a1 a2 s0 (fun _ => rfl)) (by rw [ha]; rfl)

theorem dX3_addTurbine_0 : decode cX3_addTurbine 0 = .ok (.aload_n 0, 1) := by decide +kernel
theorem dX3_addTurbine_1 : decode cX3_addTurbine 1 = .ok (.getfield 11, 3) := by decide +kernel
theorem dX3_addTurbine_4 : decode cX3_addTurbine 4 = .ok (.aload_n 0, 1) := by decide +kernel
theorem dX3_addTurbine_5 : decode cX3_addTurbine 5 = .ok (.getfield 56, 3) := by decide +kernel
theorem dX3_addTurbine_8 : decode cX3_addTurbine 8 = .ok (.aaload, 1) := by decide +kernel
theorem dX3_addTurbine_9 : decode cX3_addTurbine 9 = .ok (.astore 4, 2) := by decide +kernel
theorem dX3_addTurbine_11 : decode cX3_addTurbine 11 = .ok (.aload 4, 2) := by decide +kernel
theorem dX3_addTurbine_13 : decode cX3_addTurbine 13 = .ok (.iload_n 1, 1) := by decide +kernel
theorem dX3_addTurbine_14 : decode cX3_addTurbine 14 = .ok (.putfield 59, 3) := by decide +kernel
theorem dX3_addTurbine_17 : decode cX3_addTurbine 17 = .ok (.aload 4, 2) := by decide +kernel
theorem dX3_addTurbine_19 : decode cX3_addTurbine 19 = .ok (.iload_n 2, 1) := by decide +kernel
theorem dX3_addTurbine_20 : decode cX3_addTurbine 20 = .ok (.putfield 62, 3) := by decide +kernel
theorem dX3_addTurbine_23 : decode cX3_addTurbine 23 = .ok (.aload 4, 2) := by decide +kernel
theorem dX3_addTurbine_25 : decode cX3_addTurbine 25 = .ok (.iload_n 3, 1) := by decide +kernel
theorem dX3_addTurbine_26 : decode cX3_addTurbine 26 = .ok (.putfield 65, 3) := by decide +kernel
theorem dX3_addTurbine_29 : decode cX3_addTurbine 29 = .ok (.aload_n 0, 1) := by decide +kernel
theorem dX3_addTurbine_30 : decode cX3_addTurbine 30 = .ok (.dup, 1) := by decide +kernel
theorem dX3_addTurbine_31 : decode cX3_addTurbine 31 = .ok (.getfield 56, 3) := by decide +kernel
theorem dX3_addTurbine_34 : decode cX3_addTurbine 34 = .ok (.iconst 1, 1) := by decide +kernel
theorem dX3_addTurbine_35 : decode cX3_addTurbine 35 = .ok (.iadd, 1) := by decide +kernel
theorem dX3_addTurbine_36 : decode cX3_addTurbine 36 = .ok (.putfield 56, 3) := by decide +kernel
theorem dX3_addTurbine_39 : decode cX3_addTurbine 39 = .ok (.aload_n 0, 1) := by decide +kernel
theorem dX3_addTurbine_40 : decode cX3_addTurbine 40 = .ok (.getfield 56, 3) := by decide +kernel
theorem dX3_addTurbine_43 : decode cX3_addTurbine 43 = .ok (.iconst 1, 1) := by decide +kernel
theorem dX3_addTurbine_44 : decode cX3_addTurbine 44 = .ok (.isub, 1) := by decide +kernel
theorem dX3_addTurbine_45 : decode cX3_addTurbine 45 = .ok (.ireturn, 1) := by decide +kernel
theorem wpRX3_59 : zFw RX3 59 5 0 .int := ⟨_, rfl, by decide, zm_f 163 (by decide +kernel) rfl, rfl, by decide +kernel⟩
theorem wpRX3_62 : zFw RX3 62 5 1 .int := ⟨_, rfl, by decide, zm_f 166 (by decide +kernel) rfl, rfl, by decide +kernel⟩
theorem wpRX3_65 : zFw RX3 65 5 2 .int := ⟨_, rfl, by decide, zm_f 169 (by decide +kernel) rfl, rfl, by decide +kernel⟩
theorem wpRX3_56 : zFw RX3 56 3 5 .int := ⟨_, rfl, by decide, zm_f 291 (by decide +kernel) rfl, rfl, by decide +kernel⟩
def fSe_addTurbine (a1 : Int32) (a2 : Int32) (a3 : Int32) (s0 : zM) : Option (Int32 × zM) :=
  zix (s0 0 0 5) 8 fun j1 =>
  zlet (zu s0 7 j1 0 a1) fun s0_2 =>
  zlet (zu s0_2 7 j1 1 a2) fun s0_3 =>
  zlet (zu s0_3 7 j1 2 a3) fun s0_4 =>
  zlet (zu s0_4 0 0 5 ((s0_4 0 0 5) + (1 : Int32))) fun s0_5 =>
  some (((s0_5 0 0 5) - (1 : Int32)), s0_5)
set_option maxHeartbeats 4000000 in
set_option maxRecDepth 20000 in
theorem bfSe_addTurbine {X : zX} (F : zFr X cX3_addTurbine 5 RX3 (some .int)) (a1 : Int32) (a2 : Int32) (a3 : Int32)  (s0 : zM) {κ : Int32 × zM → Option zO} (hκ : ∀ a, κ a = some ((fun a => ((.inl ((fun q => some (zi q.1)) a), (fun q => [q.2]) a) : zO)) a)) : zZ X [(0, [])] 0 0 5 0 [some (zr 0 0 0), some (zi a1), some (zi a2), some (zi a3), none] [] [s0] (Option.bind (fSe_addTurbine a1 a2 a3 s0) κ) := by
  unfold fSe_addTurbine
  refine zz_aload_n F (i := 0) dX3_addTurbine_0 rfl rfl ?_
  refine zz_getr F dX3_addTurbine_1 wfRX3_11 zCl_3 rfl (⟨zlb rfl, zlb rfl, zlb rfl⟩) rfl (by decide) rfl (r' := 0) (by decide) ?_
  refine zz_aload_n F (i := 0) dX3_addTurbine_4 rfl rfl ?_
  refine zz_getf F dX3_addTurbine_5 wfRX3_56 zCl_3 rfl (⟨zlb rfl, zlb rfl, zlb rfl⟩) rfl (by decide) rfl rfl ?_
  refine zz_ix fun j1 hj1 hinj1 hej1 => zz_aal F dX3_addTurbine_8 rfl (⟨zlb rfl, zlb rfl, zlb rfl⟩) rfl (by decide) rfl hinj1 hej1 rfl ?_
  refine zz_astore F (i := 4) (L' := [some (zr 0 0 0), some (zi a1), some (zi a2), some (zi a3), some (zr 0 7 j1)]) dX3_addTurbine_9 (by decide) rfl rfl ?_
  refine zz_aload F (i := 4) dX3_addTurbine_11 rfl ?_
  refine zz_iload_n F (i := 1) dX3_addTurbine_13 rfl rfl ?_
  refine zz_put F (Ms' := [(zu s0 7 j1 0 a1)]) dX3_addTurbine_14 wpRX3_59 zCl_5 rfl (⟨zlb rfl, zlb rfl, hj1⟩) rfl (by decide) rfl rfl rfl ?_
  refine zz_letm (Mf := fun s0_2 => [s0_2]) fun s0_2 => ?_
  refine zz_aload F (i := 4) dX3_addTurbine_17 rfl ?_
  refine zz_iload_n F (i := 2) dX3_addTurbine_19 rfl rfl ?_
  refine zz_put F (Ms' := [(zu s0_2 7 j1 1 a2)]) dX3_addTurbine_20 wpRX3_62 zCl_5 rfl (⟨zlb rfl, zlb rfl, hj1⟩) rfl (by decide) rfl rfl rfl ?_
  refine zz_letm (Mf := fun s0_3 => [s0_3]) fun s0_3 => ?_
  refine zz_aload F (i := 4) dX3_addTurbine_23 rfl ?_
  refine zz_iload_n F (i := 3) dX3_addTurbine_25 rfl rfl ?_
  refine zz_put F (Ms' := [(zu s0_3 7 j1 2 a3)]) dX3_addTurbine_26 wpRX3_65 zCl_5 rfl (⟨zlb rfl, zlb rfl, hj1⟩) rfl (by decide) rfl rfl rfl ?_
  refine zz_letm (Mf := fun s0_4 => [s0_4]) fun s0_4 => ?_
  refine zz_aload_n F (i := 0) dX3_addTurbine_29 rfl rfl ?_
  refine zz_dup F dX3_addTurbine_30 rfl ?_
  refine zz_getf F dX3_addTurbine_31 wfRX3_56 zCl_3 rfl (⟨zlb rfl, zlb rfl, zlb rfl⟩) rfl (by decide) rfl rfl ?_
  refine zz_iconst F (v := (1 : Int32)) dX3_addTurbine_34 (by decide) ?_
  refine zz_iadd F dX3_addTurbine_35 ?_
  refine zz_put F (Ms' := [(zu s0_4 0 0 5 ((s0_4 0 0 5) + (1 : Int32)))]) dX3_addTurbine_36 wpRX3_56 zCl_3 rfl (⟨zlb rfl, zlb rfl, zlb rfl⟩) rfl (by decide) rfl rfl rfl ?_
  refine zz_letm (Mf := fun s0_5 => [s0_5]) fun s0_5 => ?_
  refine zz_aload_n F (i := 0) dX3_addTurbine_39 rfl rfl ?_
  refine zz_getf F dX3_addTurbine_40 wfRX3_56 zCl_3 rfl (⟨zlb rfl, zlb rfl, zlb rfl⟩) rfl (by decide) rfl rfl ?_
  refine zz_iconst F (v := (1 : Int32)) dX3_addTurbine_43 (by decide) ?_
  refine zz_isub F dX3_addTurbine_44 ?_
  exact zz_ireturn F dX3_addTurbine_45 rfl (hκ _)
theorem zfSe_addTurbine (a1 : Int32) (a2 : Int32) (a3 : Int32)  (s0 : zM) : ∀ a, fSe_addTurbine a1 a2 a3 s0 = some a → zMet yX3_addTurbine cX3_addTurbine 5 (some .int) 0 0 [(0, [])] [zr 0 0 0, zi a1, zi a2, zi a3] [s0] ((fun a => ((.inl ((fun q => some (zi q.1)) a), (fun q => [q.2]) a) : zO)) a) := fun a ha => zMet_of (L0 := [some (zr 0 0 0), some (zi a1), some (zi a2), some (zi a3), none]) (φ := Option.bind (fSe_addTurbine a1 a2 a3 s0) (fun a => some ((fun a => ((.inl ((fun q => some (zi q.1)) a), (fun q => [q.2]) a) : zO)) a))) (by decide) (fun _ => Nat.le_of_ble_eq_true rfl) (zl0 1 rfl) (fun X F => bfSe_addTurbine F a1 a2 a3 s0 (fun _ => rfl)) (by rw [ha]; rfl)

theorem dX9_turbine_0 : decode cX9_turbine 0 = .ok (.aload_n 0, 1) := by decide +kernel
theorem dX9_turbine_1 : decode cX9_turbine 1 = .ok (.iload_n 3, 1) := by decide +kernel
theorem dX9_turbine_2 : decode cX9_turbine 2 = .ok (.invokevirtual 50, 3) := by decide +kernel
theorem dX9_turbine_5 : decode cX9_turbine 5 = .ok (.iload_n 1, 1) := by decide +kernel
theorem dX9_turbine_6 : decode cX9_turbine 6 = .ok (.iconst 0, 1) := by decide +kernel
theorem dX9_turbine_7 : decode cX9_turbine 7 = .ok (.bipush 19, 2) := by decide +kernel
theorem dX9_turbine_9 : decode cX9_turbine 9 = .ok (.invokestatic 26, 3) := by decide +kernel
theorem dX9_turbine_12 : decode cX9_turbine 12 = .ok (.ifCond .ne 13, 3) := by decide +kernel
theorem dX9_turbine_15 : decode cX9_turbine 15 = .ok (.iload_n 2, 1) := by decide +kernel
theorem dX9_turbine_16 : decode cX9_turbine 16 = .ok (.iconst 0, 1) := by decide +kernel
theorem dX9_turbine_17 : decode cX9_turbine 17 = .ok (.bipush 19, 2) := by decide +kernel
theorem dX9_turbine_19 : decode cX9_turbine 19 = .ok (.invokestatic 26, 3) := by decide +kernel
theorem dX9_turbine_22 : decode cX9_turbine 22 = .ok (.ifCond .eq 13, 3) := by decide +kernel
theorem dX9_turbine_25 : decode cX9_turbine 25 = .ok (.new 30, 3) := by decide +kernel
theorem dX9_turbine_28 : decode cX9_turbine 28 = .ok (.dup, 1) := by decide +kernel
theorem dX9_turbine_29 : decode cX9_turbine 29 = .ok (.ldc 54, 2) := by decide +kernel
theorem dX9_turbine_31 : decode cX9_turbine 31 = .ok (.invokespecial 34, 3) := by decide +kernel
theorem dX9_turbine_34 : decode cX9_turbine 34 = .ok (.athrow, 1) := by decide +kernel
theorem dX9_turbine_35 : decode cX9_turbine 35 = .ok (.aload_n 0, 1) := by decide +kernel
theorem dX9_turbine_36 : decode cX9_turbine 36 = .ok (.getfield 10, 3) := by decide +kernel
theorem dX9_turbine_39 : decode cX9_turbine 39 = .ok (.getfield 56, 3) := by decide +kernel
theorem dX9_turbine_42 : decode cX9_turbine 42 = .ok (.bipush 8, 2) := by decide +kernel
theorem dX9_turbine_44 : decode cX9_turbine 44 = .ok (.if_icmp .ge 15, 3) := by decide +kernel
theorem dX9_turbine_47 : decode cX9_turbine 47 = .ok (.aload_n 0, 1) := by decide +kernel
theorem dX9_turbine_48 : decode cX9_turbine 48 = .ok (.getfield 10, 3) := by decide +kernel
theorem dX9_turbine_51 : decode cX9_turbine 51 = .ok (.iload_n 1, 1) := by decide +kernel
theorem dX9_turbine_52 : decode cX9_turbine 52 = .ok (.iload_n 2, 1) := by decide +kernel
theorem dX9_turbine_53 : decode cX9_turbine 53 = .ok (.invokevirtual 59, 3) := by decide +kernel
theorem dX9_turbine_56 : decode cX9_turbine 56 = .ok (.ifCond .eq 13, 3) := by decide +kernel
theorem dX9_turbine_59 : decode cX9_turbine 59 = .ok (.new 41, 3) := by decide +kernel
theorem dX9_turbine_62 : decode cX9_turbine 62 = .ok (.dup, 1) := by decide +kernel
theorem dX9_turbine_63 : decode cX9_turbine 63 = .ok (.ldc 63, 2) := by decide +kernel
theorem dX9_turbine_65 : decode cX9_turbine 65 = .ok (.invokespecial 45, 3) := by decide +kernel
theorem dX9_turbine_68 : decode cX9_turbine 68 = .ok (.athrow, 1) := by decide +kernel
theorem dX9_turbine_69 : decode cX9_turbine 69 = .ok (.aload_n 0, 1) := by decide +kernel
theorem dX9_turbine_70 : decode cX9_turbine 70 = .ok (.getfield 10, 3) := by decide +kernel
theorem dX9_turbine_73 : decode cX9_turbine 73 = .ok (.iload_n 1, 1) := by decide +kernel
theorem dX9_turbine_74 : decode cX9_turbine 74 = .ok (.iload_n 2, 1) := by decide +kernel
theorem dX9_turbine_75 : decode cX9_turbine 75 = .ok (.iload_n 3, 1) := by decide +kernel
theorem dX9_turbine_76 : decode cX9_turbine 76 = .ok (.invokevirtual 65, 3) := by decide +kernel
theorem dX9_turbine_79 : decode cX9_turbine 79 = .ok (.ireturn, 1) := by decide +kernel
theorem wcRX9_50 : Cond.methodLink RX9 50 yX9_checkString ∈ zTg ∧ Cond.instanceMethod yX9_checkString ∈ zTg ∧ Cond.selects RX9 yX9_checkString yX9_checkString ∈ zTg ∧ Cond.initialized RX9 ∈ zTg ∧ Cond.code yX9_checkString cX9_checkString 2 none ∈ zTg := ⟨zm_f 720 (by decide +kernel) rfl, zm_f 722 (by decide +kernel) rfl, zm_f 17 (by decide +kernel) rfl, zm_f 37 (by decide +kernel) rfl, zm_f 723 (by decide +kernel) rfl⟩
theorem wy_yX9_checkString : yX9_checkString.cls = RX9 ∧ yX9_checkString.cls ≠ "java/lang/invoke/MethodHandle" ∧ yX9_checkString.cls ≠ "java/lang/invoke/VarHandle" ∧ (parseMethodDescriptor yX9_checkString.desc).map (fun d => d.parameters.length) = some 1 := by decide +kernel
theorem rel2 : zRel [0, 1, 2, 3] [(2, [1, 2, 3]), (0, []), (0, []), (1, [])] [(2, [1, 2, 3]), (0, []), (0, []), (1, [])] := by unfold zRel; decide
theorem wsRX9_54 : (RX9, 54, "x and y are 0 to 19") ∈ zstr := by decide +kernel
theorem wfRX9_56 : zFl RX9 56 3 5 := ⟨_, rfl, by decide, zm_f 292 (by decide +kernel) rfl⟩
theorem wsRX9_63 : (RX9, 63, "there are 8 TURBINES, or one is there") ∈ zstr := by decide +kernel
theorem wcRX9_59 : Cond.methodLink RX9 59 yX3_isTaken ∈ zTg ∧ Cond.instanceMethod yX3_isTaken ∈ zTg ∧ Cond.selects RX3 yX3_isTaken yX3_isTaken ∈ zTg ∧ Cond.initialized RX3 ∈ zTg ∧ Cond.code yX3_isTaken cX3_isTaken 4 (some .boolean) ∈ zTg := ⟨zm_f 786 (by decide +kernel) rfl, zm_f 376 (by decide +kernel) rfl, zm_f 377 (by decide +kernel) rfl, zm_f 38 (by decide +kernel) rfl, zm_f 378 (by decide +kernel) rfl⟩
theorem wy_yX3_isTaken : yX3_isTaken.cls = RX3 ∧ yX3_isTaken.cls ≠ "java/lang/invoke/MethodHandle" ∧ yX3_isTaken.cls ≠ "java/lang/invoke/VarHandle" ∧ (parseMethodDescriptor yX3_isTaken.desc).map (fun d => d.parameters.length) = some 2 := by decide +kernel
theorem wcRX9_65 : Cond.methodLink RX9 65 yX3_addTurbine ∈ zTg ∧ Cond.instanceMethod yX3_addTurbine ∈ zTg ∧ Cond.selects RX3 yX3_addTurbine yX3_addTurbine ∈ zTg ∧ Cond.initialized RX3 ∈ zTg ∧ Cond.code yX3_addTurbine cX3_addTurbine 5 (some .int) ∈ zTg := ⟨zm_f 788 (by decide +kernel) rfl, zm_f 789 (by decide +kernel) rfl, zm_f 790 (by decide +kernel) rfl, zm_f 38 (by decide +kernel) rfl, zm_f 791 (by decide +kernel) rfl⟩
theorem wy_yX3_addTurbine : yX3_addTurbine.cls = RX3 ∧ yX3_addTurbine.cls ≠ "java/lang/invoke/MethodHandle" ∧ yX3_addTurbine.cls ≠ "java/lang/invoke/VarHandle" ∧ (parseMethodDescriptor yX3_addTurbine.desc).map (fun d => d.parameters.length) = some 3 := by decide +kernel
def fWB_turbine (a1 : Int32) (a2 : Int32) (a3 : Int32) (s0 : zM) (s1 : zM) (s2 : zM) (s3 : zM) : Option ((Int32 × zM) ⊕ (String × zM)) :=
  Option.bind (fWB_checkString a3 s0 s1 s2 s3) (Sum.elim (fun (_ : Unit) =>
  Option.bind (fWB_outside a1 (0 : Int32) (19 : Int32)) fun q2 =>
  if q2 = 0 then
  Option.bind (fWB_outside a2 (0 : Int32) (19 : Int32)) fun q3 =>
    if q3 = 0 then
    if (8 : Int32) ≤ (s1 0 0 5) then
      some (.inr ("java/lang/IllegalStateException", s1))
    else
      Option.bind (fSe_isTaken a1 a2 s1) fun q4 =>
        if q4 = 0 then
        Option.bind (fSe_addTurbine a1 a2 a3 s1) fun q5 =>
          some (.inl (q5.1, q5.2))
      else
        some (.inr ("java/lang/IllegalStateException", s1))
  else
    some (.inr ("java/lang/IllegalArgumentException", s1))
else
  some (.inr ("java/lang/IllegalArgumentException", s1))) (fun b => some (.inr (b, s1))))
set_option maxHeartbeats 4000000 in
set_option maxRecDepth 20000 in
theorem bfWB_turbine {X : zX} (F : zFr X cX9_turbine 4 RX9 (some .int)) (a1 : Int32) (a2 : Int32) (a3 : Int32)  (s0 : zM) (s1 : zM) (s2 : zM) (s3 : zM) {κ : (Int32 × zM) ⊕ (String × zM) → Option zO} (hκ : ∀ a, κ a = some ((zts (fun q => some (zi q.1)) (fun q => [s0, q.2, s2, s3]) (fun b => b.1) (fun b => [s0, b.2, s2, s3])) a)) : zZ X [(2, [1, 2, 3]), (0, []), (0, []), (1, [])] 7 111 4 0 [some (zr 0 0 0), some (zi a1), some (zi a2), some (zi a3)] [] [s0, s1, s2, s3] (Option.bind (fWB_turbine a1 a2 a3 s0 s1 s2 s3) κ) := by
  unfold fWB_turbine
  refine zz_aload_n F (i := 0) dX9_turbine_0 rfl rfl ?_
  refine zz_iload_n F (i := 3) dX9_turbine_1 rfl rfl ?_
  refine zz_bind ?_
  refine zz_callVx F (ρ := [0, 1, 2, 3]) (so := fun _ => []) (Mo := fun _ => [s0, s1, s2, s3]) (Xo := fun _ => [s0, s1, s2, s3]) (zfWB_checkString a3 s0 s1 s2 s3) dX9_turbine_2 wcRX9_50 wy_yX9_checkString rfl ⟨rel2, rfl, rfl, Nat.le_of_ble_eq_true rfl, Nat.le_of_ble_eq_true rfl, Nat.le_of_ble_eq_true rfl⟩ (⟨zlb rfl, zlb rfl, zlb rfl⟩) rfl rfl rfl (fun _ => rfl) (fun _ => rfl) (fun _ => rfl) (fun _ => (hκ _)) fun _ => ?_
  dsimp only [Sum.elim_inl]
  refine zz_iload_n F (i := 1) dX9_turbine_5 rfl rfl ?_
  refine zz_iconst F (v := (0 : Int32)) dX9_turbine_6 (by decide) ?_
  refine zz_bipush F (v := (19 : Int32)) dX9_turbine_7 (by decide) ?_
  refine zz_bind ?_
  refine zz_callSr F (ρ := []) (so := fun q2 => [zi q2]) (Mo := fun q2 => [s0, s1, s2, s3]) (zfWB_outside a1 (0 : Int32) (19 : Int32)) dX9_turbine_9 wcRX9_26 wy_yX9_outside rfl ⟨rel0, rfl, rfl, Nat.le_of_ble_eq_true rfl, Nat.le_of_ble_eq_true rfl, Nat.le_of_ble_eq_true rfl⟩ rfl (fun _ => rfl) (fun _ => rfl) fun q2 => ?_
  refine zz_if_ne F (tgt := 25) dX9_turbine_12 (by decide) (fun h => zz_f h ?_) (fun h => zz_t h ?_)
  · exact zz_throw F (cls := "java/lang/IllegalArgumentException") dX9_turbine_25 dX9_turbine_28 dX9_turbine_29 dX9_turbine_31 dX9_turbine_34 (by decide) wtRX9_30_34k wsRX9_54 wtRX9_30_34g wtRX9_30_34n wtRX9_30_34o (Nat.le_of_ble_eq_true rfl) (Nat.le_of_ble_eq_true rfl) (hκ _)
  · refine zz_iload_n F (i := 2) dX9_turbine_15 rfl rfl ?_
    refine zz_iconst F (v := (0 : Int32)) dX9_turbine_16 (by decide) ?_
    refine zz_bipush F (v := (19 : Int32)) dX9_turbine_17 (by decide) ?_
    refine zz_bind ?_
    refine zz_callSr F (ρ := []) (so := fun q3 => [zi q3]) (Mo := fun q3 => [s0, s1, s2, s3]) (zfWB_outside a2 (0 : Int32) (19 : Int32)) dX9_turbine_19 wcRX9_26 wy_yX9_outside rfl ⟨rel0, rfl, rfl, Nat.le_of_ble_eq_true rfl, Nat.le_of_ble_eq_true rfl, Nat.le_of_ble_eq_true rfl⟩ rfl (fun _ => rfl) (fun _ => rfl) fun q3 => ?_
    refine zz_if_eq F (tgt := 35) dX9_turbine_22 (by decide) (fun h => zz_t h ?_) (fun h => zz_f h ?_)
    · refine zz_aload_n F (i := 0) dX9_turbine_35 rfl rfl ?_
      refine zz_getr F dX9_turbine_36 wfRX9_10 zCl_8 rfl (⟨zlb rfl, zlb rfl, zlb rfl⟩) rfl (by decide) rfl (r' := 1) (by decide) ?_
      refine zz_getf F dX9_turbine_39 wfRX9_56 zCl_3 rfl (⟨zlb rfl, zlb rfl, zlb rfl⟩) rfl (by decide) rfl rfl ?_
      refine zz_bipush F (v := (8 : Int32)) dX9_turbine_42 (by decide) ?_
      refine zz_icmp_ge F (tgt := 59) dX9_turbine_44 (by decide) (fun h => zz_t h ?_) (fun h => zz_f h ?_)
      · exact zz_throw F (cls := "java/lang/IllegalStateException") dX9_turbine_59 dX9_turbine_62 dX9_turbine_63 dX9_turbine_65 dX9_turbine_68 (by decide) wtRX9_41_45k wsRX9_63 wtRX9_41_45g wtRX9_41_45n wtRX9_41_45o (Nat.le_of_ble_eq_true rfl) (Nat.le_of_ble_eq_true rfl) (hκ _)
      · refine zz_aload_n F (i := 0) dX9_turbine_47 rfl rfl ?_
        refine zz_getr F dX9_turbine_48 wfRX9_10 zCl_8 rfl (⟨zlb rfl, zlb rfl, zlb rfl⟩) rfl (by decide) rfl (r' := 1) (by decide) ?_
        refine zz_iload_n F (i := 1) dX9_turbine_51 rfl rfl ?_
        refine zz_iload_n F (i := 2) dX9_turbine_52 rfl rfl ?_
        refine zz_bind ?_
        refine zz_callVr F (ρ := [1]) (so := fun q4 => [zi q4]) (Mo := fun q4 => [s0, s1, s2, s3]) (zfSe_isTaken a1 a2 s1) dX9_turbine_53 wcRX9_59 wy_yX3_isTaken rfl ⟨rel1, rfl, rfl, Nat.le_of_ble_eq_true rfl, Nat.le_of_ble_eq_true rfl, Nat.le_of_ble_eq_true rfl⟩ (⟨zlb rfl, zlb rfl, zlb rfl⟩) rfl rfl rfl (fun _ => rfl) (fun _ => rfl) fun q4 => ?_
        refine zz_if_eq F (tgt := 69) dX9_turbine_56 (by decide) (fun h => zz_t h ?_) (fun h => zz_f h ?_)
        · refine zz_aload_n F (i := 0) dX9_turbine_69 rfl rfl ?_
          refine zz_getr F dX9_turbine_70 wfRX9_10 zCl_8 rfl (⟨zlb rfl, zlb rfl, zlb rfl⟩) rfl (by decide) rfl (r' := 1) (by decide) ?_
          refine zz_iload_n F (i := 1) dX9_turbine_73 rfl rfl ?_
          refine zz_iload_n F (i := 2) dX9_turbine_74 rfl rfl ?_
          refine zz_iload_n F (i := 3) dX9_turbine_75 rfl rfl ?_
          refine zz_bind ?_
          refine zz_callVr F (ρ := [1]) (so := fun q5 => [zi q5.1]) (Mo := fun q5 => [s0, q5.2, s2, s3]) (zfSe_addTurbine a1 a2 a3 s1) dX9_turbine_76 wcRX9_65 wy_yX3_addTurbine rfl ⟨rel1, rfl, rfl, Nat.le_of_ble_eq_true rfl, Nat.le_of_ble_eq_true rfl, Nat.le_of_ble_eq_true rfl⟩ (⟨zlb rfl, zlb rfl, zlb rfl⟩) rfl rfl rfl (fun _ => rfl) (fun _ => rfl) fun q5 => ?_
          exact zz_ireturn F dX9_turbine_79 rfl (hκ _)
        · exact zz_throw F (cls := "java/lang/IllegalStateException") dX9_turbine_59 dX9_turbine_62 dX9_turbine_63 dX9_turbine_65 dX9_turbine_68 (by decide) wtRX9_41_45k wsRX9_63 wtRX9_41_45g wtRX9_41_45n wtRX9_41_45o (Nat.le_of_ble_eq_true rfl) (Nat.le_of_ble_eq_true rfl) (hκ _)
    · exact zz_throw F (cls := "java/lang/IllegalArgumentException") dX9_turbine_25 dX9_turbine_28 dX9_turbine_29 dX9_turbine_31 dX9_turbine_34 (by decide) wtRX9_30_34k wsRX9_54 wtRX9_30_34g wtRX9_30_34n wtRX9_30_34o (Nat.le_of_ble_eq_true rfl) (Nat.le_of_ble_eq_true rfl) (hκ _)
theorem zfWB_turbine (a1 : Int32) (a2 : Int32) (a3 : Int32)  (s0 : zM) (s1 : zM) (s2 : zM) (s3 : zM) : ∀ a, fWB_turbine a1 a2 a3 s0 s1 s2 s3 = some a → zMet yX9_turbine cX9_turbine 4 (some .int) 7 111 [(2, [1, 2, 3]), (0, []), (0, []), (1, [])] [zr 0 0 0, zi a1, zi a2, zi a3] [s0, s1, s2, s3] ((zts (fun q => some (zi q.1)) (fun q => [s0, q.2, s2, s3]) (fun b => b.1) (fun b => [s0, b.2, s2, s3])) a) := fun a ha => zMet_of (L0 := [some (zr 0 0 0), some (zi a1), some (zi a2), some (zi a3)]) (φ := Option.bind (fWB_turbine a1 a2 a3 s0 s1 s2 s3) (fun a => some ((zts (fun q => some (zi q.1)) (fun q => [s0, q.2, s2, s3]) (fun b => b.1) (fun b => [s0, b.2, s2, s3])) a))) (by decide) (fun _ => Nat.le_of_ble_eq_true rfl) (zl0 0 rfl) (fun X F => bfWB_turbine F a1 a2 a3 s0 s1 s2 s3 (fun _ => rfl)) (by rw [ha]; rfl)

theorem dX3_addVessel_0 : decode cX3_addVessel 0 = .ok (.aload_n 0, 1) := by decide +kernel
theorem dX3_addVessel_1 : decode cX3_addVessel 1 = .ok (.getfield 25, 3) := by decide +kernel
theorem dX3_addVessel_4 : decode cX3_addVessel 4 = .ok (.aload_n 0, 1) := by decide +kernel
theorem dX3_addVessel_5 : decode cX3_addVessel 5 = .ok (.getfield 68, 3) := by decide +kernel
theorem dX3_addVessel_8 : decode cX3_addVessel 8 = .ok (.aaload, 1) := by decide +kernel
theorem dX3_addVessel_9 : decode cX3_addVessel 9 = .ok (.iload_n 1, 1) := by decide +kernel
theorem dX3_addVessel_10 : decode cX3_addVessel 10 = .ok (.putfield 71, 3) := by decide +kernel
theorem dX3_addVessel_13 : decode cX3_addVessel 13 = .ok (.aload_n 0, 1) := by decide +kernel
theorem dX3_addVessel_14 : decode cX3_addVessel 14 = .ok (.dup, 1) := by decide +kernel
theorem dX3_addVessel_15 : decode cX3_addVessel 15 = .ok (.getfield 68, 3) := by decide +kernel
theorem dX3_addVessel_18 : decode cX3_addVessel 18 = .ok (.iconst 1, 1) := by decide +kernel
theorem dX3_addVessel_19 : decode cX3_addVessel 19 = .ok (.iadd, 1) := by decide +kernel
theorem dX3_addVessel_20 : decode cX3_addVessel 20 = .ok (.putfield 68, 3) := by decide +kernel
theorem dX3_addVessel_23 : decode cX3_addVessel 23 = .ok (.aload_n 0, 1) := by decide +kernel
theorem dX3_addVessel_24 : decode cX3_addVessel 24 = .ok (.getfield 68, 3) := by decide +kernel
theorem dX3_addVessel_27 : decode cX3_addVessel 27 = .ok (.iconst 1, 1) := by decide +kernel
theorem dX3_addVessel_28 : decode cX3_addVessel 28 = .ok (.isub, 1) := by decide +kernel
theorem dX3_addVessel_29 : decode cX3_addVessel 29 = .ok (.ireturn, 1) := by decide +kernel
theorem wfRX3_25 : zFl RX3 25 3 2 := ⟨_, rfl, by decide, zm_f 284 (by decide +kernel) rfl⟩
theorem wfRX3_68 : zFl RX3 68 3 7 := ⟨_, rfl, by decide, zm_f 295 (by decide +kernel) rfl⟩
theorem wpRX3_71 : zFw RX3 71 6 0 .int := ⟨_, rfl, by decide, zm_f 250 (by decide +kernel) rfl, rfl, by decide +kernel⟩
theorem wpRX3_68 : zFw RX3 68 3 7 .int := ⟨_, rfl, by decide, zm_f 295 (by decide +kernel) rfl, rfl, by decide +kernel⟩
def fSe_addVessel (a1 : Int32) (s0 : zM) : Option (Int32 × zM) :=
  zix (s0 0 0 7) 3 fun j1 =>
  zlet (zu s0 13 j1 0 a1) fun s0_2 =>
  zlet (zu s0_2 0 0 7 ((s0_2 0 0 7) + (1 : Int32))) fun s0_3 =>
  some (((s0_3 0 0 7) - (1 : Int32)), s0_3)
set_option maxHeartbeats 4000000 in
set_option maxRecDepth 20000 in
theorem bfSe_addVessel {X : zX} (F : zFr X cX3_addVessel 2 RX3 (some .int)) (a1 : Int32)  (s0 : zM) {κ : Int32 × zM → Option zO} (hκ : ∀ a, κ a = some ((fun a => ((.inl ((fun q => some (zi q.1)) a), (fun q => [q.2]) a) : zO)) a)) : zZ X [(0, [])] 0 0 2 0 [some (zr 0 0 0), some (zi a1)] [] [s0] (Option.bind (fSe_addVessel a1 s0) κ) := by
  unfold fSe_addVessel
  refine zz_aload_n F (i := 0) dX3_addVessel_0 rfl rfl ?_
  refine zz_getr F dX3_addVessel_1 wfRX3_25 zCl_3 rfl (⟨zlb rfl, zlb rfl, zlb rfl⟩) rfl (by decide) rfl (r' := 0) (by decide) ?_
  refine zz_aload_n F (i := 0) dX3_addVessel_4 rfl rfl ?_
  refine zz_getf F dX3_addVessel_5 wfRX3_68 zCl_3 rfl (⟨zlb rfl, zlb rfl, zlb rfl⟩) rfl (by decide) rfl rfl ?_
  refine zz_ix fun j1 hj1 hinj1 hej1 => zz_aal F dX3_addVessel_8 rfl (⟨zlb rfl, zlb rfl, zlb rfl⟩) rfl (by decide) rfl hinj1 hej1 rfl ?_
  refine zz_iload_n F (i := 1) dX3_addVessel_9 rfl rfl ?_
  refine zz_put F (Ms' := [(zu s0 13 j1 0 a1)]) dX3_addVessel_10 wpRX3_71 zCl_6 rfl (⟨zlb rfl, zlb rfl, hj1⟩) rfl (by decide) rfl rfl rfl ?_
  refine zz_letm (Mf := fun s0_2 => [s0_2]) fun s0_2 => ?_
  refine zz_aload_n F (i := 0) dX3_addVessel_13 rfl rfl ?_
  refine zz_dup F dX3_addVessel_14 rfl ?_
  refine zz_getf F dX3_addVessel_15 wfRX3_68 zCl_3 rfl (⟨zlb rfl, zlb rfl, zlb rfl⟩) rfl (by decide) rfl rfl ?_
  refine zz_iconst F (v := (1 : Int32)) dX3_addVessel_18 (by decide) ?_
  refine zz_iadd F dX3_addVessel_19 ?_
  refine zz_put F (Ms' := [(zu s0_2 0 0 7 ((s0_2 0 0 7) + (1 : Int32)))]) dX3_addVessel_20 wpRX3_68 zCl_3 rfl (⟨zlb rfl, zlb rfl, zlb rfl⟩) rfl (by decide) rfl rfl rfl ?_
  refine zz_letm (Mf := fun s0_3 => [s0_3]) fun s0_3 => ?_
  refine zz_aload_n F (i := 0) dX3_addVessel_23 rfl rfl ?_
  refine zz_getf F dX3_addVessel_24 wfRX3_68 zCl_3 rfl (⟨zlb rfl, zlb rfl, zlb rfl⟩) rfl (by decide) rfl rfl ?_
  refine zz_iconst F (v := (1 : Int32)) dX3_addVessel_27 (by decide) ?_
  refine zz_isub F dX3_addVessel_28 ?_
  exact zz_ireturn F dX3_addVessel_29 rfl (hκ _)
theorem zfSe_addVessel (a1 : Int32)  (s0 : zM) : ∀ a, fSe_addVessel a1 s0 = some a → zMet yX3_addVessel cX3_addVessel 2 (some .int) 0 0 [(0, [])] [zr 0 0 0, zi a1] [s0] ((fun a => ((.inl ((fun q => some (zi q.1)) a), (fun q => [q.2]) a) : zO)) a) := fun a ha => zMet_of (L0 := [some (zr 0 0 0), some (zi a1)]) (φ := Option.bind (fSe_addVessel a1 s0) (fun a => some ((fun a => ((.inl ((fun q => some (zi q.1)) a), (fun q => [q.2]) a) : zO)) a))) (by decide) (fun _ => Nat.le_of_ble_eq_true rfl) (zl0 0 rfl) (fun X F => bfSe_addVessel F a1 s0 (fun _ => rfl)) (by rw [ha]; rfl)

theorem dX9_vessel_0 : decode cX9_vessel 0 = .ok (.iload_n 1, 1) := by decide +kernel
theorem dX9_vessel_1 : decode cX9_vessel 1 = .ok (.iconst 5, 1) := by decide +kernel
theorem dX9_vessel_2 : decode cX9_vessel 2 = .ok (.bipush 40, 2) := by decide +kernel
theorem dX9_vessel_4 : decode cX9_vessel 4 = .ok (.invokestatic 26, 3) := by decide +kernel
theorem dX9_vessel_7 : decode cX9_vessel 7 = .ok (.ifCond .eq 13, 3) := by decide +kernel
theorem dX9_vessel_10 : decode cX9_vessel 10 = .ok (.new 30, 3) := by decide +kernel
theorem dX9_vessel_13 : decode cX9_vessel 13 = .ok (.dup, 1) := by decide +kernel
theorem dX9_vessel_14 : decode cX9_vessel 14 = .ok (.ldc 69, 2) := by decide +kernel
theorem dX9_vessel_16 : decode cX9_vessel 16 = .ok (.invokespecial 34, 3) := by decide +kernel
theorem dX9_vessel_19 : decode cX9_vessel 19 = .ok (.athrow, 1) := by decide +kernel
theorem dX9_vessel_20 : decode cX9_vessel 20 = .ok (.aload_n 0, 1) := by decide +kernel
theorem dX9_vessel_21 : decode cX9_vessel 21 = .ok (.getfield 10, 3) := by decide +kernel
theorem dX9_vessel_24 : decode cX9_vessel 24 = .ok (.getfield 71, 3) := by decide +kernel
theorem dX9_vessel_27 : decode cX9_vessel 27 = .ok (.iconst 3, 1) := by decide +kernel
theorem dX9_vessel_28 : decode cX9_vessel 28 = .ok (.if_icmp .lt 13, 3) := by decide +kernel
theorem dX9_vessel_31 : decode cX9_vessel 31 = .ok (.new 41, 3) := by decide +kernel
theorem dX9_vessel_34 : decode cX9_vessel 34 = .ok (.dup, 1) := by decide +kernel
theorem dX9_vessel_35 : decode cX9_vessel 35 = .ok (.ldc 74, 2) := by decide +kernel
theorem dX9_vessel_37 : decode cX9_vessel 37 = .ok (.invokespecial 45, 3) := by decide +kernel
theorem dX9_vessel_40 : decode cX9_vessel 40 = .ok (.athrow, 1) := by decide +kernel
theorem dX9_vessel_41 : decode cX9_vessel 41 = .ok (.aload_n 0, 1) := by decide +kernel
theorem dX9_vessel_42 : decode cX9_vessel 42 = .ok (.getfield 10, 3) := by decide +kernel
theorem dX9_vessel_45 : decode cX9_vessel 45 = .ok (.iload_n 1, 1) := by decide +kernel
theorem dX9_vessel_46 : decode cX9_vessel 46 = .ok (.invokevirtual 76, 3) := by decide +kernel
theorem dX9_vessel_49 : decode cX9_vessel 49 = .ok (.ireturn, 1) := by decide +kernel
theorem wfRX9_71 : zFl RX9 71 3 7 := ⟨_, rfl, by decide, zm_f 296 (by decide +kernel) rfl⟩
theorem wcRX9_76 : Cond.methodLink RX9 76 yX3_addVessel ∈ zTg ∧ Cond.instanceMethod yX3_addVessel ∈ zTg ∧ Cond.selects RX3 yX3_addVessel yX3_addVessel ∈ zTg ∧ Cond.initialized RX3 ∈ zTg ∧ Cond.code yX3_addVessel cX3_addVessel 2 (some .int) ∈ zTg := ⟨zm_f 801 (by decide +kernel) rfl, zm_f 802 (by decide +kernel) rfl, zm_f 803 (by decide +kernel) rfl, zm_f 38 (by decide +kernel) rfl, zm_f 804 (by decide +kernel) rfl⟩
theorem wy_yX3_addVessel : yX3_addVessel.cls = RX3 ∧ yX3_addVessel.cls ≠ "java/lang/invoke/MethodHandle" ∧ yX3_addVessel.cls ≠ "java/lang/invoke/VarHandle" ∧ (parseMethodDescriptor yX3_addVessel.desc).map (fun d => d.parameters.length) = some 1 := by decide +kernel
theorem wsRX9_74 : (RX9, 74, "there are 3 VESSELS") ∈ zstr := by decide +kernel
theorem wsRX9_69 : (RX9, 69, "a LIMIT of WAVES is 5 to 40") ∈ zstr := by decide +kernel
def fWB_vessel (a1 : Int32) (s0 : zM) (s1 : zM) (s2 : zM) (s3 : zM) : Option ((Int32 × zM) ⊕ (String × zM)) :=
  Option.bind (fWB_outside a1 (5 : Int32) (40 : Int32)) fun q1 =>
  if q1 = 0 then
  if (s1 0 0 7) < (3 : Int32) then
    Option.bind (fSe_addVessel a1 s1) fun q2 =>
      some (.inl (q2.1, q2.2))
  else
    some (.inr ("java/lang/IllegalStateException", s1))
else
  some (.inr ("java/lang/IllegalArgumentException", s1))
set_option maxHeartbeats 4000000 in
set_option maxRecDepth 20000 in
theorem bfWB_vessel {X : zX} (F : zFr X cX9_vessel 2 RX9 (some .int)) (a1 : Int32)  (s0 : zM) (s1 : zM) (s2 : zM) (s3 : zM) {κ : (Int32 × zM) ⊕ (String × zM) → Option zO} (hκ : ∀ a, κ a = some ((zts (fun q => some (zi q.1)) (fun q => [s0, q.2, s2, s3]) (fun b => b.1) (fun b => [s0, b.2, s2, s3])) a)) : zZ X [(2, [1, 2, 3]), (0, []), (0, []), (1, [])] 6 90 2 0 [some (zr 0 0 0), some (zi a1)] [] [s0, s1, s2, s3] (Option.bind (fWB_vessel a1 s0 s1 s2 s3) κ) := by
  unfold fWB_vessel
  refine zz_iload_n F (i := 1) dX9_vessel_0 rfl rfl ?_
  refine zz_iconst F (v := (5 : Int32)) dX9_vessel_1 (by decide) ?_
  refine zz_bipush F (v := (40 : Int32)) dX9_vessel_2 (by decide) ?_
  refine zz_bind ?_
  refine zz_callSr F (ρ := []) (so := fun q1 => [zi q1]) (Mo := fun q1 => [s0, s1, s2, s3]) (zfWB_outside a1 (5 : Int32) (40 : Int32)) dX9_vessel_4 wcRX9_26 wy_yX9_outside rfl ⟨rel0, rfl, rfl, Nat.le_of_ble_eq_true rfl, Nat.le_of_ble_eq_true rfl, Nat.le_of_ble_eq_true rfl⟩ rfl (fun _ => rfl) (fun _ => rfl) fun q1 => ?_
  refine zz_if_eq F (tgt := 20) dX9_vessel_7 (by decide) (fun h => zz_t h ?_) (fun h => zz_f h ?_)
  · refine zz_aload_n F (i := 0) dX9_vessel_20 rfl rfl ?_
    refine zz_getr F dX9_vessel_21 wfRX9_10 zCl_8 rfl (⟨zlb rfl, zlb rfl, zlb rfl⟩) rfl (by decide) rfl (r' := 1) (by decide) ?_
    refine zz_getf F dX9_vessel_24 wfRX9_71 zCl_3 rfl (⟨zlb rfl, zlb rfl, zlb rfl⟩) rfl (by decide) rfl rfl ?_
    refine zz_iconst F (v := (3 : Int32)) dX9_vessel_27 (by decide) ?_
    refine zz_icmp_lt F (tgt := 41) dX9_vessel_28 (by decide) (fun h => zz_t h ?_) (fun h => zz_f h ?_)
    · refine zz_aload_n F (i := 0) dX9_vessel_41 rfl rfl ?_
      refine zz_getr F dX9_vessel_42 wfRX9_10 zCl_8 rfl (⟨zlb rfl, zlb rfl, zlb rfl⟩) rfl (by decide) rfl (r' := 1) (by decide) ?_
      refine zz_iload_n F (i := 1) dX9_vessel_45 rfl rfl ?_
      refine zz_bind ?_
      refine zz_callVr F (ρ := [1]) (so := fun q2 => [zi q2.1]) (Mo := fun q2 => [s0, q2.2, s2, s3]) (zfSe_addVessel a1 s1) dX9_vessel_46 wcRX9_76 wy_yX3_addVessel rfl ⟨rel1, rfl, rfl, Nat.le_of_ble_eq_true rfl, Nat.le_of_ble_eq_true rfl, Nat.le_of_ble_eq_true rfl⟩ (⟨zlb rfl, zlb rfl, zlb rfl⟩) rfl rfl rfl (fun _ => rfl) (fun _ => rfl) fun q2 => ?_
      exact zz_ireturn F dX9_vessel_49 rfl (hκ _)
    · exact zz_throw F (cls := "java/lang/IllegalStateException") dX9_vessel_31 dX9_vessel_34 dX9_vessel_35 dX9_vessel_37 dX9_vessel_40 (by decide) wtRX9_41_45k wsRX9_74 wtRX9_41_45g wtRX9_41_45n wtRX9_41_45o (Nat.le_of_ble_eq_true rfl) (Nat.le_of_ble_eq_true rfl) (hκ _)
  · exact zz_throw F (cls := "java/lang/IllegalArgumentException") dX9_vessel_10 dX9_vessel_13 dX9_vessel_14 dX9_vessel_16 dX9_vessel_19 (by decide) wtRX9_30_34k wsRX9_69 wtRX9_30_34g wtRX9_30_34n wtRX9_30_34o (Nat.le_of_ble_eq_true rfl) (Nat.le_of_ble_eq_true rfl) (hκ _)
theorem zfWB_vessel (a1 : Int32)  (s0 : zM) (s1 : zM) (s2 : zM) (s3 : zM) : ∀ a, fWB_vessel a1 s0 s1 s2 s3 = some a → zMet yX9_vessel cX9_vessel 2 (some .int) 6 90 [(2, [1, 2, 3]), (0, []), (0, []), (1, [])] [zr 0 0 0, zi a1] [s0, s1, s2, s3] ((zts (fun q => some (zi q.1)) (fun q => [s0, q.2, s2, s3]) (fun b => b.1) (fun b => [s0, b.2, s2, s3])) a) := fun a ha => zMet_of (L0 := [some (zr 0 0 0), some (zi a1)]) (φ := Option.bind (fWB_vessel a1 s0 s1 s2 s3) (fun a => some ((zts (fun q => some (zi q.1)) (fun q => [s0, q.2, s2, s3]) (fun b => b.1) (fun b => [s0, b.2, s2, s3])) a))) (by decide) (fun _ => Nat.le_of_ble_eq_true rfl) (zl0 0 rfl) (fun X F => bfWB_vessel F a1 s0 s1 s2 s3 (fun _ => rfl)) (by rw [ha]; rfl)

theorem dX2_put_0 : decode cX2_put 0 = .ok (.iload_n 1, 1) := by decide +kernel
theorem dX2_put_1 : decode cX2_put 1 = .ok (.ifCond .lt 16, 3) := by decide +kernel
theorem dX2_put_4 : decode cX2_put 4 = .ok (.iload_n 1, 1) := by decide +kernel
theorem dX2_put_5 : decode cX2_put 5 = .ok (.bipush 24, 2) := by decide +kernel
theorem dX2_put_7 : decode cX2_put 7 = .ok (.if_icmp .ge 10, 3) := by decide +kernel
theorem dX2_put_10 : decode cX2_put 10 = .ok (.aload_n 0, 1) := by decide +kernel
theorem dX2_put_11 : decode cX2_put 11 = .ok (.getfield 9, 3) := by decide +kernel
theorem dX2_put_14 : decode cX2_put 14 = .ok (.iload_n 1, 1) := by decide +kernel
theorem dX2_put_15 : decode cX2_put 15 = .ok (.iload_n 2, 1) := by decide +kernel
theorem dX2_put_16 : decode cX2_put 16 = .ok (.iastore, 1) := by decide +kernel
theorem dX2_put_17 : decode cX2_put 17 = .ok (.return_, 1) := by decide +kernel
theorem wfRX2_9 : zFl RX2 9 2 0 := ⟨_, rfl, by decide, zm_f 113 (by decide +kernel) rfl⟩
def fLe_put (a1 : Int32) (a2 : Int32) (s0 : zM) : Option (zM) :=
  if a1 < 0 then
  some s0
else
  if (24 : Int32) ≤ a1 then
    some s0
  else
    zix a1 24 fun j1 =>
      zlet (zu s0 6 0 j1 a2) fun s0_2 =>
      some s0_2
set_option maxHeartbeats 4000000 in
set_option maxRecDepth 20000 in
theorem bfLe_put {X : zX} (F : zFr X cX2_put 3 RX2 none) (a1 : Int32) (a2 : Int32)  (s0 : zM) {κ : zM → Option zO} (hκ : ∀ a, κ a = some ((fun a => ((.inl ((fun _ => (none : Option zV)) a), (fun q => [q]) a) : zO)) a)) : zZ X [(0, [])] 0 0 3 0 [some (zr 0 5 0), some (zi a1), some (zi a2)] [] [s0] (Option.bind (fLe_put a1 a2 s0) κ) := by
  unfold fLe_put
  refine zz_iload_n F (i := 1) dX2_put_0 rfl rfl ?_
  refine zz_if_lt F (tgt := 17) dX2_put_1 (by decide) (fun h => zz_t h ?_) (fun h => zz_f h ?_)
  · exact zz_return F dX2_put_17 rfl (hκ _)
  · refine zz_iload_n F (i := 1) dX2_put_4 rfl rfl ?_
    refine zz_bipush F (v := (24 : Int32)) dX2_put_5 (by decide) ?_
    refine zz_icmp_ge F (tgt := 17) dX2_put_7 (by decide) (fun h => zz_t h ?_) (fun h => zz_f h ?_)
    · exact zz_return F dX2_put_17 rfl (hκ _)
    · refine zz_aload_n F (i := 0) dX2_put_10 rfl rfl ?_
      refine zz_getr F dX2_put_11 wfRX2_9 zCl_2 rfl (⟨zlb rfl, zlb rfl, zlb rfl⟩) rfl (by decide) rfl (r' := 0) (by decide) ?_
      refine zz_iload_n F (i := 1) dX2_put_14 rfl rfl ?_
      refine zz_iload_n F (i := 2) dX2_put_15 rfl rfl ?_
      refine zz_ix fun j1 hj1 hinj1 hej1 => zz_ias F (Ms' := [(zu s0 6 0 j1 a2)]) dX2_put_16 rfl (⟨zlb rfl, zlb rfl, zlb rfl⟩) rfl hinj1 hej1 rfl ?_
      refine zz_letm (Mf := fun s0_2 => [s0_2]) fun s0_2 => ?_
      exact zz_return F dX2_put_17 rfl (hκ _)
theorem zfLe_put (a1 : Int32) (a2 : Int32)  (s0 : zM) : ∀ a, fLe_put a1 a2 s0 = some a → zMet yX2_put cX2_put 3 none 0 0 [(0, [])] [zr 0 5 0, zi a1, zi a2] [s0] ((fun a => ((.inl ((fun _ => (none : Option zV)) a), (fun q => [q]) a) : zO)) a) := fun a ha => zMet_of (L0 := [some (zr 0 5 0), some (zi a1), some (zi a2)]) (φ := Option.bind (fLe_put a1 a2 s0) (fun a => some ((fun a => ((.inl ((fun _ => (none : Option zV)) a), (fun q => [q]) a) : zO)) a))) (by decide) (fun _ => Nat.le_of_ble_eq_true rfl) (zl0 0 rfl) (fun X F => bfLe_put F a1 a2 s0 (fun _ => rfl)) (by rw [ha]; rfl)

theorem dX2_nominatedCount_0 : decode cX2_nominatedCount 0 = .ok (.iconst 0, 1) := by decide +kernel
theorem dX2_nominatedCount_1 : decode cX2_nominatedCount 1 = .ok (.istore_n 1, 1) := by decide +kernel
theorem dX2_nominatedCount_2 : decode cX2_nominatedCount 2 = .ok (.iconst 0, 1) := by decide +kernel
theorem dX2_nominatedCount_3 : decode cX2_nominatedCount 3 = .ok (.istore_n 2, 1) := by decide +kernel
theorem dX2_nominatedCount_4 : decode cX2_nominatedCount 4 = .ok (.iload_n 2, 1) := by decide +kernel
theorem dX2_nominatedCount_5 : decode cX2_nominatedCount 5 = .ok (.bipush 24, 2) := by decide +kernel
theorem dX2_nominatedCount_7 : decode cX2_nominatedCount 7 = .ok (.if_icmp .ge 22, 3) := by decide +kernel
theorem dX2_nominatedCount_10 : decode cX2_nominatedCount 10 = .ok (.aload_n 0, 1) := by decide +kernel
theorem dX2_nominatedCount_11 : decode cX2_nominatedCount 11 = .ok (.getfield 9, 3) := by decide +kernel
theorem dX2_nominatedCount_14 : decode cX2_nominatedCount 14 = .ok (.iload_n 2, 1) := by decide +kernel
theorem dX2_nominatedCount_15 : decode cX2_nominatedCount 15 = .ok (.iaload, 1) := by decide +kernel
theorem dX2_nominatedCount_16 : decode cX2_nominatedCount 16 = .ok (.iconst (-1), 1) := by decide +kernel
theorem dX2_nominatedCount_17 : decode cX2_nominatedCount 17 = .ok (.if_icmp .eq 6, 3) := by decide +kernel
theorem dX2_nominatedCount_20 : decode cX2_nominatedCount 20 = .ok (.iinc 1 1, 3) := by decide +kernel
theorem dX2_nominatedCount_23 : decode cX2_nominatedCount 23 = .ok (.iinc 2 1, 3) := by decide +kernel
theorem dX2_nominatedCount_26 : decode cX2_nominatedCount 26 = .ok (.goto (-22), 3) := by decide +kernel
theorem dX2_nominatedCount_29 : decode cX2_nominatedCount 29 = .ok (.iload_n 1, 1) := by decide +kernel
theorem dX2_nominatedCount_30 : decode cX2_nominatedCount 30 = .ok (.ireturn, 1) := by decide +kernel
def fLe_nominatedCount_l4 (s0 : zM) (q1 : Int32 × Int32) : Option ((Int32 × Int32) ⊕ ((Int32))) :=
  if (24 : Int32) ≤ q1.2 then
  some (.inr q1.1)
else
  zix q1.2 24 fun j3 =>
    Option.bind (if (s0 6 0 j3) = (-1 : Int32) then
    some q1.1
  else
    zlet (q1.1 + 1) fun v8 =>
      some v8) fun q4 =>
    zlet (q1.2 + 1) fun v9 =>
    some (.inl (q4, v9))
def fLe_nominatedCount  (s0 : zM) : Option (Int32) :=
  Option.bind (ziter (fLe_nominatedCount_l4 s0) 1000 ((0 : Int32), (0 : Int32))) fun q2 =>
  some q2
set_option maxHeartbeats 4000000 in
set_option maxRecDepth 20000 in
theorem bfLe_nominatedCount_l4 {X : zX} (F : zFr X cX2_nominatedCount 3 RX2 (some .int)) (s0 : zM)  {ψ : (Int32 × Int32) ⊕ ((Int32)) → Option zO} (h1 : ∀ q1 : Int32 × Int32, zZ X [(0, [])] 0 0 3 4 [some (zr 0 5 0), some (zi q1.1), some (zi q1.2)] [] [s0] (ψ (.inl q1))) (h2 : ∀ q2 : Int32, zZ X [(0, [])] 0 0 3 29 [none, some (zi q2), none] [] [s0] (ψ (.inr q2))) (q1 : Int32 × Int32) : zZ X [(0, [])] 0 0 3 4 [some (zr 0 5 0), some (zi q1.1), some (zi q1.2)] [] [s0] (Option.bind (fLe_nominatedCount_l4 s0 q1) ψ) := by
  unfold fLe_nominatedCount_l4
  refine zz_iload_n F (i := 2) dX2_nominatedCount_4 rfl rfl ?_
  refine zz_bipush F (v := (24 : Int32)) dX2_nominatedCount_5 (by decide) ?_
  refine zz_icmp_ge F (tgt := 29) dX2_nominatedCount_7 (by decide) (fun h => zz_t h ?_) (fun h => zz_f h ?_)
  · exact zz_sub (zs_n (zs_k (zs_n zs_z))) (h2 q1.1)
  · refine zz_aload_n F (i := 0) dX2_nominatedCount_10 rfl rfl ?_
    refine zz_getr F dX2_nominatedCount_11 wfRX2_9 zCl_2 rfl (⟨zlb rfl, zlb rfl, zlb rfl⟩) rfl (by decide) rfl (r' := 0) (by decide) ?_
    refine zz_iload_n F (i := 2) dX2_nominatedCount_14 rfl rfl ?_
    refine zz_ix fun j3 hj3 hinj3 hej3 => zz_ial F dX2_nominatedCount_15 rfl (⟨zlb rfl, zlb rfl, zlb rfl⟩) rfl hinj3 hej3 ?_
    refine zz_iconst F (v := (-1 : Int32)) dX2_nominatedCount_16 (by decide) ?_
    refine zz_join (pj := 23) (Lj := fun q4 => [some (zr 0 5 0), some (zi q4), some (zi q1.2)]) (Sj := fun q4 => []) (Mj := fun q4 => [s0]) (fun q4 => ?_) (fun κ6 hj5 => ?_)
    · refine zz_iinc F (i := 2) (v := q1.2 + 1) (L' := [some (zr 0 5 0), some (zi q4), some (zi (q1.2 + 1))]) dX2_nominatedCount_23 rfl (by first | rfl | decide) (by decide) rfl rfl ?_
      refine zz_letl (Lf := fun v9 => [some (zr 0 5 0), some (zi q4), some (zi v9)]) fun v9 => ?_
      refine zz_goto F (tgt := 4) dX2_nominatedCount_26 (by decide) ?_
      exact zz_sub (zs_k (zs_k (zs_k zs_z))) (h1 (q4, v9))
    · refine zz_icmp_eq F (tgt := 23) dX2_nominatedCount_17 (by decide) (fun h => zz_t h ?_) (fun h => zz_f h ?_)
      · exact zz_sub (zs_k (zs_k (zs_k zs_z))) (hj5 q1.1)
      · refine zz_iinc F (i := 1) (v := q1.1 + 1) (L' := [some (zr 0 5 0), some (zi (q1.1 + 1)), some (zi q1.2)]) dX2_nominatedCount_20 rfl (by first | rfl | decide) (by decide) rfl rfl ?_
        refine zz_letl (Lf := fun v8 => [some (zr 0 5 0), some (zi v8), some (zi q1.2)]) fun v8 => ?_
        exact zz_sub (zs_k (zs_k (zs_k zs_z))) (hj5 v8)
set_option maxHeartbeats 4000000 in
set_option maxRecDepth 20000 in
theorem bfLe_nominatedCount {X : zX} (F : zFr X cX2_nominatedCount 3 RX2 (some .int))   (s0 : zM) {κ : Int32 → Option zO} (hκ : ∀ a, κ a = some ((fun a => ((.inl ((fun q => some (zi q)) a), (fun _ => [s0]) a) : zO)) a)) : zZ X [(0, [])] 0 0 3 0 [some (zr 0 5 0), none, none] [] [s0] (Option.bind (fLe_nominatedCount s0) κ) := by
  unfold fLe_nominatedCount
  refine zz_iconst F (v := (0 : Int32)) dX2_nominatedCount_0 (by decide) ?_
  refine zz_istore_n F (i := 1) (L' := [some (zr 0 5 0), some (zi (0 : Int32)), none]) dX2_nominatedCount_1 rfl (by decide) rfl rfl ?_
  refine zz_iconst F (v := (0 : Int32)) dX2_nominatedCount_2 (by decide) ?_
  refine zz_istore_n F (i := 2) (L' := [some (zr 0 5 0), some (zi (0 : Int32)), some (zi (0 : Int32))]) dX2_nominatedCount_3 rfl (by decide) rfl rfl ?_
  refine zz_sub (zs_k (zs_k (zs_k zs_z))) ?_
  refine zz_bind ?_
  refine zz_iter (Lf := fun q1 => [some (zr 0 5 0), some (zi q1.1), some (zi q1.2)]) (Mf := fun q1 => [s0]) (fun q1 ψ h1 h2 => bfLe_nominatedCount_l4 F s0  h1 (fun q2 => ?_)  q1) 1000 ((0 : Int32), (0 : Int32))
  rw [h2]
  refine zz_iload_n F (i := 1) dX2_nominatedCount_29 rfl rfl ?_
  exact zz_ireturn F dX2_nominatedCount_30 rfl (hκ _)
theorem zfLe_nominatedCount   (s0 : zM) : ∀ a, fLe_nominatedCount s0 = some a → zMet yX2_nominatedCount cX2_nominatedCount 3 (some .int) 0 0 [(0, [])] [zr 0 5 0] [s0] ((fun a => ((.inl ((fun q => some (zi q)) a), (fun _ => [s0]) a) : zO)) a) := fun a ha => zMet_of (L0 := [some (zr 0 5 0), none, none]) (φ := Option.bind (fLe_nominatedCount s0) (fun a => some ((fun a => ((.inl ((fun q => some (zi q)) a), (fun _ => [s0]) a) : zO)) a))) (by decide) (fun _ => Nat.le_of_ble_eq_true rfl) (zl0 2 rfl) (fun X F => bfLe_nominatedCount F s0 (fun _ => rfl)) (by rw [ha]; rfl)

theorem dX9_nominate_0 : decode cX9_nominate 0 = .ok (.iload_n 1, 1) := by decide +kernel
theorem dX9_nominate_1 : decode cX9_nominate 1 = .ok (.aload_n 0, 1) := by decide +kernel
theorem dX9_nominate_2 : decode cX9_nominate 2 = .ok (.getfield 10, 3) := by decide +kernel
theorem dX9_nominate_5 : decode cX9_nominate 5 = .ok (.getfield 79, 3) := by decide +kernel
theorem dX9_nominate_8 : decode cX9_nominate 8 = .ok (.iconst 1, 1) := by decide +kernel
theorem dX9_nominate_9 : decode cX9_nominate 9 = .ok (.iadd, 1) := by decide +kernel
theorem dX9_nominate_10 : decode cX9_nominate 10 = .ok (.aload_n 0, 1) := by decide +kernel
theorem dX9_nominate_11 : decode cX9_nominate 11 = .ok (.getfield 10, 3) := by decide +kernel
theorem dX9_nominate_14 : decode cX9_nominate 14 = .ok (.getfield 79, 3) := by decide +kernel
theorem dX9_nominate_17 : decode cX9_nominate 17 = .ok (.bipush 24, 2) := by decide +kernel
theorem dX9_nominate_19 : decode cX9_nominate 19 = .ok (.iadd, 1) := by decide +kernel
theorem dX9_nominate_20 : decode cX9_nominate 20 = .ok (.invokestatic 26, 3) := by decide +kernel
theorem dX9_nominate_23 : decode cX9_nominate 23 = .ok (.ifCond .ne 14, 3) := by decide +kernel
theorem dX9_nominate_26 : decode cX9_nominate 26 = .ok (.iload_n 2, 1) := by decide +kernel
theorem dX9_nominate_27 : decode cX9_nominate 27 = .ok (.iconst 0, 1) := by decide +kernel
theorem dX9_nominate_28 : decode cX9_nominate 28 = .ok (.sipush 20000, 3) := by decide +kernel
theorem dX9_nominate_31 : decode cX9_nominate 31 = .ok (.invokestatic 26, 3) := by decide +kernel
theorem dX9_nominate_34 : decode cX9_nominate 34 = .ok (.ifCond .eq 13, 3) := by decide +kernel
theorem dX9_nominate_37 : decode cX9_nominate 37 = .ok (.new 30, 3) := by decide +kernel
theorem dX9_nominate_40 : decode cX9_nominate 40 = .ok (.dup, 1) := by decide +kernel
theorem dX9_nominate_41 : decode cX9_nominate 41 = .ok (.ldc 82, 2) := by decide +kernel
theorem dX9_nominate_43 : decode cX9_nominate 43 = .ok (.invokespecial 34, 3) := by decide +kernel
theorem dX9_nominate_46 : decode cX9_nominate 46 = .ok (.athrow, 1) := by decide +kernel
theorem dX9_nominate_47 : decode cX9_nominate 47 = .ok (.aload_n 0, 1) := by decide +kernel
theorem dX9_nominate_48 : decode cX9_nominate 48 = .ok (.getfield 10, 3) := by decide +kernel
theorem dX9_nominate_51 : decode cX9_nominate 51 = .ok (.getfield 84, 3) := by decide +kernel
theorem dX9_nominate_54 : decode cX9_nominate 54 = .ok (.iload_n 1, 1) := by decide +kernel
theorem dX9_nominate_55 : decode cX9_nominate 55 = .ok (.aload_n 0, 1) := by decide +kernel
theorem dX9_nominate_56 : decode cX9_nominate 56 = .ok (.getfield 10, 3) := by decide +kernel
theorem dX9_nominate_59 : decode cX9_nominate 59 = .ok (.getfield 79, 3) := by decide +kernel
theorem dX9_nominate_62 : decode cX9_nominate 62 = .ok (.isub, 1) := by decide +kernel
theorem dX9_nominate_63 : decode cX9_nominate 63 = .ok (.iconst 1, 1) := by decide +kernel
theorem dX9_nominate_64 : decode cX9_nominate 64 = .ok (.isub, 1) := by decide +kernel
theorem dX9_nominate_65 : decode cX9_nominate 65 = .ok (.iload_n 2, 1) := by decide +kernel
theorem dX9_nominate_66 : decode cX9_nominate 66 = .ok (.invokevirtual 88, 3) := by decide +kernel
theorem dX9_nominate_69 : decode cX9_nominate 69 = .ok (.aload_n 0, 1) := by decide +kernel
theorem dX9_nominate_70 : decode cX9_nominate 70 = .ok (.getfield 10, 3) := by decide +kernel
theorem dX9_nominate_73 : decode cX9_nominate 73 = .ok (.getfield 84, 3) := by decide +kernel
theorem dX9_nominate_76 : decode cX9_nominate 76 = .ok (.invokevirtual 94, 3) := by decide +kernel
theorem dX9_nominate_79 : decode cX9_nominate 79 = .ok (.ireturn, 1) := by decide +kernel
theorem wfRX9_79 : zFl RX9 79 3 8 := ⟨_, rfl, by decide, zm_f 297 (by decide +kernel) rfl⟩
theorem wsRX9_82 : (RX9, 82, "the next 24 HOURS, 0 to 20000") ∈ zstr := by decide +kernel
theorem wfRX9_84 : zFl RX9 84 3 4 := ⟨_, rfl, by decide, zm_f 289 (by decide +kernel) rfl⟩
theorem wcRX9_88 : Cond.methodLink RX9 88 yX2_put ∈ zTg ∧ Cond.instanceMethod yX2_put ∈ zTg ∧ Cond.selects RX2 yX2_put yX2_put ∈ zTg ∧ Cond.initialized RX2 ∈ zTg ∧ Cond.code yX2_put cX2_put 3 none ∈ zTg := ⟨zm_f 813 (by decide +kernel) rfl, zm_f 814 (by decide +kernel) rfl, zm_f 815 (by decide +kernel) rfl, zm_f 40 (by decide +kernel) rfl, zm_f 816 (by decide +kernel) rfl⟩
theorem wy_yX2_put : yX2_put.cls = RX2 ∧ yX2_put.cls ≠ "java/lang/invoke/MethodHandle" ∧ yX2_put.cls ≠ "java/lang/invoke/VarHandle" ∧ (parseMethodDescriptor yX2_put.desc).map (fun d => d.parameters.length) = some 2 := by decide +kernel
theorem wcRX9_94 : Cond.methodLink RX9 94 yX2_nominatedCount ∈ zTg ∧ Cond.instanceMethod yX2_nominatedCount ∈ zTg ∧ Cond.selects RX2 yX2_nominatedCount yX2_nominatedCount ∈ zTg ∧ Cond.initialized RX2 ∈ zTg ∧ Cond.code yX2_nominatedCount cX2_nominatedCount 3 (some .int) ∈ zTg := ⟨zm_f 412 (by decide +kernel) rfl, zm_f 413 (by decide +kernel) rfl, zm_f 414 (by decide +kernel) rfl, zm_f 40 (by decide +kernel) rfl, zm_f 415 (by decide +kernel) rfl⟩
theorem wy_yX2_nominatedCount : yX2_nominatedCount.cls = RX2 ∧ yX2_nominatedCount.cls ≠ "java/lang/invoke/MethodHandle" ∧ yX2_nominatedCount.cls ≠ "java/lang/invoke/VarHandle" ∧ (parseMethodDescriptor yX2_nominatedCount.desc).map (fun d => d.parameters.length) = some 0 := by decide +kernel
def fWB_nominate (a1 : Int32) (a2 : Int32) (s0 : zM) (s1 : zM) (s2 : zM) (s3 : zM) : Option ((Int32 × zM) ⊕ (String × zM)) :=
  Option.bind (fWB_outside a1 ((s1 0 0 8) + (1 : Int32)) ((s1 0 0 8) + (24 : Int32))) fun q1 =>
  if q1 = 0 then
  Option.bind (fWB_outside a2 (0 : Int32) (20000 : Int32)) fun q2 =>
    if q2 = 0 then
    Option.bind (fLe_put ((a1 - (s1 0 0 8)) - (1 : Int32)) a2 s1) fun q3 =>
      Option.bind (fLe_nominatedCount q3) fun q4 =>
      some (.inl (q4, q3))
  else
    some (.inr ("java/lang/IllegalArgumentException", s1))
else
  some (.inr ("java/lang/IllegalArgumentException", s1))
set_option maxHeartbeats 4000000 in
set_option maxRecDepth 20000 in
theorem bfWB_nominate {X : zX} (F : zFr X cX9_nominate 3 RX9 (some .int)) (a1 : Int32) (a2 : Int32)  (s0 : zM) (s1 : zM) (s2 : zM) (s3 : zM) {κ : (Int32 × zM) ⊕ (String × zM) → Option zO} (hκ : ∀ a, κ a = some ((zts (fun q => some (zi q.1)) (fun q => [s0, q.2, s2, s3]) (fun b => b.1) (fun b => [s0, b.2, s2, s3])) a)) : zZ X [(2, [1, 2, 3]), (0, []), (0, []), (1, [])] 6 90 3 0 [some (zr 0 0 0), some (zi a1), some (zi a2)] [] [s0, s1, s2, s3] (Option.bind (fWB_nominate a1 a2 s0 s1 s2 s3) κ) := by
  unfold fWB_nominate
  refine zz_iload_n F (i := 1) dX9_nominate_0 rfl rfl ?_
  refine zz_aload_n F (i := 0) dX9_nominate_1 rfl rfl ?_
  refine zz_getr F dX9_nominate_2 wfRX9_10 zCl_8 rfl (⟨zlb rfl, zlb rfl, zlb rfl⟩) rfl (by decide) rfl (r' := 1) (by decide) ?_
  refine zz_getf F dX9_nominate_5 wfRX9_79 zCl_3 rfl (⟨zlb rfl, zlb rfl, zlb rfl⟩) rfl (by decide) rfl rfl ?_
  refine zz_iconst F (v := (1 : Int32)) dX9_nominate_8 (by decide) ?_
  refine zz_iadd F dX9_nominate_9 ?_
  refine zz_aload_n F (i := 0) dX9_nominate_10 rfl rfl ?_
  refine zz_getr F dX9_nominate_11 wfRX9_10 zCl_8 rfl (⟨zlb rfl, zlb rfl, zlb rfl⟩) rfl (by decide) rfl (r' := 1) (by decide) ?_
  refine zz_getf F dX9_nominate_14 wfRX9_79 zCl_3 rfl (⟨zlb rfl, zlb rfl, zlb rfl⟩) rfl (by decide) rfl rfl ?_
  refine zz_bipush F (v := (24 : Int32)) dX9_nominate_17 (by decide) ?_
  refine zz_iadd F dX9_nominate_19 ?_
  refine zz_bind ?_
  refine zz_callSr F (ρ := []) (so := fun q1 => [zi q1]) (Mo := fun q1 => [s0, s1, s2, s3]) (zfWB_outside a1 ((s1 0 0 8) + (1 : Int32)) ((s1 0 0 8) + (24 : Int32))) dX9_nominate_20 wcRX9_26 wy_yX9_outside rfl ⟨rel0, rfl, rfl, Nat.le_of_ble_eq_true rfl, Nat.le_of_ble_eq_true rfl, Nat.le_of_ble_eq_true rfl⟩ rfl (fun _ => rfl) (fun _ => rfl) fun q1 => ?_
  refine zz_if_ne F (tgt := 37) dX9_nominate_23 (by decide) (fun h => zz_f h ?_) (fun h => zz_t h ?_)
  · exact zz_throw F (cls := "java/lang/IllegalArgumentException") dX9_nominate_37 dX9_nominate_40 dX9_nominate_41 dX9_nominate_43 dX9_nominate_46 (by decide) wtRX9_30_34k wsRX9_82 wtRX9_30_34g wtRX9_30_34n wtRX9_30_34o (Nat.le_of_ble_eq_true rfl) (Nat.le_of_ble_eq_true rfl) (hκ _)
  · refine zz_iload_n F (i := 2) dX9_nominate_26 rfl rfl ?_
    refine zz_iconst F (v := (0 : Int32)) dX9_nominate_27 (by decide) ?_
    refine zz_sipush F (v := (20000 : Int32)) dX9_nominate_28 (by decide) ?_
    refine zz_bind ?_
    refine zz_callSr F (ρ := []) (so := fun q2 => [zi q2]) (Mo := fun q2 => [s0, s1, s2, s3]) (zfWB_outside a2 (0 : Int32) (20000 : Int32)) dX9_nominate_31 wcRX9_26 wy_yX9_outside rfl ⟨rel0, rfl, rfl, Nat.le_of_ble_eq_true rfl, Nat.le_of_ble_eq_true rfl, Nat.le_of_ble_eq_true rfl⟩ rfl (fun _ => rfl) (fun _ => rfl) fun q2 => ?_
    refine zz_if_eq F (tgt := 47) dX9_nominate_34 (by decide) (fun h => zz_t h ?_) (fun h => zz_f h ?_)
    · refine zz_aload_n F (i := 0) dX9_nominate_47 rfl rfl ?_
      refine zz_getr F dX9_nominate_48 wfRX9_10 zCl_8 rfl (⟨zlb rfl, zlb rfl, zlb rfl⟩) rfl (by decide) rfl (r' := 1) (by decide) ?_
      refine zz_getr F dX9_nominate_51 wfRX9_84 zCl_3 rfl (⟨zlb rfl, zlb rfl, zlb rfl⟩) rfl (by decide) rfl (r' := 1) (by decide) ?_
      refine zz_iload_n F (i := 1) dX9_nominate_54 rfl rfl ?_
      refine zz_aload_n F (i := 0) dX9_nominate_55 rfl rfl ?_
      refine zz_getr F dX9_nominate_56 wfRX9_10 zCl_8 rfl (⟨zlb rfl, zlb rfl, zlb rfl⟩) rfl (by decide) rfl (r' := 1) (by decide) ?_
      refine zz_getf F dX9_nominate_59 wfRX9_79 zCl_3 rfl (⟨zlb rfl, zlb rfl, zlb rfl⟩) rfl (by decide) rfl rfl ?_
      refine zz_isub F dX9_nominate_62 ?_
      refine zz_iconst F (v := (1 : Int32)) dX9_nominate_63 (by decide) ?_
      refine zz_isub F dX9_nominate_64 ?_
      refine zz_iload_n F (i := 2) dX9_nominate_65 rfl rfl ?_
      refine zz_bind ?_
      refine zz_callVr F (ρ := [1]) (so := fun q3 => []) (Mo := fun q3 => [s0, q3, s2, s3]) (zfLe_put ((a1 - (s1 0 0 8)) - (1 : Int32)) a2 s1) dX9_nominate_66 wcRX9_88 wy_yX2_put rfl ⟨rel1, rfl, rfl, Nat.le_of_ble_eq_true rfl, Nat.le_of_ble_eq_true rfl, Nat.le_of_ble_eq_true rfl⟩ (⟨zlb rfl, zlb rfl, zlb rfl⟩) rfl rfl rfl (fun _ => rfl) (fun _ => rfl) fun q3 => ?_
      refine zz_aload_n F (i := 0) dX9_nominate_69 rfl rfl ?_
      refine zz_getr F dX9_nominate_70 wfRX9_10 zCl_8 rfl (⟨zlb rfl, zlb rfl, zlb rfl⟩) rfl (by decide) rfl (r' := 1) (by decide) ?_
      refine zz_getr F dX9_nominate_73 wfRX9_84 zCl_3 rfl (⟨zlb rfl, zlb rfl, zlb rfl⟩) rfl (by decide) rfl (r' := 1) (by decide) ?_
      refine zz_bind ?_
      refine zz_callVr F (ρ := [1]) (so := fun q4 => [zi q4]) (Mo := fun q4 => [s0, q3, s2, s3]) (zfLe_nominatedCount q3) dX9_nominate_76 wcRX9_94 wy_yX2_nominatedCount rfl ⟨rel1, rfl, rfl, Nat.le_of_ble_eq_true rfl, Nat.le_of_ble_eq_true rfl, Nat.le_of_ble_eq_true rfl⟩ (⟨zlb rfl, zlb rfl, zlb rfl⟩) rfl rfl rfl (fun _ => rfl) (fun _ => rfl) fun q4 => ?_
      exact zz_ireturn F dX9_nominate_79 rfl (hκ _)
    · exact zz_throw F (cls := "java/lang/IllegalArgumentException") dX9_nominate_37 dX9_nominate_40 dX9_nominate_41 dX9_nominate_43 dX9_nominate_46 (by decide) wtRX9_30_34k wsRX9_82 wtRX9_30_34g wtRX9_30_34n wtRX9_30_34o (Nat.le_of_ble_eq_true rfl) (Nat.le_of_ble_eq_true rfl) (hκ _)
theorem zfWB_nominate (a1 : Int32) (a2 : Int32)  (s0 : zM) (s1 : zM) (s2 : zM) (s3 : zM) : ∀ a, fWB_nominate a1 a2 s0 s1 s2 s3 = some a → zMet yX9_nominate cX9_nominate 3 (some .int) 6 90 [(2, [1, 2, 3]), (0, []), (0, []), (1, [])] [zr 0 0 0, zi a1, zi a2] [s0, s1, s2, s3] ((zts (fun q => some (zi q.1)) (fun q => [s0, q.2, s2, s3]) (fun b => b.1) (fun b => [s0, b.2, s2, s3])) a) := fun a ha => zMet_of (L0 := [some (zr 0 0 0), some (zi a1), some (zi a2)]) (φ := Option.bind (fWB_nominate a1 a2 s0 s1 s2 s3) (fun a => some ((zts (fun q => some (zi q.1)) (fun q => [s0, q.2, s2, s3]) (fun b => b.1) (fun b => [s0, b.2, s2, s3])) a))) (by decide) (fun _ => Nat.le_of_ble_eq_true rfl) (zl0 0 rfl) (fun X F => bfWB_nominate F a1 a2 s0 s1 s2 s3 (fun _ => rfl)) (by rw [ha]; rfl)
end
section
theorem dX8_set_0 : decode cX8_set 0 = .ok (.aload_n 0, 1) := by decide +kernel
theorem dX8_set_1 : decode cX8_set 1 = .ok (.iload_n 1, 1) := by decide +kernel
theorem dX8_set_2 : decode cX8_set 2 = .ok (.putfield 15, 3) := by decide +kernel
theorem dX8_set_5 : decode cX8_set 5 = .ok (.aload_n 0, 1) := by decide +kernel
theorem dX8_set_6 : decode cX8_set 6 = .ok (.iload_n 2, 1) := by decide +kernel
theorem dX8_set_7 : decode cX8_set 7 = .ok (.putfield 18, 3) := by decide +kernel
theorem dX8_set_10 : decode cX8_set 10 = .ok (.aload_n 0, 1) := by decide +kernel
theorem dX8_set_11 : decode cX8_set 11 = .ok (.iload_n 3, 1) := by decide +kernel
theorem dX8_set_12 : decode cX8_set 12 = .ok (.putfield 21, 3) := by decide +kernel
theorem dX8_set_15 : decode cX8_set 15 = .ok (.aload_n 0, 1) := by decide +kernel
theorem dX8_set_16 : decode cX8_set 16 = .ok (.iload 4, 2) := by decide +kernel
theorem dX8_set_18 : decode cX8_set 18 = .ok (.putfield 24, 3) := by decide +kernel
theorem dX8_set_21 : decode cX8_set 21 = .ok (.aload_n 0, 1) := by decide +kernel
theorem dX8_set_22 : decode cX8_set 22 = .ok (.iload 5, 2) := by decide +kernel
theorem dX8_set_24 : decode cX8_set 24 = .ok (.putfield 9, 3) := by decide +kernel
theorem dX8_set_27 : decode cX8_set 27 = .ok (.return_, 1) := by decide +kernel
theorem wpRX8_15 : zFw RX8 15 7 0 .int := ⟨_, rfl, by decide, zm_f 83 (by decide +kernel) rfl, rfl, by decide +kernel⟩
theorem wpRX8_18 : zFw RX8 18 7 1 .int := ⟨_, rfl, by decide, zm_f 85 (by decide +kernel) rfl, rfl, by decide +kernel⟩
theorem wpRX8_21 : zFw RX8 21 7 2 .int := ⟨_, rfl, by decide, zm_f 88 (by decide +kernel) rfl, rfl, by decide +kernel⟩
theorem wpRX8_24 : zFw RX8 24 7 3 .int := ⟨_, rfl, by decide, zm_f 91 (by decide +kernel) rfl, rfl, by decide +kernel⟩
theorem wpRX8_9 : zFw RX8 9 7 4 .int := ⟨_, rfl, by decide, zm_f 94 (by decide +kernel) rfl, rfl, by decide +kernel⟩
def fWe_set (a1 : Int32) (a2 : Int32) (a3 : Int32) (a4 : Int32) (a5 : Int32) (s0 : zM) : Option (zM) :=
  zlet (zu s0 4 0 0 a1) fun s0_1 =>
  zlet (zu s0_1 4 0 1 a2) fun s0_2 =>
  zlet (zu s0_2 4 0 2 a3) fun s0_3 =>
  zlet (zu s0_3 4 0 3 a4) fun s0_4 =>
  zlet (zu s0_4 4 0 4 a5) fun s0_5 =>
  some s0_5
set_option maxHeartbeats 4000000 in
set_option maxRecDepth 20000 in
theorem bfWe_set {X : zX} (F : zFr X cX8_set 6 RX8 none) (a1 : Int32) (a2 : Int32) (a3 : Int32) (a4 : Int32) (a5 : Int32)  (s0 : zM) {κ : zM → Option zO} (hκ : ∀ a, κ a = some ((fun a => ((.inl ((fun _ => (none : Option zV)) a), (fun q => [q]) a) : zO)) a)) : zZ X [(0, [])] 0 0 6 0 [some (zr 0 4 0), some (zi a1), some (zi a2), some (zi a3), some (zi a4), some (zi a5)] [] [s0] (Option.bind (fWe_set a1 a2 a3 a4 a5 s0) κ) := by
  unfold fWe_set
  refine zz_aload_n F (i := 0) dX8_set_0 rfl rfl ?_
  refine zz_iload_n F (i := 1) dX8_set_1 rfl rfl ?_
  refine zz_put F (Ms' := [(zu s0 4 0 0 a1)]) dX8_set_2 wpRX8_15 zCl_7 rfl (⟨zlb rfl, zlb rfl, zlb rfl⟩) rfl (by decide) rfl rfl rfl ?_
  refine zz_letm (Mf := fun s0_1 => [s0_1]) fun s0_1 => ?_
  refine zz_aload_n F (i := 0) dX8_set_5 rfl rfl ?_
  refine zz_iload_n F (i := 2) dX8_set_6 rfl rfl ?_
  refine zz_put F (Ms' := [(zu s0_1 4 0 1 a2)]) dX8_set_7 wpRX8_18 zCl_7 rfl (⟨zlb rfl, zlb rfl, zlb rfl⟩) rfl (by decide) rfl rfl rfl ?_
  refine zz_letm (Mf := fun s0_2 => [s0_2]) fun s0_2 => ?_
  refine zz_aload_n F (i := 0) dX8_set_10 rfl rfl ?_
  refine zz_iload_n F (i := 3) dX8_set_11 rfl rfl ?_
  refine zz_put F (Ms' := [(zu s0_2 4 0 2 a3)]) dX8_set_12 wpRX8_21 zCl_7 rfl (⟨zlb rfl, zlb rfl, zlb rfl⟩) rfl (by decide) rfl rfl rfl ?_
  refine zz_letm (Mf := fun s0_3 => [s0_3]) fun s0_3 => ?_
  refine zz_aload_n F (i := 0) dX8_set_15 rfl rfl ?_
  refine zz_iload F (i := 4) dX8_set_16 rfl ?_
  refine zz_put F (Ms' := [(zu s0_3 4 0 3 a4)]) dX8_set_18 wpRX8_24 zCl_7 rfl (⟨zlb rfl, zlb rfl, zlb rfl⟩) rfl (by decide) rfl rfl rfl ?_
  refine zz_letm (Mf := fun s0_4 => [s0_4]) fun s0_4 => ?_
  refine zz_aload_n F (i := 0) dX8_set_21 rfl rfl ?_
  refine zz_iload F (i := 5) dX8_set_22 rfl ?_
  refine zz_put F (Ms' := [(zu s0_4 4 0 4 a5)]) dX8_set_24 wpRX8_9 zCl_7 rfl (⟨zlb rfl, zlb rfl, zlb rfl⟩) rfl (by decide) rfl rfl rfl ?_
  refine zz_letm (Mf := fun s0_5 => [s0_5]) fun s0_5 => ?_
  exact zz_return F dX8_set_27 rfl (hκ _)
theorem zfWe_set (a1 : Int32) (a2 : Int32) (a3 : Int32) (a4 : Int32) (a5 : Int32)  (s0 : zM) : ∀ a, fWe_set a1 a2 a3 a4 a5 s0 = some a → zMet yX8_set cX8_set 6 none 0 0 [(0, [])] [zr 0 4 0, zi a1, zi a2, zi a3, zi a4, zi a5] [s0] ((fun a => ((.inl ((fun _ => (none : Option zV)) a), (fun q => [q]) a) : zO)) a) := fun a ha => zMet_of (L0 := [some (zr 0 4 0), some (zi a1), some (zi a2), some (zi a3), some (zi a4), some (zi a5)]) (φ := Option.bind (fWe_set a1 a2 a3 a4 a5 s0) (fun a => some ((fun a => ((.inl ((fun _ => (none : Option zV)) a), (fun q => [q]) a) : zO)) a))) (by decide) (fun _ => Nat.le_of_ble_eq_true rfl) (zl0 0 rfl) (fun X F => bfWe_set F a1 a2 a3 a4 a5 s0 (fun _ => rfl)) (by rw [ha]; rfl)

theorem dX5_become_0 : decode cX5_become 0 = .ok (.aload_n 0, 1) := by decide +kernel
theorem dX5_become_1 : decode cX5_become 1 = .ok (.iload_n 1, 1) := by decide +kernel
theorem dX5_become_2 : decode cX5_become 2 = .ok (.putfield 9, 3) := by decide +kernel
theorem dX5_become_5 : decode cX5_become 5 = .ok (.aload_n 0, 1) := by decide +kernel
theorem dX5_become_6 : decode cX5_become 6 = .ok (.iconst 0, 1) := by decide +kernel
theorem dX5_become_7 : decode cX5_become 7 = .ok (.putfield 15, 3) := by decide +kernel
theorem dX5_become_10 : decode cX5_become 10 = .ok (.aload_n 0, 1) := by decide +kernel
theorem dX5_become_11 : decode cX5_become 11 = .ok (.iconst (-1), 1) := by decide +kernel
theorem dX5_become_12 : decode cX5_become 12 = .ok (.putfield 18, 3) := by decide +kernel
theorem dX5_become_15 : decode cX5_become 15 = .ok (.aload_n 0, 1) := by decide +kernel
theorem dX5_become_16 : decode cX5_become 16 = .ok (.iconst (-1), 1) := by decide +kernel
theorem dX5_become_17 : decode cX5_become 17 = .ok (.putfield 21, 3) := by decide +kernel
theorem dX5_become_20 : decode cX5_become 20 = .ok (.return_, 1) := by decide +kernel
theorem wpRX5_9 : zFw RX5 9 5 3 .int := ⟨_, rfl, by decide, zm_f 170 (by decide +kernel) rfl, rfl, by decide +kernel⟩
theorem wpRX5_15 : zFw RX5 15 5 4 .int := ⟨_, rfl, by decide, zm_f 173 (by decide +kernel) rfl, rfl, by decide +kernel⟩
theorem wpRX5_18 : zFw RX5 18 5 5 .int := ⟨_, rfl, by decide, zm_f 175 (by decide +kernel) rfl, rfl, by decide +kernel⟩
theorem wpRX5_21 : zFw RX5 21 5 6 .int := ⟨_, rfl, by decide, zm_f 177 (by decide +kernel) rfl, rfl, by decide +kernel⟩
def fTu_become (i : Nat) (a1 : Int32) (s0 : zM) : Option (zM) :=
  zlet (zu s0 7 i 3 a1) fun s0_1 =>
  zlet (zu s0_1 7 i 4 (0 : Int32)) fun s0_2 =>
  zlet (zu s0_2 7 i 5 (-1 : Int32)) fun s0_3 =>
  zlet (zu s0_3 7 i 6 (-1 : Int32)) fun s0_4 =>
  some s0_4
set_option maxHeartbeats 4000000 in
set_option maxRecDepth 20000 in
theorem bfTu_become {X : zX} (F : zFr X cX5_become 2 RX5 none) (i : Nat) (a1 : Int32) (hi : i < 8) (s0 : zM) {κ : zM → Option zO} (hκ : ∀ a, κ a = some ((fun a => ((.inl ((fun _ => (none : Option zV)) a), (fun q => [q]) a) : zO)) a)) : zZ X [(0, [])] 0 0 2 0 [some (zr 0 7 i), some (zi a1)] [] [s0] (Option.bind (fTu_become i a1 s0) κ) := by
  unfold fTu_become
  refine zz_aload_n F (i := 0) dX5_become_0 rfl rfl ?_
  refine zz_iload_n F (i := 1) dX5_become_1 rfl rfl ?_
  refine zz_put F (Ms' := [(zu s0 7 i 3 a1)]) dX5_become_2 wpRX5_9 zCl_5 rfl (⟨zlb rfl, zlb rfl, hi⟩) rfl (by decide) rfl rfl rfl ?_
  refine zz_letm (Mf := fun s0_1 => [s0_1]) fun s0_1 => ?_
  refine zz_aload_n F (i := 0) dX5_become_5 rfl rfl ?_
  refine zz_iconst F (v := (0 : Int32)) dX5_become_6 (by decide) ?_
  refine zz_put F (Ms' := [(zu s0_1 7 i 4 (0 : Int32))]) dX5_become_7 wpRX5_15 zCl_5 rfl (⟨zlb rfl, zlb rfl, hi⟩) rfl (by decide) rfl rfl rfl ?_
  refine zz_letm (Mf := fun s0_2 => [s0_2]) fun s0_2 => ?_
  refine zz_aload_n F (i := 0) dX5_become_10 rfl rfl ?_
  refine zz_iconst F (v := (-1 : Int32)) dX5_become_11 (by decide) ?_
  refine zz_put F (Ms' := [(zu s0_2 7 i 5 (-1 : Int32))]) dX5_become_12 wpRX5_18 zCl_5 rfl (⟨zlb rfl, zlb rfl, hi⟩) rfl (by decide) rfl rfl rfl ?_
  refine zz_letm (Mf := fun s0_3 => [s0_3]) fun s0_3 => ?_
  refine zz_aload_n F (i := 0) dX5_become_15 rfl rfl ?_
  refine zz_iconst F (v := (-1 : Int32)) dX5_become_16 (by decide) ?_
  refine zz_put F (Ms' := [(zu s0_3 7 i 6 (-1 : Int32))]) dX5_become_17 wpRX5_21 zCl_5 rfl (⟨zlb rfl, zlb rfl, hi⟩) rfl (by decide) rfl rfl rfl ?_
  refine zz_letm (Mf := fun s0_4 => [s0_4]) fun s0_4 => ?_
  exact zz_return F dX5_become_20 rfl (hκ _)
theorem zfTu_become (i : Nat) (a1 : Int32) (hi : i < 8) (s0 : zM) : ∀ a, fTu_become i a1 s0 = some a → zMet yX5_become cX5_become 2 none 0 0 [(0, [])] [zr 0 7 i, zi a1] [s0] ((fun a => ((.inl ((fun _ => (none : Option zV)) a), (fun q => [q]) a) : zO)) a) := fun a ha => zMet_of (L0 := [some (zr 0 7 i), some (zi a1)]) (φ := Option.bind (fTu_become i a1 s0) (fun a => some ((fun a => ((.inl ((fun _ => (none : Option zV)) a), (fun q => [q]) a) : zO)) a))) (by decide) (fun _ => Nat.le_of_ble_eq_true rfl) (zl0 0 rfl) (fun X F => bfTu_become F i a1 hi s0 (fun _ => rfl)) (by rw [ha]; rfl)

theorem dX5_stop_0 : decode cX5_stop 0 = .ok (.aload_n 0, 1) := by decide +kernel
theorem dX5_stop_1 : decode cX5_stop 1 = .ok (.iconst 0, 1) := by decide +kernel
theorem dX5_stop_2 : decode cX5_stop 2 = .ok (.invokevirtual 69, 3) := by decide +kernel
theorem dX5_stop_5 : decode cX5_stop 5 = .ok (.aload_n 0, 1) := by decide +kernel
theorem dX5_stop_6 : decode cX5_stop 6 = .ok (.iload_n 1, 1) := by decide +kernel
theorem dX5_stop_7 : decode cX5_stop 7 = .ok (.putfield 15, 3) := by decide +kernel
theorem dX5_stop_10 : decode cX5_stop 10 = .ok (.return_, 1) := by decide +kernel
theorem wcRX5_69 : Cond.methodLink RX5 69 yX5_become ∈ zTg ∧ Cond.instanceMethod yX5_become ∈ zTg ∧ Cond.selects RX5 yX5_become yX5_become ∈ zTg ∧ Cond.initialized RX5 ∈ zTg ∧ Cond.code yX5_become cX5_become 2 none ∈ zTg := ⟨zm_f 613 (by decide +kernel) rfl, zm_f 614 (by decide +kernel) rfl, zm_f 615 (by decide +kernel) rfl, zm_f 41 (by decide +kernel) rfl, zm_f 616 (by decide +kernel) rfl⟩
theorem wy_yX5_become : yX5_become.cls = RX5 ∧ yX5_become.cls ≠ "java/lang/invoke/MethodHandle" ∧ yX5_become.cls ≠ "java/lang/invoke/VarHandle" ∧ (parseMethodDescriptor yX5_become.desc).map (fun d => d.parameters.length) = some 1 := by decide +kernel
theorem rel3 : zRel [0] [(0, [])] [(0, [])] := by unfold zRel; decide
def fTu_stop (i : Nat) (a1 : Int32) (s0 : zM) : Option (zM) :=
  Option.bind (fTu_become i (0 : Int32) s0) fun q1 =>
  zlet (zu q1 7 i 4 a1) fun s0_2 =>
  some s0_2
set_option maxHeartbeats 4000000 in
set_option maxRecDepth 20000 in
theorem bfTu_stop {X : zX} (F : zFr X cX5_stop 2 RX5 none) (i : Nat) (a1 : Int32) (hi : i < 8) (s0 : zM) {κ : zM → Option zO} (hκ : ∀ a, κ a = some ((fun a => ((.inl ((fun _ => (none : Option zV)) a), (fun q => [q]) a) : zO)) a)) : zZ X [(0, [])] 1 21 2 0 [some (zr 0 7 i), some (zi a1)] [] [s0] (Option.bind (fTu_stop i a1 s0) κ) := by
  unfold fTu_stop
  refine zz_aload_n F (i := 0) dX5_stop_0 rfl rfl ?_
  refine zz_iconst F (v := (0 : Int32)) dX5_stop_1 (by decide) ?_
  refine zz_bind ?_
  refine zz_callVr F (ρ := [0]) (so := fun q1 => []) (Mo := fun q1 => [q1]) (zfTu_become i (0 : Int32) hi s0) dX5_stop_2 wcRX5_69 wy_yX5_become rfl ⟨rel3, rfl, rfl, Nat.le_of_ble_eq_true rfl, Nat.le_of_ble_eq_true rfl, Nat.le_of_ble_eq_true rfl⟩ (⟨zlb rfl, zlb rfl, hi⟩) rfl rfl rfl (fun _ => rfl) (fun _ => rfl) fun q1 => ?_
  refine zz_aload_n F (i := 0) dX5_stop_5 rfl rfl ?_
  refine zz_iload_n F (i := 1) dX5_stop_6 rfl rfl ?_
  refine zz_put F (Ms' := [(zu q1 7 i 4 a1)]) dX5_stop_7 wpRX5_15 zCl_5 rfl (⟨zlb rfl, zlb rfl, hi⟩) rfl (by decide) rfl rfl rfl ?_
  refine zz_letm (Mf := fun s0_2 => [s0_2]) fun s0_2 => ?_
  exact zz_return F dX5_stop_10 rfl (hκ _)
theorem zfTu_stop (i : Nat) (a1 : Int32) (hi : i < 8) (s0 : zM) : ∀ a, fTu_stop i a1 s0 = some a → zMet yX5_stop cX5_stop 2 none 1 21 [(0, [])] [zr 0 7 i, zi a1] [s0] ((fun a => ((.inl ((fun _ => (none : Option zV)) a), (fun q => [q]) a) : zO)) a) := fun a ha => zMet_of (L0 := [some (zr 0 7 i), some (zi a1)]) (φ := Option.bind (fTu_stop i a1 s0) (fun a => some ((fun a => ((.inl ((fun _ => (none : Option zV)) a), (fun q => [q]) a) : zO)) a))) (by decide) (fun _ => Nat.le_of_ble_eq_true rfl) (zl0 0 rfl) (fun X F => bfTu_stop F i a1 hi s0 (fun _ => rfl)) (by rw [ha]; rfl)

theorem dX5_wornPart_0 : decode cX5_wornPart 0 = .ok (.iconst 0, 1) := by decide +kernel
theorem dX5_wornPart_1 : decode cX5_wornPart 1 = .ok (.istore_n 1, 1) := by decide +kernel
theorem dX5_wornPart_2 : decode cX5_wornPart 2 = .ok (.iload_n 1, 1) := by decide +kernel
theorem dX5_wornPart_3 : decode cX5_wornPart 3 = .ok (.iconst 3, 1) := by decide +kernel
theorem dX5_wornPart_4 : decode cX5_wornPart 4 = .ok (.if_icmp .ge 25, 3) := by decide +kernel
theorem dX5_wornPart_7 : decode cX5_wornPart 7 = .ok (.aload_n 0, 1) := by decide +kernel
theorem dX5_wornPart_8 : decode cX5_wornPart 8 = .ok (.getfield 24, 3) := by decide +kernel
theorem dX5_wornPart_11 : decode cX5_wornPart 11 = .ok (.iload_n 1, 1) := by decide +kernel
theorem dX5_wornPart_12 : decode cX5_wornPart 12 = .ok (.iaload, 1) := by decide +kernel
theorem dX5_wornPart_13 : decode cX5_wornPart 13 = .ok (.getstatic 95, 3) := by decide +kernel
theorem dX5_wornPart_16 : decode cX5_wornPart 16 = .ok (.iload_n 1, 1) := by decide +kernel
theorem dX5_wornPart_17 : decode cX5_wornPart 17 = .ok (.iaload, 1) := by decide +kernel
theorem dX5_wornPart_18 : decode cX5_wornPart 18 = .ok (.if_icmp .lt 5, 3) := by decide +kernel
theorem dX5_wornPart_21 : decode cX5_wornPart 21 = .ok (.iload_n 1, 1) := by decide +kernel
theorem dX5_wornPart_22 : decode cX5_wornPart 22 = .ok (.ireturn, 1) := by decide +kernel
theorem dX5_wornPart_23 : decode cX5_wornPart 23 = .ok (.iinc 1 1, 3) := by decide +kernel
theorem dX5_wornPart_26 : decode cX5_wornPart 26 = .ok (.goto (-24), 3) := by decide +kernel
theorem dX5_wornPart_29 : decode cX5_wornPart 29 = .ok (.iconst (-1), 1) := by decide +kernel
theorem dX5_wornPart_30 : decode cX5_wornPart 30 = .ok (.ireturn, 1) := by decide +kernel
theorem wfRX5_24 : zFl RX5 24 5 11 := ⟨_, rfl, by decide, zm_f 188 (by decide +kernel) rfl⟩
theorem wgRX5_95 : Cond.fieldLinkNest RX5 95 "WakeBanks" "WEAR_LIMITS" "[I" "WakeBanks" ∈ zNws := by decide +kernel
def fTu_wornPart_l2 (i : Nat) (s0 : zM) (q1 : Int32) : Option ((Int32) ⊕ ((Unit) ⊕ (Int32))) :=
  if (3 : Int32) ≤ q1 then
  some (.inr (.inl ()))
else
  zix q1 3 fun j3 =>
    zix q1 3 fun j4 =>
    if (s0 8 i j3) < (zk2.getD j4 0) then
    zlet (q1 + 1) fun v5 =>
      some (.inl v5)
  else
    some (.inr (.inr q1))
def fTu_wornPart (i : Nat) (s0 : zM) : Option (Int32) :=
  Option.bind (ziter (fTu_wornPart_l2 i s0) 1000 (0 : Int32)) (Sum.elim (fun _ =>
  some (-1 : Int32)) (fun r => some r))
set_option maxHeartbeats 4000000 in
set_option maxRecDepth 20000 in
theorem bfTu_wornPart_l2 {X : zX} (F : zFr X cX5_wornPart 2 RX5 (some .int)) (i : Nat) (s0 : zM) (hi : i < 8) {ψ : (Int32) ⊕ ((Unit) ⊕ (Int32)) → Option zO} (h1 : ∀ q1 : Int32, zZ X [(0, [])] 0 0 2 2 [some (zr 0 7 i), some (zi q1)] [] [s0] (ψ (.inl q1))) (h2 : ∀ q2 : Unit, zZ X [(0, [])] 0 0 2 29 [none, none] [] [s0] (ψ (.inr (.inl q2)))) (h3 : ∀ r, ψ (.inr (.inr r)) = some ((fun a => ((.inl ((fun q => some (zi q)) a), (fun _ => [s0]) a) : zO)) r)) (q1 : Int32) : zZ X [(0, [])] 0 0 2 2 [some (zr 0 7 i), some (zi q1)] [] [s0] (Option.bind (fTu_wornPart_l2 i s0 q1) ψ) := by
  unfold fTu_wornPart_l2
  refine zz_iload_n F (i := 1) dX5_wornPart_2 rfl rfl ?_
  refine zz_iconst F (v := (3 : Int32)) dX5_wornPart_3 (by decide) ?_
  refine zz_icmp_ge F (tgt := 29) dX5_wornPart_4 (by decide) (fun h => zz_t h ?_) (fun h => zz_f h ?_)
  · exact zz_sub (zs_n (zs_n zs_z)) (h2 ())
  · refine zz_aload_n F (i := 0) dX5_wornPart_7 rfl rfl ?_
    refine zz_getr F dX5_wornPart_8 wfRX5_24 zCl_5 rfl (⟨zlb rfl, zlb rfl, hi⟩) rfl (by decide) rfl (r' := 0) (by decide) ?_
    refine zz_iload_n F (i := 1) dX5_wornPart_11 rfl rfl ?_
    refine zz_ix fun j3 hj3 hinj3 hej3 => zz_ial F dX5_wornPart_12 rfl (⟨zlb rfl, zlb rfl, hi⟩) rfl hinj3 hej3 ?_
    refine zz_getsN F (j := 2) (q := zst2) dX5_wornPart_13 rfl wgRX5_95 ?_
    refine zz_iload_n F (i := 1) dX5_wornPart_16 rfl rfl ?_
    refine zz_ix fun j4 hj4 hinj4 hej4 => zz_tld F (j := 2) (q := zst2) dX5_wornPart_17 rfl rfl hinj4 hej4 ?_
    refine zz_icmp_lt F (tgt := 23) dX5_wornPart_18 (by decide) (fun h => zz_t h ?_) (fun h => zz_f h ?_)
    · refine zz_iinc F (i := 1) (v := q1 + 1) (L' := [some (zr 0 7 i), some (zi (q1 + 1))]) dX5_wornPart_23 rfl (by first | rfl | decide) (by decide) rfl rfl ?_
      refine zz_letl (Lf := fun v5 => [some (zr 0 7 i), some (zi v5)]) fun v5 => ?_
      refine zz_goto F (tgt := 2) dX5_wornPart_26 (by decide) ?_
      exact zz_sub (zs_k (zs_k zs_z)) (h1 v5)
    · refine zz_iload_n F (i := 1) dX5_wornPart_21 rfl rfl ?_
      exact zz_ireturn F dX5_wornPart_22 rfl (h3 _)
set_option maxHeartbeats 4000000 in
set_option maxRecDepth 20000 in
theorem bfTu_wornPart {X : zX} (F : zFr X cX5_wornPart 2 RX5 (some .int)) (i : Nat) (hi : i < 8) (s0 : zM) {κ : Int32 → Option zO} (hκ : ∀ a, κ a = some ((fun a => ((.inl ((fun q => some (zi q)) a), (fun _ => [s0]) a) : zO)) a)) : zZ X [(0, [])] 0 0 2 0 [some (zr 0 7 i), none] [] [s0] (Option.bind (fTu_wornPart i s0) κ) := by
  unfold fTu_wornPart
  refine zz_iconst F (v := (0 : Int32)) dX5_wornPart_0 (by decide) ?_
  refine zz_istore_n F (i := 1) (L' := [some (zr 0 7 i), some (zi (0 : Int32))]) dX5_wornPart_1 rfl (by decide) rfl rfl ?_
  refine zz_sub (zs_k (zs_k zs_z)) ?_
  refine zz_bind ?_
  refine zz_iter (Lf := fun q1 => [some (zr 0 7 i), some (zi q1)]) (Mf := fun q1 => [s0]) (fun q1 ψ h1 h2 => bfTu_wornPart_l2 F i s0 hi h1 (fun q2 => ?_) (fun r => ?_) q1) 1000 (0 : Int32)
  · rw [h2]
    dsimp only [Sum.elim_inl]
    refine zz_iconst F (v := (-1 : Int32)) dX5_wornPart_29 (by decide) ?_
    exact zz_ireturn F dX5_wornPart_30 rfl (hκ _)
  · exact (h2 _).trans (hκ _)
theorem zfTu_wornPart (i : Nat) (hi : i < 8) (s0 : zM) : ∀ a, fTu_wornPart i s0 = some a → zMet yX5_wornPart cX5_wornPart 2 (some .int) 0 0 [(0, [])] [zr 0 7 i] [s0] ((fun a => ((.inl ((fun q => some (zi q)) a), (fun _ => [s0]) a) : zO)) a) := fun a ha => zMet_of (L0 := [some (zr 0 7 i), none]) (φ := Option.bind (fTu_wornPart i s0) (fun a => some ((fun a => ((.inl ((fun q => some (zi q)) a), (fun _ => [s0]) a) : zO)) a))) (by decide) (fun _ => Nat.le_of_ble_eq_true rfl) (zl0 1 rfl) (fun X F => bfTu_wornPart F i hi s0 (fun _ => rfl)) (by rw [ha]; rfl)

theorem dX5_fault_0 : decode cX5_fault 0 = .ok (.aload_n 0, 1) := by decide +kernel
theorem dX5_fault_1 : decode cX5_fault 1 = .ok (.iconst 3, 1) := by decide +kernel
theorem dX5_fault_2 : decode cX5_fault 2 = .ok (.invokevirtual 69, 3) := by decide +kernel
theorem dX5_fault_5 : decode cX5_fault 5 = .ok (.aload_n 0, 1) := by decide +kernel
theorem dX5_fault_6 : decode cX5_fault 6 = .ok (.iload_n 1, 1) := by decide +kernel
theorem dX5_fault_7 : decode cX5_fault 7 = .ok (.putfield 18, 3) := by decide +kernel
theorem dX5_fault_10 : decode cX5_fault 10 = .ok (.return_, 1) := by decide +kernel
def fTu_fault (i : Nat) (a1 : Int32) (s0 : zM) : Option (zM) :=
  Option.bind (fTu_become i (3 : Int32) s0) fun q1 =>
  zlet (zu q1 7 i 5 a1) fun s0_2 =>
  some s0_2
set_option maxHeartbeats 4000000 in
set_option maxRecDepth 20000 in
theorem bfTu_fault {X : zX} (F : zFr X cX5_fault 2 RX5 none) (i : Nat) (a1 : Int32) (hi : i < 8) (s0 : zM) {κ : zM → Option zO} (hκ : ∀ a, κ a = some ((fun a => ((.inl ((fun _ => (none : Option zV)) a), (fun q => [q]) a) : zO)) a)) : zZ X [(0, [])] 1 21 2 0 [some (zr 0 7 i), some (zi a1)] [] [s0] (Option.bind (fTu_fault i a1 s0) κ) := by
  unfold fTu_fault
  refine zz_aload_n F (i := 0) dX5_fault_0 rfl rfl ?_
  refine zz_iconst F (v := (3 : Int32)) dX5_fault_1 (by decide) ?_
  refine zz_bind ?_
  refine zz_callVr F (ρ := [0]) (so := fun q1 => []) (Mo := fun q1 => [q1]) (zfTu_become i (3 : Int32) hi s0) dX5_fault_2 wcRX5_69 wy_yX5_become rfl ⟨rel3, rfl, rfl, Nat.le_of_ble_eq_true rfl, Nat.le_of_ble_eq_true rfl, Nat.le_of_ble_eq_true rfl⟩ (⟨zlb rfl, zlb rfl, hi⟩) rfl rfl rfl (fun _ => rfl) (fun _ => rfl) fun q1 => ?_
  refine zz_aload_n F (i := 0) dX5_fault_5 rfl rfl ?_
  refine zz_iload_n F (i := 1) dX5_fault_6 rfl rfl ?_
  refine zz_put F (Ms' := [(zu q1 7 i 5 a1)]) dX5_fault_7 wpRX5_18 zCl_5 rfl (⟨zlb rfl, zlb rfl, hi⟩) rfl (by decide) rfl rfl rfl ?_
  refine zz_letm (Mf := fun s0_2 => [s0_2]) fun s0_2 => ?_
  exact zz_return F dX5_fault_10 rfl (hκ _)
theorem zfTu_fault (i : Nat) (a1 : Int32) (hi : i < 8) (s0 : zM) : ∀ a, fTu_fault i a1 s0 = some a → zMet yX5_fault cX5_fault 2 none 1 21 [(0, [])] [zr 0 7 i, zi a1] [s0] ((fun a => ((.inl ((fun _ => (none : Option zV)) a), (fun q => [q]) a) : zO)) a) := fun a ha => zMet_of (L0 := [some (zr 0 7 i), some (zi a1)]) (φ := Option.bind (fTu_fault i a1 s0) (fun a => some ((fun a => ((.inl ((fun _ => (none : Option zV)) a), (fun q => [q]) a) : zO)) a))) (by decide) (fun _ => Nat.le_of_ble_eq_true rfl) (zl0 0 rfl) (fun X F => bfTu_fault F i a1 hi s0 (fun _ => rfl)) (by rw [ha]; rfl)

theorem dX5_mayStart_0 : decode cX5_mayStart 0 = .ok (.aload_n 0, 1) := by decide +kernel
theorem dX5_mayStart_1 : decode cX5_mayStart 1 = .ok (.getfield 15, 3) := by decide +kernel
theorem dX5_mayStart_4 : decode cX5_mayStart 4 = .ok (.iconst 2, 1) := by decide +kernel
theorem dX5_mayStart_5 : decode cX5_mayStart 5 = .ok (.if_icmp .ne 13, 3) := by decide +kernel
theorem dX5_mayStart_8 : decode cX5_mayStart 8 = .ok (.iload_n 2, 1) := by decide +kernel
theorem dX5_mayStart_9 : decode cX5_mayStart 9 = .ok (.ifCond .ne 7, 3) := by decide +kernel
theorem dX5_mayStart_12 : decode cX5_mayStart 12 = .ok (.iconst 1, 1) := by decide +kernel
theorem dX5_mayStart_13 : decode cX5_mayStart 13 = .ok (.goto 4, 3) := by decide +kernel
theorem dX5_mayStart_16 : decode cX5_mayStart 16 = .ok (.iconst 0, 1) := by decide +kernel
theorem dX5_mayStart_17 : decode cX5_mayStart 17 = .ok (.ireturn, 1) := by decide +kernel
theorem dX5_mayStart_18 : decode cX5_mayStart 18 = .ok (.aload_n 0, 1) := by decide +kernel
theorem dX5_mayStart_19 : decode cX5_mayStart 19 = .ok (.getfield 15, 3) := by decide +kernel
theorem dX5_mayStart_22 : decode cX5_mayStart 22 = .ok (.ifCond .ne 18, 3) := by decide +kernel
theorem dX5_mayStart_25 : decode cX5_mayStart 25 = .ok (.iload_n 1, 1) := by decide +kernel
theorem dX5_mayStart_26 : decode cX5_mayStart 26 = .ok (.iconst 4, 1) := by decide +kernel
theorem dX5_mayStart_27 : decode cX5_mayStart 27 = .ok (.if_icmp .lt 13, 3) := by decide +kernel
theorem dX5_mayStart_30 : decode cX5_mayStart 30 = .ok (.iload_n 1, 1) := by decide +kernel
theorem dX5_mayStart_31 : decode cX5_mayStart 31 = .ok (.bipush 22, 2) := by decide +kernel
theorem dX5_mayStart_33 : decode cX5_mayStart 33 = .ok (.if_icmp .gt 7, 3) := by decide +kernel
theorem dX5_mayStart_36 : decode cX5_mayStart 36 = .ok (.iconst 1, 1) := by decide +kernel
theorem dX5_mayStart_37 : decode cX5_mayStart 37 = .ok (.goto 4, 3) := by decide +kernel
theorem dX5_mayStart_40 : decode cX5_mayStart 40 = .ok (.iconst 0, 1) := by decide +kernel
theorem dX5_mayStart_41 : decode cX5_mayStart 41 = .ok (.ireturn, 1) := by decide +kernel
theorem wfRX5_15 : zFl RX5 15 5 4 := ⟨_, rfl, by decide, zm_f 173 (by decide +kernel) rfl⟩
def fTu_mayStart (i : Nat) (a1 : Int32) (a2 : Int32) (s0 : zM) : Option (Int32) :=
  if (s0 7 i 4) = (2 : Int32) then
  if a2 = 0 then
    some (1 : Int32)
  else
    some (0 : Int32)
else
  if (s0 7 i 4) = 0 then
    if a1 < (4 : Int32) then
      some (0 : Int32)
    else
      if (22 : Int32) < a1 then
        some (0 : Int32)
      else
        some (1 : Int32)
  else
    some (0 : Int32)
set_option maxHeartbeats 4000000 in
set_option maxRecDepth 20000 in
theorem bfTu_mayStart {X : zX} (F : zFr X cX5_mayStart 3 RX5 (some .boolean)) (i : Nat) (a1 : Int32) (a2 : Int32) (hi : i < 8) (s0 : zM) {κ : Int32 → Option zO} (hκ : ∀ a, κ a = some ((fun a => ((.inl ((fun q => some (zi q)) a), (fun _ => [s0]) a) : zO)) a)) : zZ X [(0, [])] 0 0 3 0 [some (zr 0 7 i), some (zi a1), some (zi a2)] [] [s0] (Option.bind (fTu_mayStart i a1 a2 s0) κ) := by
  unfold fTu_mayStart
  refine zz_aload_n F (i := 0) dX5_mayStart_0 rfl rfl ?_
  refine zz_getf F dX5_mayStart_1 wfRX5_15 zCl_5 rfl (⟨zlb rfl, zlb rfl, hi⟩) rfl (by decide) rfl rfl ?_
  refine zz_iconst F (v := (2 : Int32)) dX5_mayStart_4 (by decide) ?_
  refine zz_icmp_ne F (tgt := 18) dX5_mayStart_5 (by decide) (fun h => zz_f h ?_) (fun h => zz_t h ?_)
  · refine zz_aload_n F (i := 0) dX5_mayStart_18 rfl rfl ?_
    refine zz_getf F dX5_mayStart_19 wfRX5_15 zCl_5 rfl (⟨zlb rfl, zlb rfl, hi⟩) rfl (by decide) rfl rfl ?_
    refine zz_if_ne F (tgt := 40) dX5_mayStart_22 (by decide) (fun h => zz_f h ?_) (fun h => zz_t h ?_)
    · refine zz_iconst F (v := (0 : Int32)) dX5_mayStart_40 (by decide) ?_
      exact zz_zreturn F dX5_mayStart_41 rfl rfl (hκ _)
    · refine zz_iload_n F (i := 1) dX5_mayStart_25 rfl rfl ?_
      refine zz_iconst F (v := (4 : Int32)) dX5_mayStart_26 (by decide) ?_
      refine zz_icmp_lt F (tgt := 40) dX5_mayStart_27 (by decide) (fun h => zz_t h ?_) (fun h => zz_f h ?_)
      · refine zz_iconst F (v := (0 : Int32)) dX5_mayStart_40 (by decide) ?_
        exact zz_zreturn F dX5_mayStart_41 rfl rfl (hκ _)
      · refine zz_iload_n F (i := 1) dX5_mayStart_30 rfl rfl ?_
        refine zz_bipush F (v := (22 : Int32)) dX5_mayStart_31 (by decide) ?_
        refine zz_icmp_gt F (tgt := 40) dX5_mayStart_33 (by decide) (fun h => zz_t h ?_) (fun h => zz_f h ?_)
        · refine zz_iconst F (v := (0 : Int32)) dX5_mayStart_40 (by decide) ?_
          exact zz_zreturn F dX5_mayStart_41 rfl rfl (hκ _)
        · refine zz_iconst F (v := (1 : Int32)) dX5_mayStart_36 (by decide) ?_
          refine zz_goto F (tgt := 41) dX5_mayStart_37 (by decide) ?_
          exact zz_zreturn F dX5_mayStart_41 rfl rfl (hκ _)
  · refine zz_iload_n F (i := 2) dX5_mayStart_8 rfl rfl ?_
    refine zz_if_ne F (tgt := 16) dX5_mayStart_9 (by decide) (fun h => zz_f h ?_) (fun h => zz_t h ?_)
    · refine zz_iconst F (v := (0 : Int32)) dX5_mayStart_16 (by decide) ?_
      exact zz_zreturn F dX5_mayStart_17 rfl rfl (hκ _)
    · refine zz_iconst F (v := (1 : Int32)) dX5_mayStart_12 (by decide) ?_
      refine zz_goto F (tgt := 17) dX5_mayStart_13 (by decide) ?_
      exact zz_zreturn F dX5_mayStart_17 rfl rfl (hκ _)
theorem zfTu_mayStart (i : Nat) (a1 : Int32) (a2 : Int32) (hi : i < 8) (s0 : zM) : ∀ a, fTu_mayStart i a1 a2 s0 = some a → zMet yX5_mayStart cX5_mayStart 3 (some .boolean) 0 0 [(0, [])] [zr 0 7 i, zi a1, zi a2] [s0] ((fun a => ((.inl ((fun q => some (zi q)) a), (fun _ => [s0]) a) : zO)) a) := fun a ha => zMet_of (L0 := [some (zr 0 7 i), some (zi a1), some (zi a2)]) (φ := Option.bind (fTu_mayStart i a1 a2 s0) (fun a => some ((fun a => ((.inl ((fun q => some (zi q)) a), (fun _ => [s0]) a) : zO)) a))) (by decide) (fun _ => Nat.le_of_ble_eq_true rfl) (zl0 0 rfl) (fun X F => bfTu_mayStart F i a1 a2 hi s0 (fun _ => rfl)) (by rw [ha]; rfl)

theorem dX5_settle_0 : decode cX5_settle 0 = .ok (.aload_n 1, 1) := by decide +kernel
theorem dX5_settle_1 : decode cX5_settle 1 = .ok (.getfield 73, 3) := by decide +kernel
theorem dX5_settle_4 : decode cX5_settle 4 = .ok (.istore_n 3, 1) := by decide +kernel
theorem dX5_settle_5 : decode cX5_settle 5 = .ok (.aload_n 1, 1) := by decide +kernel
theorem dX5_settle_6 : decode cX5_settle 6 = .ok (.getfield 78, 3) := by decide +kernel
theorem dX5_settle_9 : decode cX5_settle 9 = .ok (.iload_n 2, 1) := by decide +kernel
theorem dX5_settle_10 : decode cX5_settle 10 = .ok (.if_icmp .ge 7, 3) := by decide +kernel
theorem dX5_settle_13 : decode cX5_settle 13 = .ok (.iconst 1, 1) := by decide +kernel
theorem dX5_settle_14 : decode cX5_settle 14 = .ok (.goto 4, 3) := by decide +kernel
theorem dX5_settle_17 : decode cX5_settle 17 = .ok (.iconst 0, 1) := by decide +kernel
theorem dX5_settle_18 : decode cX5_settle 18 = .ok (.istore 4, 2) := by decide +kernel
theorem dX5_settle_20 : decode cX5_settle 20 = .ok (.aload_n 0, 1) := by decide +kernel
theorem dX5_settle_21 : decode cX5_settle 21 = .ok (.getfield 9, 3) := by decide +kernel
theorem dX5_settle_24 : decode cX5_settle 24 = .ok (.iconst 2, 1) := by decide +kernel
theorem dX5_settle_25 : decode cX5_settle 25 = .ok (.if_icmp .ne 16, 3) := by decide +kernel
theorem dX5_settle_28 : decode cX5_settle 28 = .ok (.iload 4, 2) := by decide +kernel
theorem dX5_settle_30 : decode cX5_settle 30 = .ok (.ifCond .eq 11, 3) := by decide +kernel
theorem dX5_settle_33 : decode cX5_settle 33 = .ok (.aload_n 0, 1) := by decide +kernel
theorem dX5_settle_34 : decode cX5_settle 34 = .ok (.iconst 2, 1) := by decide +kernel
theorem dX5_settle_35 : decode cX5_settle 35 = .ok (.invokevirtual 81, 3) := by decide +kernel
theorem dX5_settle_38 : decode cX5_settle 38 = .ok (.goto 95, 3) := by decide +kernel
theorem dX5_settle_41 : decode cX5_settle 41 = .ok (.aload_n 0, 1) := by decide +kernel
theorem dX5_settle_42 : decode cX5_settle 42 = .ok (.getfield 9, 3) := by decide +kernel
theorem dX5_settle_45 : decode cX5_settle 45 = .ok (.iconst 2, 1) := by decide +kernel
theorem dX5_settle_46 : decode cX5_settle 46 = .ok (.if_icmp .ne 22, 3) := by decide +kernel
theorem dX5_settle_49 : decode cX5_settle 49 = .ok (.iload_n 3, 1) := by decide +kernel
theorem dX5_settle_50 : decode cX5_settle 50 = .ok (.iconst 3, 1) := by decide +kernel
theorem dX5_settle_51 : decode cX5_settle 51 = .ok (.if_icmp .lt 9, 3) := by decide +kernel
theorem dX5_settle_54 : decode cX5_settle 54 = .ok (.iload_n 3, 1) := by decide +kernel
theorem dX5_settle_55 : decode cX5_settle 55 = .ok (.bipush 25, 2) := by decide +kernel
theorem dX5_settle_57 : decode cX5_settle 57 = .ok (.if_icmp .le 11, 3) := by decide +kernel
theorem dX5_settle_60 : decode cX5_settle 60 = .ok (.aload_n 0, 1) := by decide +kernel
theorem dX5_settle_61 : decode cX5_settle 61 = .ok (.iconst 0, 1) := by decide +kernel
theorem dX5_settle_62 : decode cX5_settle 62 = .ok (.invokevirtual 81, 3) := by decide +kernel
theorem dX5_settle_65 : decode cX5_settle 65 = .ok (.goto 68, 3) := by decide +kernel
theorem dX5_settle_68 : decode cX5_settle 68 = .ok (.aload_n 0, 1) := by decide +kernel
theorem dX5_settle_69 : decode cX5_settle 69 = .ok (.getfield 9, 3) := by decide +kernel
theorem dX5_settle_72 : decode cX5_settle 72 = .ok (.iconst 2, 1) := by decide +kernel
theorem dX5_settle_73 : decode cX5_settle 73 = .ok (.if_icmp .ne 22, 3) := by decide +kernel
theorem dX5_settle_76 : decode cX5_settle 76 = .ok (.aload_n 0, 1) := by decide +kernel
theorem dX5_settle_77 : decode cX5_settle 77 = .ok (.invokevirtual 84, 3) := by decide +kernel
theorem dX5_settle_80 : decode cX5_settle 80 = .ok (.iconst (-1), 1) := by decide +kernel
theorem dX5_settle_81 : decode cX5_settle 81 = .ok (.if_icmp .eq 14, 3) := by decide +kernel
theorem dX5_settle_84 : decode cX5_settle 84 = .ok (.aload_n 0, 1) := by decide +kernel
theorem dX5_settle_85 : decode cX5_settle 85 = .ok (.aload_n 0, 1) := by decide +kernel
theorem dX5_settle_86 : decode cX5_settle 86 = .ok (.invokevirtual 84, 3) := by decide +kernel
theorem dX5_settle_89 : decode cX5_settle 89 = .ok (.invokevirtual 88, 3) := by decide +kernel
theorem dX5_settle_92 : decode cX5_settle 92 = .ok (.goto 41, 3) := by decide +kernel
theorem dX5_settle_95 : decode cX5_settle 95 = .ok (.aload_n 0, 1) := by decide +kernel
theorem dX5_settle_96 : decode cX5_settle 96 = .ok (.getfield 9, 3) := by decide +kernel
theorem dX5_settle_99 : decode cX5_settle 99 = .ok (.iconst 1, 1) := by decide +kernel
theorem dX5_settle_100 : decode cX5_settle 100 = .ok (.if_icmp .ne 11, 3) := by decide +kernel
theorem dX5_settle_103 : decode cX5_settle 103 = .ok (.aload_n 0, 1) := by decide +kernel
theorem dX5_settle_104 : decode cX5_settle 104 = .ok (.iconst 2, 1) := by decide +kernel
theorem dX5_settle_105 : decode cX5_settle 105 = .ok (.invokevirtual 69, 3) := by decide +kernel
theorem dX5_settle_108 : decode cX5_settle 108 = .ok (.goto 25, 3) := by decide +kernel
theorem dX5_settle_111 : decode cX5_settle 111 = .ok (.aload_n 0, 1) := by decide +kernel
theorem dX5_settle_112 : decode cX5_settle 112 = .ok (.getfield 9, 3) := by decide +kernel
theorem dX5_settle_115 : decode cX5_settle 115 = .ok (.ifCond .ne 18, 3) := by decide +kernel
theorem dX5_settle_118 : decode cX5_settle 118 = .ok (.aload_n 0, 1) := by decide +kernel
theorem dX5_settle_119 : decode cX5_settle 119 = .ok (.iload_n 3, 1) := by decide +kernel
theorem dX5_settle_120 : decode cX5_settle 120 = .ok (.iload 4, 2) := by decide +kernel
theorem dX5_settle_122 : decode cX5_settle 122 = .ok (.invokevirtual 91, 3) := by decide +kernel
theorem dX5_settle_125 : decode cX5_settle 125 = .ok (.ifCond .eq 8, 3) := by decide +kernel
theorem dX5_settle_128 : decode cX5_settle 128 = .ok (.aload_n 0, 1) := by decide +kernel
theorem dX5_settle_129 : decode cX5_settle 129 = .ok (.iconst 1, 1) := by decide +kernel
theorem dX5_settle_130 : decode cX5_settle 130 = .ok (.invokevirtual 69, 3) := by decide +kernel
theorem dX5_settle_133 : decode cX5_settle 133 = .ok (.return_, 1) := by decide +kernel
theorem wfRX5_73 : zFl RX5 73 7 1 := ⟨_, rfl, by decide, zm_f 86 (by decide +kernel) rfl⟩
theorem wfRX5_78 : zFl RX5 78 7 3 := ⟨_, rfl, by decide, zm_f 92 (by decide +kernel) rfl⟩
theorem wfRX5_9 : zFl RX5 9 5 3 := ⟨_, rfl, by decide, zm_f 170 (by decide +kernel) rfl⟩
theorem wcRX5_91 : Cond.methodLink RX5 91 yX5_mayStart ∈ zTg ∧ Cond.instanceMethod yX5_mayStart ∈ zTg ∧ Cond.selects RX5 yX5_mayStart yX5_mayStart ∈ zTg ∧ Cond.initialized RX5 ∈ zTg ∧ Cond.code yX5_mayStart cX5_mayStart 3 (some .boolean) ∈ zTg := ⟨zm_f 627 (by decide +kernel) rfl, zm_f 629 (by decide +kernel) rfl, zm_f 6 (by decide +kernel) rfl, zm_f 41 (by decide +kernel) rfl, zm_f 630 (by decide +kernel) rfl⟩
theorem wy_yX5_mayStart : yX5_mayStart.cls = RX5 ∧ yX5_mayStart.cls ≠ "java/lang/invoke/MethodHandle" ∧ yX5_mayStart.cls ≠ "java/lang/invoke/VarHandle" ∧ (parseMethodDescriptor yX5_mayStart.desc).map (fun d => d.parameters.length) = some 2 := by decide +kernel
theorem wcRX5_84 : Cond.methodLink RX5 84 yX5_wornPart ∈ zTg ∧ Cond.instanceMethod yX5_wornPart ∈ zTg ∧ Cond.selects RX5 yX5_wornPart yX5_wornPart ∈ zTg ∧ Cond.initialized RX5 ∈ zTg ∧ Cond.code yX5_wornPart cX5_wornPart 2 (some .int) ∈ zTg := ⟨zm_f 617 (by decide +kernel) rfl, zm_f 619 (by decide +kernel) rfl, zm_f 5 (by decide +kernel) rfl, zm_f 41 (by decide +kernel) rfl, zm_f 620 (by decide +kernel) rfl⟩
theorem wy_yX5_wornPart : yX5_wornPart.cls = RX5 ∧ yX5_wornPart.cls ≠ "java/lang/invoke/MethodHandle" ∧ yX5_wornPart.cls ≠ "java/lang/invoke/VarHandle" ∧ (parseMethodDescriptor yX5_wornPart.desc).map (fun d => d.parameters.length) = some 0 := by decide +kernel
theorem wcRX5_88 : Cond.methodLink RX5 88 yX5_fault ∈ zTg ∧ Cond.instanceMethod yX5_fault ∈ zTg ∧ Cond.selects RX5 yX5_fault yX5_fault ∈ zTg ∧ Cond.initialized RX5 ∈ zTg ∧ Cond.code yX5_fault cX5_fault 2 none ∈ zTg := ⟨zm_f 623 (by decide +kernel) rfl, zm_f 624 (by decide +kernel) rfl, zm_f 625 (by decide +kernel) rfl, zm_f 41 (by decide +kernel) rfl, zm_f 626 (by decide +kernel) rfl⟩
theorem wy_yX5_fault : yX5_fault.cls = RX5 ∧ yX5_fault.cls ≠ "java/lang/invoke/MethodHandle" ∧ yX5_fault.cls ≠ "java/lang/invoke/VarHandle" ∧ (parseMethodDescriptor yX5_fault.desc).map (fun d => d.parameters.length) = some 1 := by decide +kernel
theorem wcRX5_81 : Cond.methodLink RX5 81 yX5_stop ∈ zTg ∧ Cond.instanceMethod yX5_stop ∈ zTg ∧ Cond.selects RX5 yX5_stop yX5_stop ∈ zTg ∧ Cond.initialized RX5 ∈ zTg ∧ Cond.code yX5_stop cX5_stop 2 none ∈ zTg := ⟨zm_f 609 (by decide +kernel) rfl, zm_f 610 (by decide +kernel) rfl, zm_f 611 (by decide +kernel) rfl, zm_f 41 (by decide +kernel) rfl, zm_f 612 (by decide +kernel) rfl⟩
theorem wy_yX5_stop : yX5_stop.cls = RX5 ∧ yX5_stop.cls ≠ "java/lang/invoke/MethodHandle" ∧ yX5_stop.cls ≠ "java/lang/invoke/VarHandle" ∧ (parseMethodDescriptor yX5_stop.desc).map (fun d => d.parameters.length) = some 1 := by decide +kernel
def fTu_settle (i : Nat) (a2 : Int32) (s0 : zM) : Option (zM) :=
  zlet ((s0 4 0 1)) fun v1 =>
  Option.bind (if a2 ≤ (s0 4 0 3) then
  some (0 : Int32)
else
  some (1 : Int32)) fun q2 =>
  if (s0 7 i 3) = (2 : Int32) then
  if q2 = 0 then
    if (s0 7 i 3) = (2 : Int32) then
      if v1 < (3 : Int32) then
        Option.bind (fTu_stop i (0 : Int32) s0) fun q35 =>
          some q35
      else
        if v1 ≤ (25 : Int32) then
          if (s0 7 i 3) = (2 : Int32) then
            Option.bind (fTu_wornPart i s0) fun q39 =>
              if q39 = (-1 : Int32) then
              if (s0 7 i 3) = (1 : Int32) then
                Option.bind (fTu_become i (2 : Int32) s0) fun q42 =>
                  some q42
              else
                if (s0 7 i 3) = 0 then
                  Option.bind (fTu_mayStart i v1 q2 s0) fun q40 =>
                    if q40 = 0 then
                    some s0
                  else
                    Option.bind (fTu_become i (1 : Int32) s0) fun q41 =>
                      some q41
                else
                  some s0
            else
              Option.bind (fTu_wornPart i s0) fun q43 =>
                Option.bind (fTu_fault i q43 s0) fun q44 =>
                some q44
          else
            if (s0 7 i 3) = (1 : Int32) then
              Option.bind (fTu_become i (2 : Int32) s0) fun q38 =>
                some q38
            else
              if (s0 7 i 3) = 0 then
                Option.bind (fTu_mayStart i v1 q2 s0) fun q36 =>
                  if q36 = 0 then
                  some s0
                else
                  Option.bind (fTu_become i (1 : Int32) s0) fun q37 =>
                    some q37
              else
                some s0
        else
          Option.bind (fTu_stop i (0 : Int32) s0) fun q45 =>
            some q45
    else
      if (s0 7 i 3) = (2 : Int32) then
        Option.bind (fTu_wornPart i s0) fun q29 =>
          if q29 = (-1 : Int32) then
          if (s0 7 i 3) = (1 : Int32) then
            Option.bind (fTu_become i (2 : Int32) s0) fun q32 =>
              some q32
          else
            if (s0 7 i 3) = 0 then
              Option.bind (fTu_mayStart i v1 q2 s0) fun q30 =>
                if q30 = 0 then
                some s0
              else
                Option.bind (fTu_become i (1 : Int32) s0) fun q31 =>
                  some q31
            else
              some s0
        else
          Option.bind (fTu_wornPart i s0) fun q33 =>
            Option.bind (fTu_fault i q33 s0) fun q34 =>
            some q34
      else
        if (s0 7 i 3) = (1 : Int32) then
          Option.bind (fTu_become i (2 : Int32) s0) fun q28 =>
            some q28
        else
          if (s0 7 i 3) = 0 then
            Option.bind (fTu_mayStart i v1 q2 s0) fun q26 =>
              if q26 = 0 then
              some s0
            else
              Option.bind (fTu_become i (1 : Int32) s0) fun q27 =>
                some q27
          else
            some s0
  else
    Option.bind (fTu_stop i (2 : Int32) s0) fun q46 =>
      some q46
else
  if (s0 7 i 3) = (2 : Int32) then
    if v1 < (3 : Int32) then
      Option.bind (fTu_stop i (0 : Int32) s0) fun q15 =>
        some q15
    else
      if v1 ≤ (25 : Int32) then
        if (s0 7 i 3) = (2 : Int32) then
          Option.bind (fTu_wornPart i s0) fun q19 =>
            if q19 = (-1 : Int32) then
            if (s0 7 i 3) = (1 : Int32) then
              Option.bind (fTu_become i (2 : Int32) s0) fun q22 =>
                some q22
            else
              if (s0 7 i 3) = 0 then
                Option.bind (fTu_mayStart i v1 q2 s0) fun q20 =>
                  if q20 = 0 then
                  some s0
                else
                  Option.bind (fTu_become i (1 : Int32) s0) fun q21 =>
                    some q21
              else
                some s0
          else
            Option.bind (fTu_wornPart i s0) fun q23 =>
              Option.bind (fTu_fault i q23 s0) fun q24 =>
              some q24
        else
          if (s0 7 i 3) = (1 : Int32) then
            Option.bind (fTu_become i (2 : Int32) s0) fun q18 =>
              some q18
          else
            if (s0 7 i 3) = 0 then
              Option.bind (fTu_mayStart i v1 q2 s0) fun q16 =>
                if q16 = 0 then
                some s0
              else
                Option.bind (fTu_become i (1 : Int32) s0) fun q17 =>
                  some q17
            else
              some s0
      else
        Option.bind (fTu_stop i (0 : Int32) s0) fun q25 =>
          some q25
  else
    if (s0 7 i 3) = (2 : Int32) then
      Option.bind (fTu_wornPart i s0) fun q9 =>
        if q9 = (-1 : Int32) then
        if (s0 7 i 3) = (1 : Int32) then
          Option.bind (fTu_become i (2 : Int32) s0) fun q12 =>
            some q12
        else
          if (s0 7 i 3) = 0 then
            Option.bind (fTu_mayStart i v1 q2 s0) fun q10 =>
              if q10 = 0 then
              some s0
            else
              Option.bind (fTu_become i (1 : Int32) s0) fun q11 =>
                some q11
          else
            some s0
      else
        Option.bind (fTu_wornPart i s0) fun q13 =>
          Option.bind (fTu_fault i q13 s0) fun q14 =>
          some q14
    else
      if (s0 7 i 3) = (1 : Int32) then
        Option.bind (fTu_become i (2 : Int32) s0) fun q8 =>
          some q8
      else
        if (s0 7 i 3) = 0 then
          Option.bind (fTu_mayStart i v1 q2 s0) fun q6 =>
            if q6 = 0 then
            some s0
          else
            Option.bind (fTu_become i (1 : Int32) s0) fun q7 =>
              some q7
        else
          some s0
set_option maxHeartbeats 4000000 in
set_option maxRecDepth 20000 in
theorem bfTu_settle {X : zX} (F : zFr X cX5_settle 5 RX5 none) (i : Nat) (a2 : Int32) (hi : i < 8) (s0 : zM) {κ : zM → Option zO} (hκ : ∀ a, κ a = some ((fun a => ((.inl ((fun _ => (none : Option zV)) a), (fun q => [q]) a) : zO)) a)) : zZ X [(0, [])] 2 42 5 0 [some (zr 0 7 i), some (zr 0 4 0), some (zi a2), none, none] [] [s0] (Option.bind (fTu_settle i a2 s0) κ) := by
  unfold fTu_settle
  refine zz_aload_n F (i := 1) dX5_settle_0 rfl rfl ?_
  refine zz_getf F dX5_settle_1 wfRX5_73 zCl_7 rfl (⟨zlb rfl, zlb rfl, zlb rfl⟩) rfl (by decide) rfl rfl ?_
  refine zz_istore_n F (i := 3) (L' := [some (zr 0 7 i), some (zr 0 4 0), some (zi a2), some (zi (s0 4 0 1)), none]) dX5_settle_4 rfl (by decide) rfl rfl ?_
  refine zz_letl (Lf := fun v1 => [some (zr 0 7 i), some (zr 0 4 0), some (zi a2), some (zi v1), none]) fun v1 => ?_
  refine zz_aload_n F (i := 1) dX5_settle_5 rfl rfl ?_
  refine zz_getf F dX5_settle_6 wfRX5_78 zCl_7 rfl (⟨zlb rfl, zlb rfl, zlb rfl⟩) rfl (by decide) rfl rfl ?_
  refine zz_iload_n F (i := 2) dX5_settle_9 rfl rfl ?_
  refine zz_join (pj := 18) (Lj := fun q2 => [some (zr 0 7 i), none, none, some (zi v1), none]) (Sj := fun q2 => [zi q2]) (Mj := fun q2 => [s0]) (fun q2 => ?_) (fun κ4 hj3 => ?_)
  · refine zz_istore F (i := 4) (L' := [some (zr 0 7 i), none, none, some (zi v1), some (zi q2)]) dX5_settle_18 (by decide) rfl rfl ?_
    refine zz_aload_n F (i := 0) dX5_settle_20 rfl rfl ?_
    refine zz_getf F dX5_settle_21 wfRX5_9 zCl_5 rfl (⟨zlb rfl, zlb rfl, hi⟩) rfl (by decide) rfl rfl ?_
    refine zz_iconst F (v := (2 : Int32)) dX5_settle_24 (by decide) ?_
    refine zz_icmp_ne F (tgt := 41) dX5_settle_25 (by decide) (fun h => zz_f h ?_) (fun h => zz_t h ?_)
    · refine zz_aload_n F (i := 0) dX5_settle_41 rfl rfl ?_
      refine zz_getf F dX5_settle_42 wfRX5_9 zCl_5 rfl (⟨zlb rfl, zlb rfl, hi⟩) rfl (by decide) rfl rfl ?_
      refine zz_iconst F (v := (2 : Int32)) dX5_settle_45 (by decide) ?_
      refine zz_icmp_ne F (tgt := 68) dX5_settle_46 (by decide) (fun h => zz_f h ?_) (fun h => zz_t h ?_)
      · refine zz_aload_n F (i := 0) dX5_settle_68 rfl rfl ?_
        refine zz_getf F dX5_settle_69 wfRX5_9 zCl_5 rfl (⟨zlb rfl, zlb rfl, hi⟩) rfl (by decide) rfl rfl ?_
        refine zz_iconst F (v := (2 : Int32)) dX5_settle_72 (by decide) ?_
        refine zz_icmp_ne F (tgt := 95) dX5_settle_73 (by decide) (fun h => zz_f h ?_) (fun h => zz_t h ?_)
        · refine zz_aload_n F (i := 0) dX5_settle_95 rfl rfl ?_
          refine zz_getf F dX5_settle_96 wfRX5_9 zCl_5 rfl (⟨zlb rfl, zlb rfl, hi⟩) rfl (by decide) rfl rfl ?_
          refine zz_iconst F (v := (1 : Int32)) dX5_settle_99 (by decide) ?_
          refine zz_icmp_ne F (tgt := 111) dX5_settle_100 (by decide) (fun h => zz_f h ?_) (fun h => zz_t h ?_)
          · refine zz_aload_n F (i := 0) dX5_settle_111 rfl rfl ?_
            refine zz_getf F dX5_settle_112 wfRX5_9 zCl_5 rfl (⟨zlb rfl, zlb rfl, hi⟩) rfl (by decide) rfl rfl ?_
            refine zz_if_ne F (tgt := 133) dX5_settle_115 (by decide) (fun h => zz_f h ?_) (fun h => zz_t h ?_)
            · exact zz_return F dX5_settle_133 rfl (hκ _)
            · refine zz_aload_n F (i := 0) dX5_settle_118 rfl rfl ?_
              refine zz_iload_n F (i := 3) dX5_settle_119 rfl rfl ?_
              refine zz_iload F (i := 4) dX5_settle_120 rfl ?_
              refine zz_bind ?_
              refine zz_callVr F (ρ := [0]) (so := fun q6 => [zi q6]) (Mo := fun q6 => [s0]) (zfTu_mayStart i v1 q2 hi s0) dX5_settle_122 wcRX5_91 wy_yX5_mayStart rfl ⟨rel3, rfl, rfl, Nat.le_of_ble_eq_true rfl, Nat.le_of_ble_eq_true rfl, Nat.le_of_ble_eq_true rfl⟩ (⟨zlb rfl, zlb rfl, hi⟩) rfl rfl rfl (fun _ => rfl) (fun _ => rfl) fun q6 => ?_
              refine zz_if_eq F (tgt := 133) dX5_settle_125 (by decide) (fun h => zz_t h ?_) (fun h => zz_f h ?_)
              · exact zz_return F dX5_settle_133 rfl (hκ _)
              · refine zz_aload_n F (i := 0) dX5_settle_128 rfl rfl ?_
                refine zz_iconst F (v := (1 : Int32)) dX5_settle_129 (by decide) ?_
                refine zz_bind ?_
                refine zz_callVr F (ρ := [0]) (so := fun q7 => []) (Mo := fun q7 => [q7]) (zfTu_become i (1 : Int32) hi s0) dX5_settle_130 wcRX5_69 wy_yX5_become rfl ⟨rel3, rfl, rfl, Nat.le_of_ble_eq_true rfl, Nat.le_of_ble_eq_true rfl, Nat.le_of_ble_eq_true rfl⟩ (⟨zlb rfl, zlb rfl, hi⟩) rfl rfl rfl (fun _ => rfl) (fun _ => rfl) fun q7 => ?_
                exact zz_return F dX5_settle_133 rfl (hκ _)
          · refine zz_aload_n F (i := 0) dX5_settle_103 rfl rfl ?_
            refine zz_iconst F (v := (2 : Int32)) dX5_settle_104 (by decide) ?_
            refine zz_bind ?_
            refine zz_callVr F (ρ := [0]) (so := fun q8 => []) (Mo := fun q8 => [q8]) (zfTu_become i (2 : Int32) hi s0) dX5_settle_105 wcRX5_69 wy_yX5_become rfl ⟨rel3, rfl, rfl, Nat.le_of_ble_eq_true rfl, Nat.le_of_ble_eq_true rfl, Nat.le_of_ble_eq_true rfl⟩ (⟨zlb rfl, zlb rfl, hi⟩) rfl rfl rfl (fun _ => rfl) (fun _ => rfl) fun q8 => ?_
            refine zz_goto F (tgt := 133) dX5_settle_108 (by decide) ?_
            exact zz_return F dX5_settle_133 rfl (hκ _)
        · refine zz_aload_n F (i := 0) dX5_settle_76 rfl rfl ?_
          refine zz_bind ?_
          refine zz_callVr F (ρ := [0]) (so := fun q9 => [zi q9]) (Mo := fun q9 => [s0]) (zfTu_wornPart i hi s0) dX5_settle_77 wcRX5_84 wy_yX5_wornPart rfl ⟨rel3, rfl, rfl, Nat.le_of_ble_eq_true rfl, Nat.le_of_ble_eq_true rfl, Nat.le_of_ble_eq_true rfl⟩ (⟨zlb rfl, zlb rfl, hi⟩) rfl rfl rfl (fun _ => rfl) (fun _ => rfl) fun q9 => ?_
          refine zz_iconst F (v := (-1 : Int32)) dX5_settle_80 (by decide) ?_
          refine zz_icmp_eq F (tgt := 95) dX5_settle_81 (by decide) (fun h => zz_t h ?_) (fun h => zz_f h ?_)
          · refine zz_aload_n F (i := 0) dX5_settle_95 rfl rfl ?_
            refine zz_getf F dX5_settle_96 wfRX5_9 zCl_5 rfl (⟨zlb rfl, zlb rfl, hi⟩) rfl (by decide) rfl rfl ?_
            refine zz_iconst F (v := (1 : Int32)) dX5_settle_99 (by decide) ?_
            refine zz_icmp_ne F (tgt := 111) dX5_settle_100 (by decide) (fun h => zz_f h ?_) (fun h => zz_t h ?_)
            · refine zz_aload_n F (i := 0) dX5_settle_111 rfl rfl ?_
              refine zz_getf F dX5_settle_112 wfRX5_9 zCl_5 rfl (⟨zlb rfl, zlb rfl, hi⟩) rfl (by decide) rfl rfl ?_
              refine zz_if_ne F (tgt := 133) dX5_settle_115 (by decide) (fun h => zz_f h ?_) (fun h => zz_t h ?_)
              · exact zz_return F dX5_settle_133 rfl (hκ _)
              · refine zz_aload_n F (i := 0) dX5_settle_118 rfl rfl ?_
                refine zz_iload_n F (i := 3) dX5_settle_119 rfl rfl ?_
                refine zz_iload F (i := 4) dX5_settle_120 rfl ?_
                refine zz_bind ?_
                refine zz_callVr F (ρ := [0]) (so := fun q10 => [zi q10]) (Mo := fun q10 => [s0]) (zfTu_mayStart i v1 q2 hi s0) dX5_settle_122 wcRX5_91 wy_yX5_mayStart rfl ⟨rel3, rfl, rfl, Nat.le_of_ble_eq_true rfl, Nat.le_of_ble_eq_true rfl, Nat.le_of_ble_eq_true rfl⟩ (⟨zlb rfl, zlb rfl, hi⟩) rfl rfl rfl (fun _ => rfl) (fun _ => rfl) fun q10 => ?_
                refine zz_if_eq F (tgt := 133) dX5_settle_125 (by decide) (fun h => zz_t h ?_) (fun h => zz_f h ?_)
                · exact zz_return F dX5_settle_133 rfl (hκ _)
                · refine zz_aload_n F (i := 0) dX5_settle_128 rfl rfl ?_
                  refine zz_iconst F (v := (1 : Int32)) dX5_settle_129 (by decide) ?_
                  refine zz_bind ?_
                  refine zz_callVr F (ρ := [0]) (so := fun q11 => []) (Mo := fun q11 => [q11]) (zfTu_become i (1 : Int32) hi s0) dX5_settle_130 wcRX5_69 wy_yX5_become rfl ⟨rel3, rfl, rfl, Nat.le_of_ble_eq_true rfl, Nat.le_of_ble_eq_true rfl, Nat.le_of_ble_eq_true rfl⟩ (⟨zlb rfl, zlb rfl, hi⟩) rfl rfl rfl (fun _ => rfl) (fun _ => rfl) fun q11 => ?_
                  exact zz_return F dX5_settle_133 rfl (hκ _)
            · refine zz_aload_n F (i := 0) dX5_settle_103 rfl rfl ?_
              refine zz_iconst F (v := (2 : Int32)) dX5_settle_104 (by decide) ?_
              refine zz_bind ?_
              refine zz_callVr F (ρ := [0]) (so := fun q12 => []) (Mo := fun q12 => [q12]) (zfTu_become i (2 : Int32) hi s0) dX5_settle_105 wcRX5_69 wy_yX5_become rfl ⟨rel3, rfl, rfl, Nat.le_of_ble_eq_true rfl, Nat.le_of_ble_eq_true rfl, Nat.le_of_ble_eq_true rfl⟩ (⟨zlb rfl, zlb rfl, hi⟩) rfl rfl rfl (fun _ => rfl) (fun _ => rfl) fun q12 => ?_
              refine zz_goto F (tgt := 133) dX5_settle_108 (by decide) ?_
              exact zz_return F dX5_settle_133 rfl (hκ _)
          · refine zz_aload_n F (i := 0) dX5_settle_84 rfl rfl ?_
            refine zz_aload_n F (i := 0) dX5_settle_85 rfl rfl ?_
            refine zz_bind ?_
            refine zz_callVr F (ρ := [0]) (so := fun q13 => [zi q13, zr 0 7 i]) (Mo := fun q13 => [s0]) (zfTu_wornPart i hi s0) dX5_settle_86 wcRX5_84 wy_yX5_wornPart rfl ⟨rel3, rfl, rfl, Nat.le_of_ble_eq_true rfl, Nat.le_of_ble_eq_true rfl, Nat.le_of_ble_eq_true rfl⟩ (⟨zlb rfl, zlb rfl, hi⟩) rfl rfl rfl (fun _ => rfl) (fun _ => rfl) fun q13 => ?_
            refine zz_bind ?_
            refine zz_callVr F (ρ := [0]) (so := fun q14 => []) (Mo := fun q14 => [q14]) (zfTu_fault i q13 hi s0) dX5_settle_89 wcRX5_88 wy_yX5_fault rfl ⟨rel3, rfl, rfl, Nat.le_of_ble_eq_true rfl, Nat.le_of_ble_eq_true rfl, Nat.le_of_ble_eq_true rfl⟩ (⟨zlb rfl, zlb rfl, hi⟩) rfl rfl rfl (fun _ => rfl) (fun _ => rfl) fun q14 => ?_
            refine zz_goto F (tgt := 133) dX5_settle_92 (by decide) ?_
            exact zz_return F dX5_settle_133 rfl (hκ _)
      · refine zz_iload_n F (i := 3) dX5_settle_49 rfl rfl ?_
        refine zz_iconst F (v := (3 : Int32)) dX5_settle_50 (by decide) ?_
        refine zz_icmp_lt F (tgt := 60) dX5_settle_51 (by decide) (fun h => zz_t h ?_) (fun h => zz_f h ?_)
        · refine zz_aload_n F (i := 0) dX5_settle_60 rfl rfl ?_
          refine zz_iconst F (v := (0 : Int32)) dX5_settle_61 (by decide) ?_
          refine zz_bind ?_
          refine zz_callVr F (ρ := [0]) (so := fun q15 => []) (Mo := fun q15 => [q15]) (zfTu_stop i (0 : Int32) hi s0) dX5_settle_62 wcRX5_81 wy_yX5_stop rfl ⟨rel3, rfl, rfl, Nat.le_of_ble_eq_true rfl, Nat.le_of_ble_eq_true rfl, Nat.le_of_ble_eq_true rfl⟩ (⟨zlb rfl, zlb rfl, hi⟩) rfl rfl rfl (fun _ => rfl) (fun _ => rfl) fun q15 => ?_
          refine zz_goto F (tgt := 133) dX5_settle_65 (by decide) ?_
          exact zz_return F dX5_settle_133 rfl (hκ _)
        · refine zz_iload_n F (i := 3) dX5_settle_54 rfl rfl ?_
          refine zz_bipush F (v := (25 : Int32)) dX5_settle_55 (by decide) ?_
          refine zz_icmp_le F (tgt := 68) dX5_settle_57 (by decide) (fun h => zz_t h ?_) (fun h => zz_f h ?_)
          · refine zz_aload_n F (i := 0) dX5_settle_68 rfl rfl ?_
            refine zz_getf F dX5_settle_69 wfRX5_9 zCl_5 rfl (⟨zlb rfl, zlb rfl, hi⟩) rfl (by decide) rfl rfl ?_
            refine zz_iconst F (v := (2 : Int32)) dX5_settle_72 (by decide) ?_
            refine zz_icmp_ne F (tgt := 95) dX5_settle_73 (by decide) (fun h => zz_f h ?_) (fun h => zz_t h ?_)
            · refine zz_aload_n F (i := 0) dX5_settle_95 rfl rfl ?_
              refine zz_getf F dX5_settle_96 wfRX5_9 zCl_5 rfl (⟨zlb rfl, zlb rfl, hi⟩) rfl (by decide) rfl rfl ?_
              refine zz_iconst F (v := (1 : Int32)) dX5_settle_99 (by decide) ?_
              refine zz_icmp_ne F (tgt := 111) dX5_settle_100 (by decide) (fun h => zz_f h ?_) (fun h => zz_t h ?_)
              · refine zz_aload_n F (i := 0) dX5_settle_111 rfl rfl ?_
                refine zz_getf F dX5_settle_112 wfRX5_9 zCl_5 rfl (⟨zlb rfl, zlb rfl, hi⟩) rfl (by decide) rfl rfl ?_
                refine zz_if_ne F (tgt := 133) dX5_settle_115 (by decide) (fun h => zz_f h ?_) (fun h => zz_t h ?_)
                · exact zz_return F dX5_settle_133 rfl (hκ _)
                · refine zz_aload_n F (i := 0) dX5_settle_118 rfl rfl ?_
                  refine zz_iload_n F (i := 3) dX5_settle_119 rfl rfl ?_
                  refine zz_iload F (i := 4) dX5_settle_120 rfl ?_
                  refine zz_bind ?_
                  refine zz_callVr F (ρ := [0]) (so := fun q16 => [zi q16]) (Mo := fun q16 => [s0]) (zfTu_mayStart i v1 q2 hi s0) dX5_settle_122 wcRX5_91 wy_yX5_mayStart rfl ⟨rel3, rfl, rfl, Nat.le_of_ble_eq_true rfl, Nat.le_of_ble_eq_true rfl, Nat.le_of_ble_eq_true rfl⟩ (⟨zlb rfl, zlb rfl, hi⟩) rfl rfl rfl (fun _ => rfl) (fun _ => rfl) fun q16 => ?_
                  refine zz_if_eq F (tgt := 133) dX5_settle_125 (by decide) (fun h => zz_t h ?_) (fun h => zz_f h ?_)
                  · exact zz_return F dX5_settle_133 rfl (hκ _)
                  · refine zz_aload_n F (i := 0) dX5_settle_128 rfl rfl ?_
                    refine zz_iconst F (v := (1 : Int32)) dX5_settle_129 (by decide) ?_
                    refine zz_bind ?_
                    refine zz_callVr F (ρ := [0]) (so := fun q17 => []) (Mo := fun q17 => [q17]) (zfTu_become i (1 : Int32) hi s0) dX5_settle_130 wcRX5_69 wy_yX5_become rfl ⟨rel3, rfl, rfl, Nat.le_of_ble_eq_true rfl, Nat.le_of_ble_eq_true rfl, Nat.le_of_ble_eq_true rfl⟩ (⟨zlb rfl, zlb rfl, hi⟩) rfl rfl rfl (fun _ => rfl) (fun _ => rfl) fun q17 => ?_
                    exact zz_return F dX5_settle_133 rfl (hκ _)
              · refine zz_aload_n F (i := 0) dX5_settle_103 rfl rfl ?_
                refine zz_iconst F (v := (2 : Int32)) dX5_settle_104 (by decide) ?_
                refine zz_bind ?_
                refine zz_callVr F (ρ := [0]) (so := fun q18 => []) (Mo := fun q18 => [q18]) (zfTu_become i (2 : Int32) hi s0) dX5_settle_105 wcRX5_69 wy_yX5_become rfl ⟨rel3, rfl, rfl, Nat.le_of_ble_eq_true rfl, Nat.le_of_ble_eq_true rfl, Nat.le_of_ble_eq_true rfl⟩ (⟨zlb rfl, zlb rfl, hi⟩) rfl rfl rfl (fun _ => rfl) (fun _ => rfl) fun q18 => ?_
                refine zz_goto F (tgt := 133) dX5_settle_108 (by decide) ?_
                exact zz_return F dX5_settle_133 rfl (hκ _)
            · refine zz_aload_n F (i := 0) dX5_settle_76 rfl rfl ?_
              refine zz_bind ?_
              refine zz_callVr F (ρ := [0]) (so := fun q19 => [zi q19]) (Mo := fun q19 => [s0]) (zfTu_wornPart i hi s0) dX5_settle_77 wcRX5_84 wy_yX5_wornPart rfl ⟨rel3, rfl, rfl, Nat.le_of_ble_eq_true rfl, Nat.le_of_ble_eq_true rfl, Nat.le_of_ble_eq_true rfl⟩ (⟨zlb rfl, zlb rfl, hi⟩) rfl rfl rfl (fun _ => rfl) (fun _ => rfl) fun q19 => ?_
              refine zz_iconst F (v := (-1 : Int32)) dX5_settle_80 (by decide) ?_
              refine zz_icmp_eq F (tgt := 95) dX5_settle_81 (by decide) (fun h => zz_t h ?_) (fun h => zz_f h ?_)
              · refine zz_aload_n F (i := 0) dX5_settle_95 rfl rfl ?_
                refine zz_getf F dX5_settle_96 wfRX5_9 zCl_5 rfl (⟨zlb rfl, zlb rfl, hi⟩) rfl (by decide) rfl rfl ?_
                refine zz_iconst F (v := (1 : Int32)) dX5_settle_99 (by decide) ?_
                refine zz_icmp_ne F (tgt := 111) dX5_settle_100 (by decide) (fun h => zz_f h ?_) (fun h => zz_t h ?_)
                · refine zz_aload_n F (i := 0) dX5_settle_111 rfl rfl ?_
                  refine zz_getf F dX5_settle_112 wfRX5_9 zCl_5 rfl (⟨zlb rfl, zlb rfl, hi⟩) rfl (by decide) rfl rfl ?_
                  refine zz_if_ne F (tgt := 133) dX5_settle_115 (by decide) (fun h => zz_f h ?_) (fun h => zz_t h ?_)
                  · exact zz_return F dX5_settle_133 rfl (hκ _)
                  · refine zz_aload_n F (i := 0) dX5_settle_118 rfl rfl ?_
                    refine zz_iload_n F (i := 3) dX5_settle_119 rfl rfl ?_
                    refine zz_iload F (i := 4) dX5_settle_120 rfl ?_
                    refine zz_bind ?_
                    refine zz_callVr F (ρ := [0]) (so := fun q20 => [zi q20]) (Mo := fun q20 => [s0]) (zfTu_mayStart i v1 q2 hi s0) dX5_settle_122 wcRX5_91 wy_yX5_mayStart rfl ⟨rel3, rfl, rfl, Nat.le_of_ble_eq_true rfl, Nat.le_of_ble_eq_true rfl, Nat.le_of_ble_eq_true rfl⟩ (⟨zlb rfl, zlb rfl, hi⟩) rfl rfl rfl (fun _ => rfl) (fun _ => rfl) fun q20 => ?_
                    refine zz_if_eq F (tgt := 133) dX5_settle_125 (by decide) (fun h => zz_t h ?_) (fun h => zz_f h ?_)
                    · exact zz_return F dX5_settle_133 rfl (hκ _)
                    · refine zz_aload_n F (i := 0) dX5_settle_128 rfl rfl ?_
                      refine zz_iconst F (v := (1 : Int32)) dX5_settle_129 (by decide) ?_
                      refine zz_bind ?_
                      refine zz_callVr F (ρ := [0]) (so := fun q21 => []) (Mo := fun q21 => [q21]) (zfTu_become i (1 : Int32) hi s0) dX5_settle_130 wcRX5_69 wy_yX5_become rfl ⟨rel3, rfl, rfl, Nat.le_of_ble_eq_true rfl, Nat.le_of_ble_eq_true rfl, Nat.le_of_ble_eq_true rfl⟩ (⟨zlb rfl, zlb rfl, hi⟩) rfl rfl rfl (fun _ => rfl) (fun _ => rfl) fun q21 => ?_
                      exact zz_return F dX5_settle_133 rfl (hκ _)
                · refine zz_aload_n F (i := 0) dX5_settle_103 rfl rfl ?_
                  refine zz_iconst F (v := (2 : Int32)) dX5_settle_104 (by decide) ?_
                  refine zz_bind ?_
                  refine zz_callVr F (ρ := [0]) (so := fun q22 => []) (Mo := fun q22 => [q22]) (zfTu_become i (2 : Int32) hi s0) dX5_settle_105 wcRX5_69 wy_yX5_become rfl ⟨rel3, rfl, rfl, Nat.le_of_ble_eq_true rfl, Nat.le_of_ble_eq_true rfl, Nat.le_of_ble_eq_true rfl⟩ (⟨zlb rfl, zlb rfl, hi⟩) rfl rfl rfl (fun _ => rfl) (fun _ => rfl) fun q22 => ?_
                  refine zz_goto F (tgt := 133) dX5_settle_108 (by decide) ?_
                  exact zz_return F dX5_settle_133 rfl (hκ _)
              · refine zz_aload_n F (i := 0) dX5_settle_84 rfl rfl ?_
                refine zz_aload_n F (i := 0) dX5_settle_85 rfl rfl ?_
                refine zz_bind ?_
                refine zz_callVr F (ρ := [0]) (so := fun q23 => [zi q23, zr 0 7 i]) (Mo := fun q23 => [s0]) (zfTu_wornPart i hi s0) dX5_settle_86 wcRX5_84 wy_yX5_wornPart rfl ⟨rel3, rfl, rfl, Nat.le_of_ble_eq_true rfl, Nat.le_of_ble_eq_true rfl, Nat.le_of_ble_eq_true rfl⟩ (⟨zlb rfl, zlb rfl, hi⟩) rfl rfl rfl (fun _ => rfl) (fun _ => rfl) fun q23 => ?_
                refine zz_bind ?_
                refine zz_callVr F (ρ := [0]) (so := fun q24 => []) (Mo := fun q24 => [q24]) (zfTu_fault i q23 hi s0) dX5_settle_89 wcRX5_88 wy_yX5_fault rfl ⟨rel3, rfl, rfl, Nat.le_of_ble_eq_true rfl, Nat.le_of_ble_eq_true rfl, Nat.le_of_ble_eq_true rfl⟩ (⟨zlb rfl, zlb rfl, hi⟩) rfl rfl rfl (fun _ => rfl) (fun _ => rfl) fun q24 => ?_
                refine zz_goto F (tgt := 133) dX5_settle_92 (by decide) ?_
                exact zz_return F dX5_settle_133 rfl (hκ _)
          · refine zz_aload_n F (i := 0) dX5_settle_60 rfl rfl ?_
            refine zz_iconst F (v := (0 : Int32)) dX5_settle_61 (by decide) ?_
            refine zz_bind ?_
            refine zz_callVr F (ρ := [0]) (so := fun q25 => []) (Mo := fun q25 => [q25]) (zfTu_stop i (0 : Int32) hi s0) dX5_settle_62 wcRX5_81 wy_yX5_stop rfl ⟨rel3, rfl, rfl, Nat.le_of_ble_eq_true rfl, Nat.le_of_ble_eq_true rfl, Nat.le_of_ble_eq_true rfl⟩ (⟨zlb rfl, zlb rfl, hi⟩) rfl rfl rfl (fun _ => rfl) (fun _ => rfl) fun q25 => ?_
            refine zz_goto F (tgt := 133) dX5_settle_65 (by decide) ?_
            exact zz_return F dX5_settle_133 rfl (hκ _)
    · refine zz_iload F (i := 4) dX5_settle_28 rfl ?_
      refine zz_if_eq F (tgt := 41) dX5_settle_30 (by decide) (fun h => zz_t h ?_) (fun h => zz_f h ?_)
      · refine zz_aload_n F (i := 0) dX5_settle_41 rfl rfl ?_
        refine zz_getf F dX5_settle_42 wfRX5_9 zCl_5 rfl (⟨zlb rfl, zlb rfl, hi⟩) rfl (by decide) rfl rfl ?_
        refine zz_iconst F (v := (2 : Int32)) dX5_settle_45 (by decide) ?_
        refine zz_icmp_ne F (tgt := 68) dX5_settle_46 (by decide) (fun h => zz_f h ?_) (fun h => zz_t h ?_)
        · refine zz_aload_n F (i := 0) dX5_settle_68 rfl rfl ?_
          refine zz_getf F dX5_settle_69 wfRX5_9 zCl_5 rfl (⟨zlb rfl, zlb rfl, hi⟩) rfl (by decide) rfl rfl ?_
          refine zz_iconst F (v := (2 : Int32)) dX5_settle_72 (by decide) ?_
          refine zz_icmp_ne F (tgt := 95) dX5_settle_73 (by decide) (fun h => zz_f h ?_) (fun h => zz_t h ?_)
          · refine zz_aload_n F (i := 0) dX5_settle_95 rfl rfl ?_
            refine zz_getf F dX5_settle_96 wfRX5_9 zCl_5 rfl (⟨zlb rfl, zlb rfl, hi⟩) rfl (by decide) rfl rfl ?_
            refine zz_iconst F (v := (1 : Int32)) dX5_settle_99 (by decide) ?_
            refine zz_icmp_ne F (tgt := 111) dX5_settle_100 (by decide) (fun h => zz_f h ?_) (fun h => zz_t h ?_)
            · refine zz_aload_n F (i := 0) dX5_settle_111 rfl rfl ?_
              refine zz_getf F dX5_settle_112 wfRX5_9 zCl_5 rfl (⟨zlb rfl, zlb rfl, hi⟩) rfl (by decide) rfl rfl ?_
              refine zz_if_ne F (tgt := 133) dX5_settle_115 (by decide) (fun h => zz_f h ?_) (fun h => zz_t h ?_)
              · exact zz_return F dX5_settle_133 rfl (hκ _)
              · refine zz_aload_n F (i := 0) dX5_settle_118 rfl rfl ?_
                refine zz_iload_n F (i := 3) dX5_settle_119 rfl rfl ?_
                refine zz_iload F (i := 4) dX5_settle_120 rfl ?_
                refine zz_bind ?_
                refine zz_callVr F (ρ := [0]) (so := fun q26 => [zi q26]) (Mo := fun q26 => [s0]) (zfTu_mayStart i v1 q2 hi s0) dX5_settle_122 wcRX5_91 wy_yX5_mayStart rfl ⟨rel3, rfl, rfl, Nat.le_of_ble_eq_true rfl, Nat.le_of_ble_eq_true rfl, Nat.le_of_ble_eq_true rfl⟩ (⟨zlb rfl, zlb rfl, hi⟩) rfl rfl rfl (fun _ => rfl) (fun _ => rfl) fun q26 => ?_
                refine zz_if_eq F (tgt := 133) dX5_settle_125 (by decide) (fun h => zz_t h ?_) (fun h => zz_f h ?_)
                · exact zz_return F dX5_settle_133 rfl (hκ _)
                · refine zz_aload_n F (i := 0) dX5_settle_128 rfl rfl ?_
                  refine zz_iconst F (v := (1 : Int32)) dX5_settle_129 (by decide) ?_
                  refine zz_bind ?_
                  refine zz_callVr F (ρ := [0]) (so := fun q27 => []) (Mo := fun q27 => [q27]) (zfTu_become i (1 : Int32) hi s0) dX5_settle_130 wcRX5_69 wy_yX5_become rfl ⟨rel3, rfl, rfl, Nat.le_of_ble_eq_true rfl, Nat.le_of_ble_eq_true rfl, Nat.le_of_ble_eq_true rfl⟩ (⟨zlb rfl, zlb rfl, hi⟩) rfl rfl rfl (fun _ => rfl) (fun _ => rfl) fun q27 => ?_
                  exact zz_return F dX5_settle_133 rfl (hκ _)
            · refine zz_aload_n F (i := 0) dX5_settle_103 rfl rfl ?_
              refine zz_iconst F (v := (2 : Int32)) dX5_settle_104 (by decide) ?_
              refine zz_bind ?_
              refine zz_callVr F (ρ := [0]) (so := fun q28 => []) (Mo := fun q28 => [q28]) (zfTu_become i (2 : Int32) hi s0) dX5_settle_105 wcRX5_69 wy_yX5_become rfl ⟨rel3, rfl, rfl, Nat.le_of_ble_eq_true rfl, Nat.le_of_ble_eq_true rfl, Nat.le_of_ble_eq_true rfl⟩ (⟨zlb rfl, zlb rfl, hi⟩) rfl rfl rfl (fun _ => rfl) (fun _ => rfl) fun q28 => ?_
              refine zz_goto F (tgt := 133) dX5_settle_108 (by decide) ?_
              exact zz_return F dX5_settle_133 rfl (hκ _)
          · refine zz_aload_n F (i := 0) dX5_settle_76 rfl rfl ?_
            refine zz_bind ?_
            refine zz_callVr F (ρ := [0]) (so := fun q29 => [zi q29]) (Mo := fun q29 => [s0]) (zfTu_wornPart i hi s0) dX5_settle_77 wcRX5_84 wy_yX5_wornPart rfl ⟨rel3, rfl, rfl, Nat.le_of_ble_eq_true rfl, Nat.le_of_ble_eq_true rfl, Nat.le_of_ble_eq_true rfl⟩ (⟨zlb rfl, zlb rfl, hi⟩) rfl rfl rfl (fun _ => rfl) (fun _ => rfl) fun q29 => ?_
            refine zz_iconst F (v := (-1 : Int32)) dX5_settle_80 (by decide) ?_
            refine zz_icmp_eq F (tgt := 95) dX5_settle_81 (by decide) (fun h => zz_t h ?_) (fun h => zz_f h ?_)
            · refine zz_aload_n F (i := 0) dX5_settle_95 rfl rfl ?_
              refine zz_getf F dX5_settle_96 wfRX5_9 zCl_5 rfl (⟨zlb rfl, zlb rfl, hi⟩) rfl (by decide) rfl rfl ?_
              refine zz_iconst F (v := (1 : Int32)) dX5_settle_99 (by decide) ?_
              refine zz_icmp_ne F (tgt := 111) dX5_settle_100 (by decide) (fun h => zz_f h ?_) (fun h => zz_t h ?_)
              · refine zz_aload_n F (i := 0) dX5_settle_111 rfl rfl ?_
                refine zz_getf F dX5_settle_112 wfRX5_9 zCl_5 rfl (⟨zlb rfl, zlb rfl, hi⟩) rfl (by decide) rfl rfl ?_
                refine zz_if_ne F (tgt := 133) dX5_settle_115 (by decide) (fun h => zz_f h ?_) (fun h => zz_t h ?_)
                · exact zz_return F dX5_settle_133 rfl (hκ _)
                · refine zz_aload_n F (i := 0) dX5_settle_118 rfl rfl ?_
                  refine zz_iload_n F (i := 3) dX5_settle_119 rfl rfl ?_
                  refine zz_iload F (i := 4) dX5_settle_120 rfl ?_
                  refine zz_bind ?_
                  refine zz_callVr F (ρ := [0]) (so := fun q30 => [zi q30]) (Mo := fun q30 => [s0]) (zfTu_mayStart i v1 q2 hi s0) dX5_settle_122 wcRX5_91 wy_yX5_mayStart rfl ⟨rel3, rfl, rfl, Nat.le_of_ble_eq_true rfl, Nat.le_of_ble_eq_true rfl, Nat.le_of_ble_eq_true rfl⟩ (⟨zlb rfl, zlb rfl, hi⟩) rfl rfl rfl (fun _ => rfl) (fun _ => rfl) fun q30 => ?_
                  refine zz_if_eq F (tgt := 133) dX5_settle_125 (by decide) (fun h => zz_t h ?_) (fun h => zz_f h ?_)
                  · exact zz_return F dX5_settle_133 rfl (hκ _)
                  · refine zz_aload_n F (i := 0) dX5_settle_128 rfl rfl ?_
                    refine zz_iconst F (v := (1 : Int32)) dX5_settle_129 (by decide) ?_
                    refine zz_bind ?_
                    refine zz_callVr F (ρ := [0]) (so := fun q31 => []) (Mo := fun q31 => [q31]) (zfTu_become i (1 : Int32) hi s0) dX5_settle_130 wcRX5_69 wy_yX5_become rfl ⟨rel3, rfl, rfl, Nat.le_of_ble_eq_true rfl, Nat.le_of_ble_eq_true rfl, Nat.le_of_ble_eq_true rfl⟩ (⟨zlb rfl, zlb rfl, hi⟩) rfl rfl rfl (fun _ => rfl) (fun _ => rfl) fun q31 => ?_
                    exact zz_return F dX5_settle_133 rfl (hκ _)
              · refine zz_aload_n F (i := 0) dX5_settle_103 rfl rfl ?_
                refine zz_iconst F (v := (2 : Int32)) dX5_settle_104 (by decide) ?_
                refine zz_bind ?_
                refine zz_callVr F (ρ := [0]) (so := fun q32 => []) (Mo := fun q32 => [q32]) (zfTu_become i (2 : Int32) hi s0) dX5_settle_105 wcRX5_69 wy_yX5_become rfl ⟨rel3, rfl, rfl, Nat.le_of_ble_eq_true rfl, Nat.le_of_ble_eq_true rfl, Nat.le_of_ble_eq_true rfl⟩ (⟨zlb rfl, zlb rfl, hi⟩) rfl rfl rfl (fun _ => rfl) (fun _ => rfl) fun q32 => ?_
                refine zz_goto F (tgt := 133) dX5_settle_108 (by decide) ?_
                exact zz_return F dX5_settle_133 rfl (hκ _)
            · refine zz_aload_n F (i := 0) dX5_settle_84 rfl rfl ?_
              refine zz_aload_n F (i := 0) dX5_settle_85 rfl rfl ?_
              refine zz_bind ?_
              refine zz_callVr F (ρ := [0]) (so := fun q33 => [zi q33, zr 0 7 i]) (Mo := fun q33 => [s0]) (zfTu_wornPart i hi s0) dX5_settle_86 wcRX5_84 wy_yX5_wornPart rfl ⟨rel3, rfl, rfl, Nat.le_of_ble_eq_true rfl, Nat.le_of_ble_eq_true rfl, Nat.le_of_ble_eq_true rfl⟩ (⟨zlb rfl, zlb rfl, hi⟩) rfl rfl rfl (fun _ => rfl) (fun _ => rfl) fun q33 => ?_
              refine zz_bind ?_
              refine zz_callVr F (ρ := [0]) (so := fun q34 => []) (Mo := fun q34 => [q34]) (zfTu_fault i q33 hi s0) dX5_settle_89 wcRX5_88 wy_yX5_fault rfl ⟨rel3, rfl, rfl, Nat.le_of_ble_eq_true rfl, Nat.le_of_ble_eq_true rfl, Nat.le_of_ble_eq_true rfl⟩ (⟨zlb rfl, zlb rfl, hi⟩) rfl rfl rfl (fun _ => rfl) (fun _ => rfl) fun q34 => ?_
              refine zz_goto F (tgt := 133) dX5_settle_92 (by decide) ?_
              exact zz_return F dX5_settle_133 rfl (hκ _)
        · refine zz_iload_n F (i := 3) dX5_settle_49 rfl rfl ?_
          refine zz_iconst F (v := (3 : Int32)) dX5_settle_50 (by decide) ?_
          refine zz_icmp_lt F (tgt := 60) dX5_settle_51 (by decide) (fun h => zz_t h ?_) (fun h => zz_f h ?_)
          · refine zz_aload_n F (i := 0) dX5_settle_60 rfl rfl ?_
            refine zz_iconst F (v := (0 : Int32)) dX5_settle_61 (by decide) ?_
            refine zz_bind ?_
            refine zz_callVr F (ρ := [0]) (so := fun q35 => []) (Mo := fun q35 => [q35]) (zfTu_stop i (0 : Int32) hi s0) dX5_settle_62 wcRX5_81 wy_yX5_stop rfl ⟨rel3, rfl, rfl, Nat.le_of_ble_eq_true rfl, Nat.le_of_ble_eq_true rfl, Nat.le_of_ble_eq_true rfl⟩ (⟨zlb rfl, zlb rfl, hi⟩) rfl rfl rfl (fun _ => rfl) (fun _ => rfl) fun q35 => ?_
            refine zz_goto F (tgt := 133) dX5_settle_65 (by decide) ?_
            exact zz_return F dX5_settle_133 rfl (hκ _)
          · refine zz_iload_n F (i := 3) dX5_settle_54 rfl rfl ?_
            refine zz_bipush F (v := (25 : Int32)) dX5_settle_55 (by decide) ?_
            refine zz_icmp_le F (tgt := 68) dX5_settle_57 (by decide) (fun h => zz_t h ?_) (fun h => zz_f h ?_)
            · refine zz_aload_n F (i := 0) dX5_settle_68 rfl rfl ?_
              refine zz_getf F dX5_settle_69 wfRX5_9 zCl_5 rfl (⟨zlb rfl, zlb rfl, hi⟩) rfl (by decide) rfl rfl ?_
              refine zz_iconst F (v := (2 : Int32)) dX5_settle_72 (by decide) ?_
              refine zz_icmp_ne F (tgt := 95) dX5_settle_73 (by decide) (fun h => zz_f h ?_) (fun h => zz_t h ?_)
              · refine zz_aload_n F (i := 0) dX5_settle_95 rfl rfl ?_
                refine zz_getf F dX5_settle_96 wfRX5_9 zCl_5 rfl (⟨zlb rfl, zlb rfl, hi⟩) rfl (by decide) rfl rfl ?_
                refine zz_iconst F (v := (1 : Int32)) dX5_settle_99 (by decide) ?_
                refine zz_icmp_ne F (tgt := 111) dX5_settle_100 (by decide) (fun h => zz_f h ?_) (fun h => zz_t h ?_)
                · refine zz_aload_n F (i := 0) dX5_settle_111 rfl rfl ?_
                  refine zz_getf F dX5_settle_112 wfRX5_9 zCl_5 rfl (⟨zlb rfl, zlb rfl, hi⟩) rfl (by decide) rfl rfl ?_
                  refine zz_if_ne F (tgt := 133) dX5_settle_115 (by decide) (fun h => zz_f h ?_) (fun h => zz_t h ?_)
                  · exact zz_return F dX5_settle_133 rfl (hκ _)
                  · refine zz_aload_n F (i := 0) dX5_settle_118 rfl rfl ?_
                    refine zz_iload_n F (i := 3) dX5_settle_119 rfl rfl ?_
                    refine zz_iload F (i := 4) dX5_settle_120 rfl ?_
                    refine zz_bind ?_
                    refine zz_callVr F (ρ := [0]) (so := fun q36 => [zi q36]) (Mo := fun q36 => [s0]) (zfTu_mayStart i v1 q2 hi s0) dX5_settle_122 wcRX5_91 wy_yX5_mayStart rfl ⟨rel3, rfl, rfl, Nat.le_of_ble_eq_true rfl, Nat.le_of_ble_eq_true rfl, Nat.le_of_ble_eq_true rfl⟩ (⟨zlb rfl, zlb rfl, hi⟩) rfl rfl rfl (fun _ => rfl) (fun _ => rfl) fun q36 => ?_
                    refine zz_if_eq F (tgt := 133) dX5_settle_125 (by decide) (fun h => zz_t h ?_) (fun h => zz_f h ?_)
                    · exact zz_return F dX5_settle_133 rfl (hκ _)
                    · refine zz_aload_n F (i := 0) dX5_settle_128 rfl rfl ?_
                      refine zz_iconst F (v := (1 : Int32)) dX5_settle_129 (by decide) ?_
                      refine zz_bind ?_
                      refine zz_callVr F (ρ := [0]) (so := fun q37 => []) (Mo := fun q37 => [q37]) (zfTu_become i (1 : Int32) hi s0) dX5_settle_130 wcRX5_69 wy_yX5_become rfl ⟨rel3, rfl, rfl, Nat.le_of_ble_eq_true rfl, Nat.le_of_ble_eq_true rfl, Nat.le_of_ble_eq_true rfl⟩ (⟨zlb rfl, zlb rfl, hi⟩) rfl rfl rfl (fun _ => rfl) (fun _ => rfl) fun q37 => ?_
                      exact zz_return F dX5_settle_133 rfl (hκ _)
                · refine zz_aload_n F (i := 0) dX5_settle_103 rfl rfl ?_
                  refine zz_iconst F (v := (2 : Int32)) dX5_settle_104 (by decide) ?_
                  refine zz_bind ?_
                  refine zz_callVr F (ρ := [0]) (so := fun q38 => []) (Mo := fun q38 => [q38]) (zfTu_become i (2 : Int32) hi s0) dX5_settle_105 wcRX5_69 wy_yX5_become rfl ⟨rel3, rfl, rfl, Nat.le_of_ble_eq_true rfl, Nat.le_of_ble_eq_true rfl, Nat.le_of_ble_eq_true rfl⟩ (⟨zlb rfl, zlb rfl, hi⟩) rfl rfl rfl (fun _ => rfl) (fun _ => rfl) fun q38 => ?_
                  refine zz_goto F (tgt := 133) dX5_settle_108 (by decide) ?_
                  exact zz_return F dX5_settle_133 rfl (hκ _)
              · refine zz_aload_n F (i := 0) dX5_settle_76 rfl rfl ?_
                refine zz_bind ?_
                refine zz_callVr F (ρ := [0]) (so := fun q39 => [zi q39]) (Mo := fun q39 => [s0]) (zfTu_wornPart i hi s0) dX5_settle_77 wcRX5_84 wy_yX5_wornPart rfl ⟨rel3, rfl, rfl, Nat.le_of_ble_eq_true rfl, Nat.le_of_ble_eq_true rfl, Nat.le_of_ble_eq_true rfl⟩ (⟨zlb rfl, zlb rfl, hi⟩) rfl rfl rfl (fun _ => rfl) (fun _ => rfl) fun q39 => ?_
                refine zz_iconst F (v := (-1 : Int32)) dX5_settle_80 (by decide) ?_
                refine zz_icmp_eq F (tgt := 95) dX5_settle_81 (by decide) (fun h => zz_t h ?_) (fun h => zz_f h ?_)
                · refine zz_aload_n F (i := 0) dX5_settle_95 rfl rfl ?_
                  refine zz_getf F dX5_settle_96 wfRX5_9 zCl_5 rfl (⟨zlb rfl, zlb rfl, hi⟩) rfl (by decide) rfl rfl ?_
                  refine zz_iconst F (v := (1 : Int32)) dX5_settle_99 (by decide) ?_
                  refine zz_icmp_ne F (tgt := 111) dX5_settle_100 (by decide) (fun h => zz_f h ?_) (fun h => zz_t h ?_)
                  · refine zz_aload_n F (i := 0) dX5_settle_111 rfl rfl ?_
                    refine zz_getf F dX5_settle_112 wfRX5_9 zCl_5 rfl (⟨zlb rfl, zlb rfl, hi⟩) rfl (by decide) rfl rfl ?_
                    refine zz_if_ne F (tgt := 133) dX5_settle_115 (by decide) (fun h => zz_f h ?_) (fun h => zz_t h ?_)
                    · exact zz_return F dX5_settle_133 rfl (hκ _)
                    · refine zz_aload_n F (i := 0) dX5_settle_118 rfl rfl ?_
                      refine zz_iload_n F (i := 3) dX5_settle_119 rfl rfl ?_
                      refine zz_iload F (i := 4) dX5_settle_120 rfl ?_
                      refine zz_bind ?_
                      refine zz_callVr F (ρ := [0]) (so := fun q40 => [zi q40]) (Mo := fun q40 => [s0]) (zfTu_mayStart i v1 q2 hi s0) dX5_settle_122 wcRX5_91 wy_yX5_mayStart rfl ⟨rel3, rfl, rfl, Nat.le_of_ble_eq_true rfl, Nat.le_of_ble_eq_true rfl, Nat.le_of_ble_eq_true rfl⟩ (⟨zlb rfl, zlb rfl, hi⟩) rfl rfl rfl (fun _ => rfl) (fun _ => rfl) fun q40 => ?_
                      refine zz_if_eq F (tgt := 133) dX5_settle_125 (by decide) (fun h => zz_t h ?_) (fun h => zz_f h ?_)
                      · exact zz_return F dX5_settle_133 rfl (hκ _)
                      · refine zz_aload_n F (i := 0) dX5_settle_128 rfl rfl ?_
                        refine zz_iconst F (v := (1 : Int32)) dX5_settle_129 (by decide) ?_
                        refine zz_bind ?_
                        refine zz_callVr F (ρ := [0]) (so := fun q41 => []) (Mo := fun q41 => [q41]) (zfTu_become i (1 : Int32) hi s0) dX5_settle_130 wcRX5_69 wy_yX5_become rfl ⟨rel3, rfl, rfl, Nat.le_of_ble_eq_true rfl, Nat.le_of_ble_eq_true rfl, Nat.le_of_ble_eq_true rfl⟩ (⟨zlb rfl, zlb rfl, hi⟩) rfl rfl rfl (fun _ => rfl) (fun _ => rfl) fun q41 => ?_
                        exact zz_return F dX5_settle_133 rfl (hκ _)
                  · refine zz_aload_n F (i := 0) dX5_settle_103 rfl rfl ?_
                    refine zz_iconst F (v := (2 : Int32)) dX5_settle_104 (by decide) ?_
                    refine zz_bind ?_
                    refine zz_callVr F (ρ := [0]) (so := fun q42 => []) (Mo := fun q42 => [q42]) (zfTu_become i (2 : Int32) hi s0) dX5_settle_105 wcRX5_69 wy_yX5_become rfl ⟨rel3, rfl, rfl, Nat.le_of_ble_eq_true rfl, Nat.le_of_ble_eq_true rfl, Nat.le_of_ble_eq_true rfl⟩ (⟨zlb rfl, zlb rfl, hi⟩) rfl rfl rfl (fun _ => rfl) (fun _ => rfl) fun q42 => ?_
                    refine zz_goto F (tgt := 133) dX5_settle_108 (by decide) ?_
                    exact zz_return F dX5_settle_133 rfl (hκ _)
                · refine zz_aload_n F (i := 0) dX5_settle_84 rfl rfl ?_
                  refine zz_aload_n F (i := 0) dX5_settle_85 rfl rfl ?_
                  refine zz_bind ?_
                  refine zz_callVr F (ρ := [0]) (so := fun q43 => [zi q43, zr 0 7 i]) (Mo := fun q43 => [s0]) (zfTu_wornPart i hi s0) dX5_settle_86 wcRX5_84 wy_yX5_wornPart rfl ⟨rel3, rfl, rfl, Nat.le_of_ble_eq_true rfl, Nat.le_of_ble_eq_true rfl, Nat.le_of_ble_eq_true rfl⟩ (⟨zlb rfl, zlb rfl, hi⟩) rfl rfl rfl (fun _ => rfl) (fun _ => rfl) fun q43 => ?_
                  refine zz_bind ?_
                  refine zz_callVr F (ρ := [0]) (so := fun q44 => []) (Mo := fun q44 => [q44]) (zfTu_fault i q43 hi s0) dX5_settle_89 wcRX5_88 wy_yX5_fault rfl ⟨rel3, rfl, rfl, Nat.le_of_ble_eq_true rfl, Nat.le_of_ble_eq_true rfl, Nat.le_of_ble_eq_true rfl⟩ (⟨zlb rfl, zlb rfl, hi⟩) rfl rfl rfl (fun _ => rfl) (fun _ => rfl) fun q44 => ?_
                  refine zz_goto F (tgt := 133) dX5_settle_92 (by decide) ?_
                  exact zz_return F dX5_settle_133 rfl (hκ _)
            · refine zz_aload_n F (i := 0) dX5_settle_60 rfl rfl ?_
              refine zz_iconst F (v := (0 : Int32)) dX5_settle_61 (by decide) ?_
              refine zz_bind ?_
              refine zz_callVr F (ρ := [0]) (so := fun q45 => []) (Mo := fun q45 => [q45]) (zfTu_stop i (0 : Int32) hi s0) dX5_settle_62 wcRX5_81 wy_yX5_stop rfl ⟨rel3, rfl, rfl, Nat.le_of_ble_eq_true rfl, Nat.le_of_ble_eq_true rfl, Nat.le_of_ble_eq_true rfl⟩ (⟨zlb rfl, zlb rfl, hi⟩) rfl rfl rfl (fun _ => rfl) (fun _ => rfl) fun q45 => ?_
              refine zz_goto F (tgt := 133) dX5_settle_65 (by decide) ?_
              exact zz_return F dX5_settle_133 rfl (hκ _)
      · refine zz_aload_n F (i := 0) dX5_settle_33 rfl rfl ?_
        refine zz_iconst F (v := (2 : Int32)) dX5_settle_34 (by decide) ?_
        refine zz_bind ?_
        refine zz_callVr F (ρ := [0]) (so := fun q46 => []) (Mo := fun q46 => [q46]) (zfTu_stop i (2 : Int32) hi s0) dX5_settle_35 wcRX5_81 wy_yX5_stop rfl ⟨rel3, rfl, rfl, Nat.le_of_ble_eq_true rfl, Nat.le_of_ble_eq_true rfl, Nat.le_of_ble_eq_true rfl⟩ (⟨zlb rfl, zlb rfl, hi⟩) rfl rfl rfl (fun _ => rfl) (fun _ => rfl) fun q46 => ?_
        refine zz_goto F (tgt := 133) dX5_settle_38 (by decide) ?_
        exact zz_return F dX5_settle_133 rfl (hκ _)
  · refine zz_icmp_ge F (tgt := 17) dX5_settle_10 (by decide) (fun h => zz_t h ?_) (fun h => zz_f h ?_)
    · refine zz_iconst F (v := (0 : Int32)) dX5_settle_17 (by decide) ?_
      exact zz_sub (zs_k (zs_n (zs_n (zs_k (zs_k zs_z))))) (hj3 (0 : Int32))
    · refine zz_iconst F (v := (1 : Int32)) dX5_settle_13 (by decide) ?_
      refine zz_goto F (tgt := 18) dX5_settle_14 (by decide) ?_
      exact zz_sub (zs_k (zs_n (zs_n (zs_k (zs_k zs_z))))) (hj3 (1 : Int32))
theorem zfTu_settle (i : Nat) (a2 : Int32) (hi : i < 8) (s0 : zM) : ∀ a, fTu_settle i a2 s0 = some a → zMet yX5_settle cX5_settle 5 none 2 42 [(0, [])] [zr 0 7 i, zr 0 4 0, zi a2] [s0] ((fun a => ((.inl ((fun _ => (none : Option zV)) a), (fun q => [q]) a) : zO)) a) := fun a ha => zMet_of (L0 := [some (zr 0 7 i), some (zr 0 4 0), some (zi a2), none, none]) (φ := Option.bind (fTu_settle i a2 s0) (fun a => some ((fun a => ((.inl ((fun _ => (none : Option zV)) a), (fun q => [q]) a) : zO)) a))) (by decide) (fun _ => Nat.le_of_ble_eq_true rfl) (zl0 2 rfl) (fun X F => bfTu_settle F i a2 hi s0 (fun _ => rfl)) (by rw [ha]; rfl)

theorem dX7_power_0 : decode cX7_power 0 = .ok (.iload_n 0, 1) := by decide +kernel
theorem dX7_power_1 : decode cX7_power 1 = .ok (.iconst 4, 1) := by decide +kernel
theorem dX7_power_2 : decode cX7_power 2 = .ok (.if_icmp .lt 9, 3) := by decide +kernel
theorem dX7_power_5 : decode cX7_power 5 = .ok (.iload_n 0, 1) := by decide +kernel
theorem dX7_power_6 : decode cX7_power 6 = .ok (.bipush 25, 2) := by decide +kernel
theorem dX7_power_8 : decode cX7_power 8 = .ok (.if_icmp .le 5, 3) := by decide +kernel
theorem dX7_power_11 : decode cX7_power 11 = .ok (.iconst 0, 1) := by decide +kernel
theorem dX7_power_12 : decode cX7_power 12 = .ok (.ireturn, 1) := by decide +kernel
theorem dX7_power_13 : decode cX7_power 13 = .ok (.sipush 2000, 3) := by decide +kernel
theorem dX7_power_16 : decode cX7_power 16 = .ok (.iload_n 0, 1) := by decide +kernel
theorem dX7_power_17 : decode cX7_power 17 = .ok (.iload_n 0, 1) := by decide +kernel
theorem dX7_power_18 : decode cX7_power 18 = .ok (.imul, 1) := by decide +kernel
theorem dX7_power_19 : decode cX7_power 19 = .ok (.iload_n 0, 1) := by decide +kernel
theorem dX7_power_20 : decode cX7_power 20 = .ok (.imul, 1) := by decide +kernel
theorem dX7_power_21 : decode cX7_power 21 = .ok (.invokestatic 16, 3) := by decide +kernel
theorem dX7_power_24 : decode cX7_power 24 = .ok (.ireturn, 1) := by decide +kernel
theorem wmRX7_16 : Cond.methodLink RX7 16 Lib.Math.min.name ∈ zTg := zm_f 389 (by decide +kernel) rfl
theorem wMath_min : Cond.static Lib.Math.min.name ∈ zTg ∧ Cond.initialized "java/lang/Math" ∈ zTg ∧ Cond.code Lib.Math.min.name Lib.Math.min.code 2 (some .int) ∈ zTg := ⟨zm_f 390 (by decide +kernel) rfl, zm_f 56 (by decide +kernel) rfl, zm_f 391 (by decide +kernel) rfl⟩
def fWa_power (a0 : Int32)  : Option (Int32) :=
  if a0 < (4 : Int32) then
  some (0 : Int32)
else
  if a0 ≤ (25 : Int32) then
    some (zmin (2000 : Int32) ((a0 * a0) * a0))
  else
    some (0 : Int32)
set_option maxHeartbeats 4000000 in
set_option maxRecDepth 20000 in
theorem bfWa_power {X : zX} (F : zFr X cX7_power 1 RX7 (some .int)) (a0 : Int32)   {κ : Int32 → Option zO} (hκ : ∀ a, κ a = some ((fun a => ((.inl ((fun q => some (zi q)) a), (fun _ => []) a) : zO)) a)) : zZ X [] 1 23 1 0 [some (zi a0)] [] [] (Option.bind (fWa_power a0) κ) := by
  unfold fWa_power
  refine zz_iload_n F (i := 0) dX7_power_0 rfl rfl ?_
  refine zz_iconst F (v := (4 : Int32)) dX7_power_1 (by decide) ?_
  refine zz_icmp_lt F (tgt := 11) dX7_power_2 (by decide) (fun h => zz_t h ?_) (fun h => zz_f h ?_)
  · refine zz_iconst F (v := (0 : Int32)) dX7_power_11 (by decide) ?_
    exact zz_ireturn F dX7_power_12 rfl (hκ _)
  · refine zz_iload_n F (i := 0) dX7_power_5 rfl rfl ?_
    refine zz_bipush F (v := (25 : Int32)) dX7_power_6 (by decide) ?_
    refine zz_icmp_le F (tgt := 13) dX7_power_8 (by decide) (fun h => zz_t h ?_) (fun h => zz_f h ?_)
    · refine zz_sipush F (v := (2000 : Int32)) dX7_power_13 (by decide) ?_
      refine zz_iload_n F (i := 0) dX7_power_16 rfl rfl ?_
      refine zz_iload_n F (i := 0) dX7_power_17 rfl rfl ?_
      refine zz_imul F dX7_power_18 ?_
      refine zz_iload_n F (i := 0) dX7_power_19 rfl rfl ?_
      refine zz_imul F dX7_power_20 ?_
      refine zz_min F dX7_power_21 wmRX7_16 wMath_min (Nat.le_of_ble_eq_true rfl) (Nat.le_of_ble_eq_true rfl) ?_
      exact zz_ireturn F dX7_power_24 rfl (hκ _)
    · refine zz_iconst F (v := (0 : Int32)) dX7_power_11 (by decide) ?_
      exact zz_ireturn F dX7_power_12 rfl (hκ _)
theorem zfWa_power (a0 : Int32)   : ∀ a, fWa_power a0 = some a → zMet yX7_power cX7_power 1 (some .int) 1 23 [] [zi a0] [] ((fun a => ((.inl ((fun q => some (zi q)) a), (fun _ => []) a) : zO)) a) := fun a ha => zMet_of (L0 := [some (zi a0)]) (φ := Option.bind (fWa_power a0) (fun a => some ((fun a => ((.inl ((fun q => some (zi q)) a), (fun _ => []) a) : zO)) a))) (by decide) (fun _ => Nat.le_of_ble_eq_true rfl) (zl0 0 rfl) (fun X F => bfWa_power F a0 (fun _ => rfl)) (by rw [ha]; rfl)

theorem dX7_deficit_0 : decode cX7_deficit 0 = .ok (.iload_n 3, 1) := by decide +kernel
theorem dX7_deficit_1 : decode cX7_deficit 1 = .ok (.ifCond .lt 9, 3) := by decide +kernel
theorem dX7_deficit_4 : decode cX7_deficit 4 = .ok (.iload_n 3, 1) := by decide +kernel
theorem dX7_deficit_5 : decode cX7_deficit 5 = .ok (.bipush 8, 2) := by decide +kernel
theorem dX7_deficit_7 : decode cX7_deficit 7 = .ok (.if_icmp .lt 5, 3) := by decide +kernel
theorem dX7_deficit_10 : decode cX7_deficit 10 = .ok (.iconst 0, 1) := by decide +kernel
theorem dX7_deficit_11 : decode cX7_deficit 11 = .ok (.ireturn, 1) := by decide +kernel
theorem dX7_deficit_12 : decode cX7_deficit 12 = .ok (.getstatic 9, 3) := by decide +kernel
theorem dX7_deficit_15 : decode cX7_deficit 15 = .ok (.iload_n 3, 1) := by decide +kernel
theorem dX7_deficit_16 : decode cX7_deficit 16 = .ok (.iaload, 1) := by decide +kernel
theorem dX7_deficit_17 : decode cX7_deficit 17 = .ok (.istore 4, 2) := by decide +kernel
theorem dX7_deficit_19 : decode cX7_deficit 19 = .ok (.getstatic 13, 3) := by decide +kernel
theorem dX7_deficit_22 : decode cX7_deficit 22 = .ok (.iload_n 3, 1) := by decide +kernel
theorem dX7_deficit_23 : decode cX7_deficit 23 = .ok (.iaload, 1) := by decide +kernel
theorem dX7_deficit_24 : decode cX7_deficit 24 = .ok (.istore 5, 2) := by decide +kernel
theorem dX7_deficit_26 : decode cX7_deficit 26 = .ok (.iload_n 0, 1) := by decide +kernel
theorem dX7_deficit_27 : decode cX7_deficit 27 = .ok (.iload 4, 2) := by decide +kernel
theorem dX7_deficit_29 : decode cX7_deficit 29 = .ok (.imul, 1) := by decide +kernel
theorem dX7_deficit_30 : decode cX7_deficit 30 = .ok (.iload_n 1, 1) := by decide +kernel
theorem dX7_deficit_31 : decode cX7_deficit 31 = .ok (.iload 5, 2) := by decide +kernel
theorem dX7_deficit_33 : decode cX7_deficit 33 = .ok (.imul, 1) := by decide +kernel
theorem dX7_deficit_34 : decode cX7_deficit 34 = .ok (.iadd, 1) := by decide +kernel
theorem dX7_deficit_35 : decode cX7_deficit 35 = .ok (.istore 6, 2) := by decide +kernel
theorem dX7_deficit_37 : decode cX7_deficit 37 = .ok (.iload 6, 2) := by decide +kernel
theorem dX7_deficit_39 : decode cX7_deficit 39 = .ok (.iconst 1, 1) := by decide +kernel
theorem dX7_deficit_40 : decode cX7_deficit 40 = .ok (.if_icmp .lt 10, 3) := by decide +kernel
theorem dX7_deficit_43 : decode cX7_deficit 43 = .ok (.iload 6, 2) := by decide +kernel
theorem dX7_deficit_45 : decode cX7_deficit 45 = .ok (.bipush 12, 2) := by decide +kernel
theorem dX7_deficit_47 : decode cX7_deficit 47 = .ok (.if_icmp .le 5, 3) := by decide +kernel
theorem dX7_deficit_50 : decode cX7_deficit 50 = .ok (.iconst 0, 1) := by decide +kernel
theorem dX7_deficit_51 : decode cX7_deficit 51 = .ok (.ireturn, 1) := by decide +kernel
theorem dX7_deficit_52 : decode cX7_deficit 52 = .ok (.iload_n 0, 1) := by decide +kernel
theorem dX7_deficit_53 : decode cX7_deficit 53 = .ok (.iload 5, 2) := by decide +kernel
theorem dX7_deficit_55 : decode cX7_deficit 55 = .ok (.imul, 1) := by decide +kernel
theorem dX7_deficit_56 : decode cX7_deficit 56 = .ok (.iload_n 1, 1) := by decide +kernel
theorem dX7_deficit_57 : decode cX7_deficit 57 = .ok (.iload 4, 2) := by decide +kernel
theorem dX7_deficit_59 : decode cX7_deficit 59 = .ok (.imul, 1) := by decide +kernel
theorem dX7_deficit_60 : decode cX7_deficit 60 = .ok (.isub, 1) := by decide +kernel
theorem dX7_deficit_61 : decode cX7_deficit 61 = .ok (.iload_n 2, 1) := by decide +kernel
theorem dX7_deficit_62 : decode cX7_deficit 62 = .ok (.isub, 1) := by decide +kernel
theorem dX7_deficit_63 : decode cX7_deficit 63 = .ok (.istore 7, 2) := by decide +kernel
theorem dX7_deficit_65 : decode cX7_deficit 65 = .ok (.iconst 1, 1) := by decide +kernel
theorem dX7_deficit_66 : decode cX7_deficit 66 = .ok (.iload 6, 2) := by decide +kernel
theorem dX7_deficit_68 : decode cX7_deficit 68 = .ok (.iconst 4, 1) := by decide +kernel
theorem dX7_deficit_69 : decode cX7_deficit 69 = .ok (.idiv, 1) := by decide +kernel
theorem dX7_deficit_70 : decode cX7_deficit 70 = .ok (.iadd, 1) := by decide +kernel
theorem dX7_deficit_71 : decode cX7_deficit 71 = .ok (.istore 8, 2) := by decide +kernel
theorem dX7_deficit_73 : decode cX7_deficit 73 = .ok (.iload 7, 2) := by decide +kernel
theorem dX7_deficit_75 : decode cX7_deficit 75 = .ok (.iload 8, 2) := by decide +kernel
theorem dX7_deficit_77 : decode cX7_deficit 77 = .ok (.ineg, 1) := by decide +kernel
theorem dX7_deficit_78 : decode cX7_deficit 78 = .ok (.if_icmp .lt 10, 3) := by decide +kernel
theorem dX7_deficit_81 : decode cX7_deficit 81 = .ok (.iload 7, 2) := by decide +kernel
theorem dX7_deficit_83 : decode cX7_deficit 83 = .ok (.iload 8, 2) := by decide +kernel
theorem dX7_deficit_85 : decode cX7_deficit 85 = .ok (.if_icmp .le 7, 3) := by decide +kernel
theorem dX7_deficit_88 : decode cX7_deficit 88 = .ok (.iconst 0, 1) := by decide +kernel
theorem dX7_deficit_89 : decode cX7_deficit 89 = .ok (.goto 10, 3) := by decide +kernel
theorem dX7_deficit_92 : decode cX7_deficit 92 = .ok (.bipush 42, 2) := by decide +kernel
theorem dX7_deficit_94 : decode cX7_deficit 94 = .ok (.iconst 3, 1) := by decide +kernel
theorem dX7_deficit_95 : decode cX7_deficit 95 = .ok (.iload 6, 2) := by decide +kernel
theorem dX7_deficit_97 : decode cX7_deficit 97 = .ok (.imul, 1) := by decide +kernel
theorem dX7_deficit_98 : decode cX7_deficit 98 = .ok (.isub, 1) := by decide +kernel
theorem dX7_deficit_99 : decode cX7_deficit 99 = .ok (.ireturn, 1) := by decide +kernel
theorem wgRX7_9 : Cond.fieldLinkNest RX7 9 "WakeBanks" "WIND_P" "[I" "WakeBanks" ∈ zNws := by decide +kernel
theorem wgRX7_13 : Cond.fieldLinkNest RX7 13 "WakeBanks" "WIND_Q" "[I" "WakeBanks" ∈ zNws := by decide +kernel
def fWa_deficit (a0 : Int32) (a1 : Int32) (a2 : Int32) (a3 : Int32)  : Option (Int32) :=
  if a3 < 0 then
  some (0 : Int32)
else
  if a3 < (8 : Int32) then
    zix a3 8 fun j1 =>
      zlet ((zk0.getD j1 0)) fun v2 =>
      zix a3 8 fun j3 =>
      zlet ((zk1.getD j3 0)) fun v4 =>
      zlet (((a0 * v2) + (a1 * v4))) fun v5 =>
      if v5 < (1 : Int32) then
      some (0 : Int32)
    else
      if v5 ≤ (12 : Int32) then
        zlet ((((a0 * v4) - (a1 * v2)) - a2)) fun v6 =>
          zlet (((1 : Int32) + (v5 / (4 : Int32)))) fun v7 =>
          if v6 < (-v7) then
          some (0 : Int32)
        else
          if v6 ≤ v7 then
            some ((42 : Int32) - ((3 : Int32) * v5))
          else
            some (0 : Int32)
      else
        some (0 : Int32)
  else
    some (0 : Int32)
set_option maxHeartbeats 4000000 in
set_option maxRecDepth 20000 in
theorem bfWa_deficit {X : zX} (F : zFr X cX7_deficit 9 RX7 (some .int)) (a0 : Int32) (a1 : Int32) (a2 : Int32) (a3 : Int32)   {κ : Int32 → Option zO} (hκ : ∀ a, κ a = some ((fun a => ((.inl ((fun q => some (zi q)) a), (fun _ => []) a) : zO)) a)) : zZ X [] 0 0 9 0 [some (zi a0), some (zi a1), some (zi a2), some (zi a3), none, none, none, none, none] [] [] (Option.bind (fWa_deficit a0 a1 a2 a3) κ) := by
  unfold fWa_deficit
  refine zz_iload_n F (i := 3) dX7_deficit_0 rfl rfl ?_
  refine zz_if_lt F (tgt := 10) dX7_deficit_1 (by decide) (fun h => zz_t h ?_) (fun h => zz_f h ?_)
  · refine zz_iconst F (v := (0 : Int32)) dX7_deficit_10 (by decide) ?_
    exact zz_ireturn F dX7_deficit_11 rfl (hκ _)
  · refine zz_iload_n F (i := 3) dX7_deficit_4 rfl rfl ?_
    refine zz_bipush F (v := (8 : Int32)) dX7_deficit_5 (by decide) ?_
    refine zz_icmp_lt F (tgt := 12) dX7_deficit_7 (by decide) (fun h => zz_t h ?_) (fun h => zz_f h ?_)
    · refine zz_getsN F (j := 0) (q := zst0) dX7_deficit_12 rfl wgRX7_9 ?_
      refine zz_iload_n F (i := 3) dX7_deficit_15 rfl rfl ?_
      refine zz_ix fun j1 hj1 hinj1 hej1 => zz_tld F (j := 0) (q := zst0) dX7_deficit_16 rfl rfl hinj1 hej1 ?_
      refine zz_istore F (i := 4) (L' := [some (zi a0), some (zi a1), some (zi a2), some (zi a3), some (zi (zk0.getD j1 0)), none, none, none, none]) dX7_deficit_17 (by decide) rfl rfl ?_
      refine zz_letl (Lf := fun v2 => [some (zi a0), some (zi a1), some (zi a2), some (zi a3), some (zi v2), none, none, none, none]) fun v2 => ?_
      refine zz_getsN F (j := 1) (q := zst1) dX7_deficit_19 rfl wgRX7_13 ?_
      refine zz_iload_n F (i := 3) dX7_deficit_22 rfl rfl ?_
      refine zz_ix fun j3 hj3 hinj3 hej3 => zz_tld F (j := 1) (q := zst1) dX7_deficit_23 rfl rfl hinj3 hej3 ?_
      refine zz_istore F (i := 5) (L' := [some (zi a0), some (zi a1), some (zi a2), some (zi a3), some (zi v2), some (zi (zk1.getD j3 0)), none, none, none]) dX7_deficit_24 (by decide) rfl rfl ?_
      refine zz_letl (Lf := fun v4 => [some (zi a0), some (zi a1), some (zi a2), some (zi a3), some (zi v2), some (zi v4), none, none, none]) fun v4 => ?_
      refine zz_iload_n F (i := 0) dX7_deficit_26 rfl rfl ?_
      refine zz_iload F (i := 4) dX7_deficit_27 rfl ?_
      refine zz_imul F dX7_deficit_29 ?_
      refine zz_iload_n F (i := 1) dX7_deficit_30 rfl rfl ?_
      refine zz_iload F (i := 5) dX7_deficit_31 rfl ?_
      refine zz_imul F dX7_deficit_33 ?_
      refine zz_iadd F dX7_deficit_34 ?_
      refine zz_istore F (i := 6) (L' := [some (zi a0), some (zi a1), some (zi a2), some (zi a3), some (zi v2), some (zi v4), some (zi ((a0 * v2) + (a1 * v4))), none, none]) dX7_deficit_35 (by decide) rfl rfl ?_
      refine zz_letl (Lf := fun v5 => [some (zi a0), some (zi a1), some (zi a2), some (zi a3), some (zi v2), some (zi v4), some (zi v5), none, none]) fun v5 => ?_
      refine zz_iload F (i := 6) dX7_deficit_37 rfl ?_
      refine zz_iconst F (v := (1 : Int32)) dX7_deficit_39 (by decide) ?_
      refine zz_icmp_lt F (tgt := 50) dX7_deficit_40 (by decide) (fun h => zz_t h ?_) (fun h => zz_f h ?_)
      · refine zz_iconst F (v := (0 : Int32)) dX7_deficit_50 (by decide) ?_
        exact zz_ireturn F dX7_deficit_51 rfl (hκ _)
      · refine zz_iload F (i := 6) dX7_deficit_43 rfl ?_
        refine zz_bipush F (v := (12 : Int32)) dX7_deficit_45 (by decide) ?_
        refine zz_icmp_le F (tgt := 52) dX7_deficit_47 (by decide) (fun h => zz_t h ?_) (fun h => zz_f h ?_)
        · refine zz_iload_n F (i := 0) dX7_deficit_52 rfl rfl ?_
          refine zz_iload F (i := 5) dX7_deficit_53 rfl ?_
          refine zz_imul F dX7_deficit_55 ?_
          refine zz_iload_n F (i := 1) dX7_deficit_56 rfl rfl ?_
          refine zz_iload F (i := 4) dX7_deficit_57 rfl ?_
          refine zz_imul F dX7_deficit_59 ?_
          refine zz_isub F dX7_deficit_60 ?_
          refine zz_iload_n F (i := 2) dX7_deficit_61 rfl rfl ?_
          refine zz_isub F dX7_deficit_62 ?_
          refine zz_istore F (i := 7) (L' := [some (zi a0), some (zi a1), some (zi a2), some (zi a3), some (zi v2), some (zi v4), some (zi v5), some (zi (((a0 * v4) - (a1 * v2)) - a2)), none]) dX7_deficit_63 (by decide) rfl rfl ?_
          refine zz_letl (Lf := fun v6 => [some (zi a0), some (zi a1), some (zi a2), some (zi a3), some (zi v2), some (zi v4), some (zi v5), some (zi v6), none]) fun v6 => ?_
          refine zz_iconst F (v := (1 : Int32)) dX7_deficit_65 (by decide) ?_
          refine zz_iload F (i := 6) dX7_deficit_66 rfl ?_
          refine zz_iconst F (v := (4 : Int32)) dX7_deficit_68 (by decide) ?_
          refine zz_idiv F dX7_deficit_69 (by decide) ?_
          refine zz_iadd F dX7_deficit_70 ?_
          refine zz_istore F (i := 8) (L' := [some (zi a0), some (zi a1), some (zi a2), some (zi a3), some (zi v2), some (zi v4), some (zi v5), some (zi v6), some (zi ((1 : Int32) + (v5 / (4 : Int32))))]) dX7_deficit_71 (by decide) rfl rfl ?_
          refine zz_letl (Lf := fun v7 => [some (zi a0), some (zi a1), some (zi a2), some (zi a3), some (zi v2), some (zi v4), some (zi v5), some (zi v6), some (zi v7)]) fun v7 => ?_
          refine zz_iload F (i := 7) dX7_deficit_73 rfl ?_
          refine zz_iload F (i := 8) dX7_deficit_75 rfl ?_
          refine zz_ineg F dX7_deficit_77 ?_
          refine zz_icmp_lt F (tgt := 88) dX7_deficit_78 (by decide) (fun h => zz_t h ?_) (fun h => zz_f h ?_)
          · refine zz_iconst F (v := (0 : Int32)) dX7_deficit_88 (by decide) ?_
            refine zz_goto F (tgt := 99) dX7_deficit_89 (by decide) ?_
            exact zz_ireturn F dX7_deficit_99 rfl (hκ _)
          · refine zz_iload F (i := 7) dX7_deficit_81 rfl ?_
            refine zz_iload F (i := 8) dX7_deficit_83 rfl ?_
            refine zz_icmp_le F (tgt := 92) dX7_deficit_85 (by decide) (fun h => zz_t h ?_) (fun h => zz_f h ?_)
            · refine zz_bipush F (v := (42 : Int32)) dX7_deficit_92 (by decide) ?_
              refine zz_iconst F (v := (3 : Int32)) dX7_deficit_94 (by decide) ?_
              refine zz_iload F (i := 6) dX7_deficit_95 rfl ?_
              refine zz_imul F dX7_deficit_97 ?_
              refine zz_isub F dX7_deficit_98 ?_
              exact zz_ireturn F dX7_deficit_99 rfl (hκ _)
            · refine zz_iconst F (v := (0 : Int32)) dX7_deficit_88 (by decide) ?_
              refine zz_goto F (tgt := 99) dX7_deficit_89 (by decide) ?_
              exact zz_ireturn F dX7_deficit_99 rfl (hκ _)
        · refine zz_iconst F (v := (0 : Int32)) dX7_deficit_50 (by decide) ?_
          exact zz_ireturn F dX7_deficit_51 rfl (hκ _)
    · refine zz_iconst F (v := (0 : Int32)) dX7_deficit_10 (by decide) ?_
      exact zz_ireturn F dX7_deficit_11 rfl (hκ _)
theorem zfWa_deficit (a0 : Int32) (a1 : Int32) (a2 : Int32) (a3 : Int32)   : ∀ a, fWa_deficit a0 a1 a2 a3 = some a → zMet yX7_deficit cX7_deficit 9 (some .int) 0 0 [] [zi a0, zi a1, zi a2, zi a3] [] ((fun a => ((.inl ((fun q => some (zi q)) a), (fun _ => []) a) : zO)) a) := fun a ha => zMet_of (L0 := [some (zi a0), some (zi a1), some (zi a2), some (zi a3), none, none, none, none, none]) (φ := Option.bind (fWa_deficit a0 a1 a2 a3) (fun a => some ((fun a => ((.inl ((fun q => some (zi q)) a), (fun _ => []) a) : zO)) a))) (by decide) (fun _ => Nat.le_of_ble_eq_true rfl) (zl0 5 rfl) (fun X F => bfWa_deficit F a0 a1 a2 a3 (fun _ => rfl)) (by rw [ha]; rfl)

theorem dX3_deficitBy_0 : decode cX3_deficitBy 0 = .ok (.aload_n 0, 1) := by decide +kernel
theorem dX3_deficitBy_1 : decode cX3_deficitBy 1 = .ok (.getfield 11, 3) := by decide +kernel
theorem dX3_deficitBy_4 : decode cX3_deficitBy 4 = .ok (.iload_n 1, 1) := by decide +kernel
theorem dX3_deficitBy_5 : decode cX3_deficitBy 5 = .ok (.aaload, 1) := by decide +kernel
theorem dX3_deficitBy_6 : decode cX3_deficitBy 6 = .ok (.astore_n 3, 1) := by decide +kernel
theorem dX3_deficitBy_7 : decode cX3_deficitBy 7 = .ok (.aload_n 0, 1) := by decide +kernel
theorem dX3_deficitBy_8 : decode cX3_deficitBy 8 = .ok (.getfield 11, 3) := by decide +kernel
theorem dX3_deficitBy_11 : decode cX3_deficitBy 11 = .ok (.iload_n 2, 1) := by decide +kernel
theorem dX3_deficitBy_12 : decode cX3_deficitBy 12 = .ok (.aaload, 1) := by decide +kernel
theorem dX3_deficitBy_13 : decode cX3_deficitBy 13 = .ok (.astore 4, 2) := by decide +kernel
theorem dX3_deficitBy_15 : decode cX3_deficitBy 15 = .ok (.iload_n 1, 1) := by decide +kernel
theorem dX3_deficitBy_16 : decode cX3_deficitBy 16 = .ok (.iload_n 2, 1) := by decide +kernel
theorem dX3_deficitBy_17 : decode cX3_deficitBy 17 = .ok (.if_icmp .eq 11, 3) := by decide +kernel
theorem dX3_deficitBy_20 : decode cX3_deficitBy 20 = .ok (.aload_n 3, 1) := by decide +kernel
theorem dX3_deficitBy_21 : decode cX3_deficitBy 21 = .ok (.getfield 99, 3) := by decide +kernel
theorem dX3_deficitBy_24 : decode cX3_deficitBy 24 = .ok (.iconst 2, 1) := by decide +kernel
theorem dX3_deficitBy_25 : decode cX3_deficitBy 25 = .ok (.if_icmp .eq 5, 3) := by decide +kernel
theorem dX3_deficitBy_28 : decode cX3_deficitBy 28 = .ok (.iconst 0, 1) := by decide +kernel
theorem dX3_deficitBy_29 : decode cX3_deficitBy 29 = .ok (.ireturn, 1) := by decide +kernel
theorem dX3_deficitBy_30 : decode cX3_deficitBy 30 = .ok (.aload 4, 2) := by decide +kernel
theorem dX3_deficitBy_32 : decode cX3_deficitBy 32 = .ok (.getfield 59, 3) := by decide +kernel
theorem dX3_deficitBy_35 : decode cX3_deficitBy 35 = .ok (.aload_n 3, 1) := by decide +kernel
theorem dX3_deficitBy_36 : decode cX3_deficitBy 36 = .ok (.getfield 59, 3) := by decide +kernel
theorem dX3_deficitBy_39 : decode cX3_deficitBy 39 = .ok (.isub, 1) := by decide +kernel
theorem dX3_deficitBy_40 : decode cX3_deficitBy 40 = .ok (.aload 4, 2) := by decide +kernel
theorem dX3_deficitBy_42 : decode cX3_deficitBy 42 = .ok (.getfield 62, 3) := by decide +kernel
theorem dX3_deficitBy_45 : decode cX3_deficitBy 45 = .ok (.aload_n 3, 1) := by decide +kernel
theorem dX3_deficitBy_46 : decode cX3_deficitBy 46 = .ok (.getfield 62, 3) := by decide +kernel
theorem dX3_deficitBy_49 : decode cX3_deficitBy 49 = .ok (.isub, 1) := by decide +kernel
theorem dX3_deficitBy_50 : decode cX3_deficitBy 50 = .ok (.aload_n 3, 1) := by decide +kernel
theorem dX3_deficitBy_51 : decode cX3_deficitBy 51 = .ok (.getfield 111, 3) := by decide +kernel
theorem dX3_deficitBy_54 : decode cX3_deficitBy 54 = .ok (.aload_n 0, 1) := by decide +kernel
theorem dX3_deficitBy_55 : decode cX3_deficitBy 55 = .ok (.getfield 32, 3) := by decide +kernel
theorem dX3_deficitBy_58 : decode cX3_deficitBy 58 = .ok (.getfield 114, 3) := by decide +kernel
theorem dX3_deficitBy_61 : decode cX3_deficitBy 61 = .ok (.invokestatic 117, 3) := by decide +kernel
theorem dX3_deficitBy_64 : decode cX3_deficitBy 64 = .ok (.ireturn, 1) := by decide +kernel
theorem wfRX3_99 : zFl RX3 99 5 3 := ⟨_, rfl, by decide, zm_f 172 (by decide +kernel) rfl⟩
theorem wfRX3_111 : zFl RX3 111 5 7 := ⟨_, rfl, by decide, zm_f 181 (by decide +kernel) rfl⟩
theorem wfRX3_32 : zFl RX3 32 3 3 := ⟨_, rfl, by decide, zm_f 286 (by decide +kernel) rfl⟩
theorem wfRX3_114 : zFl RX3 114 7 0 := ⟨_, rfl, by decide, zm_f 84 (by decide +kernel) rfl⟩
theorem wcRX3_117 : Cond.methodLink RX3 117 yX7_deficit ∈ zTg ∧ Cond.static yX7_deficit ∈ zTg ∧ Cond.initialized yX7_deficit.cls ∈ zTg ∧ Cond.code yX7_deficit cX7_deficit 9 (some .int) ∈ zTg := ⟨zm_f 528 (by decide +kernel) rfl, zm_f 366 (by decide +kernel) rfl, zm_f 55 (by decide +kernel) rfl, zm_f 367 (by decide +kernel) rfl⟩
theorem wy_yX7_deficit : yX7_deficit.cls ≠ "java/lang/invoke/MethodHandle" ∧ yX7_deficit.cls ≠ "java/lang/invoke/VarHandle" ∧ (parseMethodDescriptor yX7_deficit.desc).map (fun d => d.parameters.length) = some 4 := by decide +kernel
theorem rel4 : zRel [] [(0, [])] [] := by unfold zRel; decide
def fSe_deficitBy (a1 : Int32) (a2 : Int32) (s0 : zM) : Option (Int32) :=
  zix a1 8 fun j1 =>
  zix a2 8 fun j2 =>
  if a1 = a2 then
  some (0 : Int32)
else
  if (s0 7 j1 3) = (2 : Int32) then
    Option.bind (fWa_deficit ((s0 7 j2 0) - (s0 7 j1 0)) ((s0 7 j2 1) - (s0 7 j1 1)) (s0 7 j1 7) (s0 4 0 0)) fun q3 =>
      some q3
  else
    some (0 : Int32)
set_option maxHeartbeats 4000000 in
set_option maxRecDepth 20000 in
theorem bfSe_deficitBy {X : zX} (F : zFr X cX3_deficitBy 5 RX3 (some .int)) (a1 : Int32) (a2 : Int32)  (s0 : zM) {κ : Int32 → Option zO} (hκ : ∀ a, κ a = some ((fun a => ((.inl ((fun q => some (zi q)) a), (fun _ => [s0]) a) : zO)) a)) : zZ X [(0, [])] 1 28 5 0 [some (zr 0 0 0), some (zi a1), some (zi a2), none, none] [] [s0] (Option.bind (fSe_deficitBy a1 a2 s0) κ) := by
  unfold fSe_deficitBy
  refine zz_aload_n F (i := 0) dX3_deficitBy_0 rfl rfl ?_
  refine zz_getr F dX3_deficitBy_1 wfRX3_11 zCl_3 rfl (⟨zlb rfl, zlb rfl, zlb rfl⟩) rfl (by decide) rfl (r' := 0) (by decide) ?_
  refine zz_iload_n F (i := 1) dX3_deficitBy_4 rfl rfl ?_
  refine zz_ix fun j1 hj1 hinj1 hej1 => zz_aal F dX3_deficitBy_5 rfl (⟨zlb rfl, zlb rfl, zlb rfl⟩) rfl (by decide) rfl hinj1 hej1 rfl ?_
  refine zz_astore_n F (i := 3) (L' := [some (zr 0 0 0), some (zi a1), some (zi a2), some (zr 0 7 j1), none]) dX3_deficitBy_6 rfl (by decide) rfl rfl ?_
  refine zz_aload_n F (i := 0) dX3_deficitBy_7 rfl rfl ?_
  refine zz_getr F dX3_deficitBy_8 wfRX3_11 zCl_3 rfl (⟨zlb rfl, zlb rfl, zlb rfl⟩) rfl (by decide) rfl (r' := 0) (by decide) ?_
  refine zz_iload_n F (i := 2) dX3_deficitBy_11 rfl rfl ?_
  refine zz_ix fun j2 hj2 hinj2 hej2 => zz_aal F dX3_deficitBy_12 rfl (⟨zlb rfl, zlb rfl, zlb rfl⟩) rfl (by decide) rfl hinj2 hej2 rfl ?_
  refine zz_astore F (i := 4) (L' := [some (zr 0 0 0), some (zi a1), some (zi a2), some (zr 0 7 j1), some (zr 0 7 j2)]) dX3_deficitBy_13 (by decide) rfl rfl ?_
  refine zz_iload_n F (i := 1) dX3_deficitBy_15 rfl rfl ?_
  refine zz_iload_n F (i := 2) dX3_deficitBy_16 rfl rfl ?_
  refine zz_icmp_eq F (tgt := 28) dX3_deficitBy_17 (by decide) (fun h => zz_t h ?_) (fun h => zz_f h ?_)
  · refine zz_iconst F (v := (0 : Int32)) dX3_deficitBy_28 (by decide) ?_
    exact zz_ireturn F dX3_deficitBy_29 rfl (hκ _)
  · refine zz_aload_n F (i := 3) dX3_deficitBy_20 rfl rfl ?_
    refine zz_getf F dX3_deficitBy_21 wfRX3_99 zCl_5 rfl (⟨zlb rfl, zlb rfl, hj1⟩) rfl (by decide) rfl rfl ?_
    refine zz_iconst F (v := (2 : Int32)) dX3_deficitBy_24 (by decide) ?_
    refine zz_icmp_eq F (tgt := 30) dX3_deficitBy_25 (by decide) (fun h => zz_t h ?_) (fun h => zz_f h ?_)
    · refine zz_aload F (i := 4) dX3_deficitBy_30 rfl ?_
      refine zz_getf F dX3_deficitBy_32 wfRX3_59 zCl_5 rfl (⟨zlb rfl, zlb rfl, hj2⟩) rfl (by decide) rfl rfl ?_
      refine zz_aload_n F (i := 3) dX3_deficitBy_35 rfl rfl ?_
      refine zz_getf F dX3_deficitBy_36 wfRX3_59 zCl_5 rfl (⟨zlb rfl, zlb rfl, hj1⟩) rfl (by decide) rfl rfl ?_
      refine zz_isub F dX3_deficitBy_39 ?_
      refine zz_aload F (i := 4) dX3_deficitBy_40 rfl ?_
      refine zz_getf F dX3_deficitBy_42 wfRX3_62 zCl_5 rfl (⟨zlb rfl, zlb rfl, hj2⟩) rfl (by decide) rfl rfl ?_
      refine zz_aload_n F (i := 3) dX3_deficitBy_45 rfl rfl ?_
      refine zz_getf F dX3_deficitBy_46 wfRX3_62 zCl_5 rfl (⟨zlb rfl, zlb rfl, hj1⟩) rfl (by decide) rfl rfl ?_
      refine zz_isub F dX3_deficitBy_49 ?_
      refine zz_aload_n F (i := 3) dX3_deficitBy_50 rfl rfl ?_
      refine zz_getf F dX3_deficitBy_51 wfRX3_111 zCl_5 rfl (⟨zlb rfl, zlb rfl, hj1⟩) rfl (by decide) rfl rfl ?_
      refine zz_aload_n F (i := 0) dX3_deficitBy_54 rfl rfl ?_
      refine zz_getr F dX3_deficitBy_55 wfRX3_32 zCl_3 rfl (⟨zlb rfl, zlb rfl, zlb rfl⟩) rfl (by decide) rfl (r' := 0) (by decide) ?_
      refine zz_getf F dX3_deficitBy_58 wfRX3_114 zCl_7 rfl (⟨zlb rfl, zlb rfl, zlb rfl⟩) rfl (by decide) rfl rfl ?_
      refine zz_bind ?_
      refine zz_callSr F (ρ := []) (so := fun q3 => [zi q3]) (Mo := fun q3 => [s0]) (zfWa_deficit ((s0 7 j2 0) - (s0 7 j1 0)) ((s0 7 j2 1) - (s0 7 j1 1)) (s0 7 j1 7) (s0 4 0 0)) dX3_deficitBy_61 wcRX3_117 wy_yX7_deficit rfl ⟨rel4, rfl, rfl, Nat.le_of_ble_eq_true rfl, Nat.le_of_ble_eq_true rfl, Nat.le_of_ble_eq_true rfl⟩ rfl (fun _ => rfl) (fun _ => rfl) fun q3 => ?_
      exact zz_ireturn F dX3_deficitBy_64 rfl (hκ _)
    · refine zz_iconst F (v := (0 : Int32)) dX3_deficitBy_28 (by decide) ?_
      exact zz_ireturn F dX3_deficitBy_29 rfl (hκ _)
theorem zfSe_deficitBy (a1 : Int32) (a2 : Int32)  (s0 : zM) : ∀ a, fSe_deficitBy a1 a2 s0 = some a → zMet yX3_deficitBy cX3_deficitBy 5 (some .int) 1 28 [(0, [])] [zr 0 0 0, zi a1, zi a2] [s0] ((fun a => ((.inl ((fun q => some (zi q)) a), (fun _ => [s0]) a) : zO)) a) := fun a ha => zMet_of (L0 := [some (zr 0 0 0), some (zi a1), some (zi a2), none, none]) (φ := Option.bind (fSe_deficitBy a1 a2 s0) (fun a => some ((fun a => ((.inl ((fun q => some (zi q)) a), (fun _ => [s0]) a) : zO)) a))) (by decide) (fun _ => Nat.le_of_ble_eq_true rfl) (zl0 2 rfl) (fun X F => bfSe_deficitBy F a1 a2 s0 (fun _ => rfl)) (by rw [ha]; rfl)
end
section
theorem dX7_together_0 : decode cX7_together 0 = .ok (.bipush 60, 2) := by decide +kernel
theorem dX7_together_2 : decode cX7_together 2 = .ok (.iload_n 0, 1) := by decide +kernel
theorem dX7_together_3 : decode cX7_together 3 = .ok (.iload_n 1, 1) := by decide +kernel
theorem dX7_together_4 : decode cX7_together 4 = .ok (.iload_n 0, 1) := by decide +kernel
theorem dX7_together_5 : decode cX7_together 5 = .ok (.isub, 1) := by decide +kernel
theorem dX7_together_6 : decode cX7_together 6 = .ok (.iconst 2, 1) := by decide +kernel
theorem dX7_together_7 : decode cX7_together 7 = .ok (.idiv, 1) := by decide +kernel
theorem dX7_together_8 : decode cX7_together 8 = .ok (.iadd, 1) := by decide +kernel
theorem dX7_together_9 : decode cX7_together 9 = .ok (.invokestatic 16, 3) := by decide +kernel
theorem dX7_together_12 : decode cX7_together 12 = .ok (.ireturn, 1) := by decide +kernel
def fWa_together (a0 : Int32) (a1 : Int32)  : Option (Int32) :=
  some (zmin (60 : Int32) (a0 + ((a1 - a0) / (2 : Int32))))
set_option maxHeartbeats 4000000 in
set_option maxRecDepth 20000 in
theorem bfWa_together {X : zX} (F : zFr X cX7_together 2 RX7 (some .int)) (a0 : Int32) (a1 : Int32)   {κ : Int32 → Option zO} (hκ : ∀ a, κ a = some ((fun a => ((.inl ((fun q => some (zi q)) a), (fun _ => []) a) : zO)) a)) : zZ X [] 1 23 2 0 [some (zi a0), some (zi a1)] [] [] (Option.bind (fWa_together a0 a1) κ) := by
  unfold fWa_together
  refine zz_bipush F (v := (60 : Int32)) dX7_together_0 (by decide) ?_
  refine zz_iload_n F (i := 0) dX7_together_2 rfl rfl ?_
  refine zz_iload_n F (i := 1) dX7_together_3 rfl rfl ?_
  refine zz_iload_n F (i := 0) dX7_together_4 rfl rfl ?_
  refine zz_isub F dX7_together_5 ?_
  refine zz_iconst F (v := (2 : Int32)) dX7_together_6 (by decide) ?_
  refine zz_idiv F dX7_together_7 (by decide) ?_
  refine zz_iadd F dX7_together_8 ?_
  refine zz_min F dX7_together_9 wmRX7_16 wMath_min (Nat.le_of_ble_eq_true rfl) (Nat.le_of_ble_eq_true rfl) ?_
  exact zz_ireturn F dX7_together_12 rfl (hκ _)
theorem zfWa_together (a0 : Int32) (a1 : Int32)   : ∀ a, fWa_together a0 a1 = some a → zMet yX7_together cX7_together 2 (some .int) 1 23 [] [zi a0, zi a1] [] ((fun a => ((.inl ((fun q => some (zi q)) a), (fun _ => []) a) : zO)) a) := fun a ha => zMet_of (L0 := [some (zi a0), some (zi a1)]) (φ := Option.bind (fWa_together a0 a1) (fun a => some ((fun a => ((.inl ((fun q => some (zi q)) a), (fun _ => []) a) : zO)) a))) (by decide) (fun _ => Nat.le_of_ble_eq_true rfl) (zl0 0 rfl) (fun X F => bfWa_together F a0 a1 (fun _ => rfl)) (by rw [ha]; rfl)

theorem dX3_deficitOf_0 : decode cX3_deficitOf 0 = .ok (.iconst 0, 1) := by decide +kernel
theorem dX3_deficitOf_1 : decode cX3_deficitOf 1 = .ok (.istore_n 2, 1) := by decide +kernel
theorem dX3_deficitOf_2 : decode cX3_deficitOf 2 = .ok (.iconst 0, 1) := by decide +kernel
theorem dX3_deficitOf_3 : decode cX3_deficitOf 3 = .ok (.istore_n 3, 1) := by decide +kernel
theorem dX3_deficitOf_4 : decode cX3_deficitOf 4 = .ok (.iconst 0, 1) := by decide +kernel
theorem dX3_deficitOf_5 : decode cX3_deficitOf 5 = .ok (.istore 4, 2) := by decide +kernel
theorem dX3_deficitOf_7 : decode cX3_deficitOf 7 = .ok (.iload 4, 2) := by decide +kernel
theorem dX3_deficitOf_9 : decode cX3_deficitOf 9 = .ok (.aload_n 0, 1) := by decide +kernel
theorem dX3_deficitOf_10 : decode cX3_deficitOf 10 = .ok (.getfield 56, 3) := by decide +kernel
theorem dX3_deficitOf_13 : decode cX3_deficitOf 13 = .ok (.if_icmp .ge 30, 3) := by decide +kernel
theorem dX3_deficitOf_16 : decode cX3_deficitOf 16 = .ok (.aload_n 0, 1) := by decide +kernel
theorem dX3_deficitOf_17 : decode cX3_deficitOf 17 = .ok (.iload 4, 2) := by decide +kernel
theorem dX3_deficitOf_19 : decode cX3_deficitOf 19 = .ok (.iload_n 1, 1) := by decide +kernel
theorem dX3_deficitOf_20 : decode cX3_deficitOf 20 = .ok (.invokevirtual 123, 3) := by decide +kernel
theorem dX3_deficitOf_23 : decode cX3_deficitOf 23 = .ok (.istore 5, 2) := by decide +kernel
theorem dX3_deficitOf_25 : decode cX3_deficitOf 25 = .ok (.iload_n 2, 1) := by decide +kernel
theorem dX3_deficitOf_26 : decode cX3_deficitOf 26 = .ok (.iload 5, 2) := by decide +kernel
theorem dX3_deficitOf_28 : decode cX3_deficitOf 28 = .ok (.invokestatic 127, 3) := by decide +kernel
theorem dX3_deficitOf_31 : decode cX3_deficitOf 31 = .ok (.istore_n 2, 1) := by decide +kernel
theorem dX3_deficitOf_32 : decode cX3_deficitOf 32 = .ok (.iload_n 3, 1) := by decide +kernel
theorem dX3_deficitOf_33 : decode cX3_deficitOf 33 = .ok (.iload 5, 2) := by decide +kernel
theorem dX3_deficitOf_35 : decode cX3_deficitOf 35 = .ok (.iadd, 1) := by decide +kernel
theorem dX3_deficitOf_36 : decode cX3_deficitOf 36 = .ok (.istore_n 3, 1) := by decide +kernel
theorem dX3_deficitOf_37 : decode cX3_deficitOf 37 = .ok (.iinc 4 1, 3) := by decide +kernel
theorem dX3_deficitOf_40 : decode cX3_deficitOf 40 = .ok (.goto (-33), 3) := by decide +kernel
theorem dX3_deficitOf_43 : decode cX3_deficitOf 43 = .ok (.iload_n 2, 1) := by decide +kernel
theorem dX3_deficitOf_44 : decode cX3_deficitOf 44 = .ok (.iload_n 3, 1) := by decide +kernel
theorem dX3_deficitOf_45 : decode cX3_deficitOf 45 = .ok (.invokestatic 132, 3) := by decide +kernel
theorem dX3_deficitOf_48 : decode cX3_deficitOf 48 = .ok (.ireturn, 1) := by decide +kernel
theorem wcRX3_123 : Cond.methodLink RX3 123 yX3_deficitBy ∈ zTg ∧ Cond.instanceMethod yX3_deficitBy ∈ zTg ∧ Cond.selects RX3 yX3_deficitBy yX3_deficitBy ∈ zTg ∧ Cond.initialized RX3 ∈ zTg ∧ Cond.code yX3_deficitBy cX3_deficitBy 5 (some .int) ∈ zTg := ⟨zm_f 524 (by decide +kernel) rfl, zm_f 525 (by decide +kernel) rfl, zm_f 526 (by decide +kernel) rfl, zm_f 38 (by decide +kernel) rfl, zm_f 527 (by decide +kernel) rfl⟩
theorem wy_yX3_deficitBy : yX3_deficitBy.cls = RX3 ∧ yX3_deficitBy.cls ≠ "java/lang/invoke/MethodHandle" ∧ yX3_deficitBy.cls ≠ "java/lang/invoke/VarHandle" ∧ (parseMethodDescriptor yX3_deficitBy.desc).map (fun d => d.parameters.length) = some 2 := by decide +kernel
theorem wmRX3_127 : Cond.methodLink RX3 127 Lib.Math.max.name ∈ zTg := zm_f 529 (by decide +kernel) rfl
theorem wMath_max : Cond.static Lib.Math.max.name ∈ zTg ∧ Cond.initialized "java/lang/Math" ∈ zTg ∧ Cond.code Lib.Math.max.name Lib.Math.max.code 2 (some .int) ∈ zTg := ⟨zm_f 373 (by decide +kernel) rfl, zm_f 56 (by decide +kernel) rfl, zm_f 374 (by decide +kernel) rfl⟩
theorem wcRX3_132 : Cond.methodLink RX3 132 yX7_together ∈ zTg ∧ Cond.static yX7_together ∈ zTg ∧ Cond.initialized yX7_together.cls ∈ zTg ∧ Cond.code yX7_together cX7_together 2 (some .int) ∈ zTg := ⟨zm_f 530 (by decide +kernel) rfl, zm_f 387 (by decide +kernel) rfl, zm_f 55 (by decide +kernel) rfl, zm_f 388 (by decide +kernel) rfl⟩
theorem wy_yX7_together : yX7_together.cls ≠ "java/lang/invoke/MethodHandle" ∧ yX7_together.cls ≠ "java/lang/invoke/VarHandle" ∧ (parseMethodDescriptor yX7_together.desc).map (fun d => d.parameters.length) = some 2 := by decide +kernel
def fSe_deficitOf_l7 (a1 : Int32) (s0 : zM) (q1 : Int32 × Int32 × Int32) : Option ((Int32 × Int32 × Int32) ⊕ ((Int32 × Int32))) :=
  if (s0 0 0 5) ≤ q1.2.2 then
  some (.inr (q1.1, q1.2.1))
else
  Option.bind (fSe_deficitBy q1.2.2 a1 s0) fun q3 =>
    zlet ((zmax q1.1 q3)) fun v4 =>
    zlet ((q1.2.1 + q3)) fun v5 =>
    zlet (q1.2.2 + 1) fun v6 =>
    some (.inl (v4, v5, v6))
def fSe_deficitOf (a1 : Int32) (s0 : zM) : Option (Int32) :=
  Option.bind (ziter (fSe_deficitOf_l7 a1 s0) 1000 ((0 : Int32), (0 : Int32), (0 : Int32))) fun q2 =>
  Option.bind (fWa_together q2.1 q2.2) fun q7 =>
  some q7
set_option maxHeartbeats 4000000 in
set_option maxRecDepth 20000 in
theorem bfSe_deficitOf_l7 {X : zX} (F : zFr X cX3_deficitOf 6 RX3 (some .int)) (a1 : Int32) (s0 : zM)  {ψ : (Int32 × Int32 × Int32) ⊕ ((Int32 × Int32)) → Option zO} (h1 : ∀ q1 : Int32 × Int32 × Int32, zZ X [(0, [])] 2 52 6 7 [some (zr 0 0 0), some (zi a1), some (zi q1.1), some (zi q1.2.1), some (zi q1.2.2), none] [] [s0] (ψ (.inl q1))) (h2 : ∀ q2 : Int32 × Int32, zZ X [(0, [])] 2 52 6 43 [none, none, some (zi q2.1), some (zi q2.2), none, none] [] [s0] (ψ (.inr q2))) (q1 : Int32 × Int32 × Int32) : zZ X [(0, [])] 2 52 6 7 [some (zr 0 0 0), some (zi a1), some (zi q1.1), some (zi q1.2.1), some (zi q1.2.2), none] [] [s0] (Option.bind (fSe_deficitOf_l7 a1 s0 q1) ψ) := by
  unfold fSe_deficitOf_l7
  refine zz_iload F (i := 4) dX3_deficitOf_7 rfl ?_
  refine zz_aload_n F (i := 0) dX3_deficitOf_9 rfl rfl ?_
  refine zz_getf F dX3_deficitOf_10 wfRX3_56 zCl_3 rfl (⟨zlb rfl, zlb rfl, zlb rfl⟩) rfl (by decide) rfl rfl ?_
  refine zz_icmp_ge F (tgt := 43) dX3_deficitOf_13 (by decide) (fun h => zz_t h ?_) (fun h => zz_f h ?_)
  · exact zz_sub (zs_n (zs_n (zs_k (zs_k (zs_n (zs_k zs_z)))))) (h2 (q1.1, q1.2.1))
  · refine zz_aload_n F (i := 0) dX3_deficitOf_16 rfl rfl ?_
    refine zz_iload F (i := 4) dX3_deficitOf_17 rfl ?_
    refine zz_iload_n F (i := 1) dX3_deficitOf_19 rfl rfl ?_
    refine zz_bind ?_
    refine zz_callVr F (ρ := [0]) (so := fun q3 => [zi q3]) (Mo := fun q3 => [s0]) (zfSe_deficitBy q1.2.2 a1 s0) dX3_deficitOf_20 wcRX3_123 wy_yX3_deficitBy rfl ⟨rel3, rfl, rfl, Nat.le_of_ble_eq_true rfl, Nat.le_of_ble_eq_true rfl, Nat.le_of_ble_eq_true rfl⟩ (⟨zlb rfl, zlb rfl, zlb rfl⟩) rfl rfl rfl (fun _ => rfl) (fun _ => rfl) fun q3 => ?_
    refine zz_istore F (i := 5) (L' := [some (zr 0 0 0), some (zi a1), some (zi q1.1), some (zi q1.2.1), some (zi q1.2.2), some (zi q3)]) dX3_deficitOf_23 (by decide) rfl rfl ?_
    refine zz_iload_n F (i := 2) dX3_deficitOf_25 rfl rfl ?_
    refine zz_iload F (i := 5) dX3_deficitOf_26 rfl ?_
    refine zz_max F dX3_deficitOf_28 wmRX3_127 wMath_max (Nat.le_of_ble_eq_true rfl) (Nat.le_of_ble_eq_true rfl) ?_
    refine zz_istore_n F (i := 2) (L' := [some (zr 0 0 0), some (zi a1), some (zi (zmax q1.1 q3)), some (zi q1.2.1), some (zi q1.2.2), some (zi q3)]) dX3_deficitOf_31 rfl (by decide) rfl rfl ?_
    refine zz_letl (Lf := fun v4 => [some (zr 0 0 0), some (zi a1), some (zi v4), some (zi q1.2.1), some (zi q1.2.2), some (zi q3)]) fun v4 => ?_
    refine zz_iload_n F (i := 3) dX3_deficitOf_32 rfl rfl ?_
    refine zz_iload F (i := 5) dX3_deficitOf_33 rfl ?_
    refine zz_iadd F dX3_deficitOf_35 ?_
    refine zz_istore_n F (i := 3) (L' := [some (zr 0 0 0), some (zi a1), some (zi v4), some (zi (q1.2.1 + q3)), some (zi q1.2.2), some (zi q3)]) dX3_deficitOf_36 rfl (by decide) rfl rfl ?_
    refine zz_letl (Lf := fun v5 => [some (zr 0 0 0), some (zi a1), some (zi v4), some (zi v5), some (zi q1.2.2), some (zi q3)]) fun v5 => ?_
    refine zz_iinc F (i := 4) (v := q1.2.2 + 1) (L' := [some (zr 0 0 0), some (zi a1), some (zi v4), some (zi v5), some (zi (q1.2.2 + 1)), some (zi q3)]) dX3_deficitOf_37 rfl (by first | rfl | decide) (by decide) rfl rfl ?_
    refine zz_letl (Lf := fun v6 => [some (zr 0 0 0), some (zi a1), some (zi v4), some (zi v5), some (zi v6), some (zi q3)]) fun v6 => ?_
    refine zz_goto F (tgt := 7) dX3_deficitOf_40 (by decide) ?_
    exact zz_sub (zs_k (zs_k (zs_k (zs_k (zs_k (zs_n zs_z)))))) (h1 (v4, v5, v6))
set_option maxHeartbeats 4000000 in
set_option maxRecDepth 20000 in
theorem bfSe_deficitOf {X : zX} (F : zFr X cX3_deficitOf 6 RX3 (some .int)) (a1 : Int32)  (s0 : zM) {κ : Int32 → Option zO} (hκ : ∀ a, κ a = some ((fun a => ((.inl ((fun q => some (zi q)) a), (fun _ => [s0]) a) : zO)) a)) : zZ X [(0, [])] 2 52 6 0 [some (zr 0 0 0), some (zi a1), none, none, none, none] [] [s0] (Option.bind (fSe_deficitOf a1 s0) κ) := by
  unfold fSe_deficitOf
  refine zz_iconst F (v := (0 : Int32)) dX3_deficitOf_0 (by decide) ?_
  refine zz_istore_n F (i := 2) (L' := [some (zr 0 0 0), some (zi a1), some (zi (0 : Int32)), none, none, none]) dX3_deficitOf_1 rfl (by decide) rfl rfl ?_
  refine zz_iconst F (v := (0 : Int32)) dX3_deficitOf_2 (by decide) ?_
  refine zz_istore_n F (i := 3) (L' := [some (zr 0 0 0), some (zi a1), some (zi (0 : Int32)), some (zi (0 : Int32)), none, none]) dX3_deficitOf_3 rfl (by decide) rfl rfl ?_
  refine zz_iconst F (v := (0 : Int32)) dX3_deficitOf_4 (by decide) ?_
  refine zz_istore F (i := 4) (L' := [some (zr 0 0 0), some (zi a1), some (zi (0 : Int32)), some (zi (0 : Int32)), some (zi (0 : Int32)), none]) dX3_deficitOf_5 (by decide) rfl rfl ?_
  refine zz_sub (zs_k (zs_k (zs_k (zs_k (zs_k (zs_k zs_z)))))) ?_
  refine zz_bind ?_
  refine zz_iter (Lf := fun q1 => [some (zr 0 0 0), some (zi a1), some (zi q1.1), some (zi q1.2.1), some (zi q1.2.2), none]) (Mf := fun q1 => [s0]) (fun q1 ψ h1 h2 => bfSe_deficitOf_l7 F a1 s0  h1 (fun q2 => ?_)  q1) 1000 ((0 : Int32), (0 : Int32), (0 : Int32))
  rw [h2]
  refine zz_iload_n F (i := 2) dX3_deficitOf_43 rfl rfl ?_
  refine zz_iload_n F (i := 3) dX3_deficitOf_44 rfl rfl ?_
  refine zz_bind ?_
  refine zz_callSr F (ρ := []) (so := fun q7 => [zi q7]) (Mo := fun q7 => [s0]) (zfWa_together q2.1 q2.2) dX3_deficitOf_45 wcRX3_132 wy_yX7_together rfl ⟨rel4, rfl, rfl, Nat.le_of_ble_eq_true rfl, Nat.le_of_ble_eq_true rfl, Nat.le_of_ble_eq_true rfl⟩ rfl (fun _ => rfl) (fun _ => rfl) fun q7 => ?_
  exact zz_ireturn F dX3_deficitOf_48 rfl (hκ _)
theorem zfSe_deficitOf (a1 : Int32)  (s0 : zM) : ∀ a, fSe_deficitOf a1 s0 = some a → zMet yX3_deficitOf cX3_deficitOf 6 (some .int) 2 52 [(0, [])] [zr 0 0 0, zi a1] [s0] ((fun a => ((.inl ((fun q => some (zi q)) a), (fun _ => [s0]) a) : zO)) a) := fun a ha => zMet_of (L0 := [some (zr 0 0 0), some (zi a1), none, none, none, none]) (φ := Option.bind (fSe_deficitOf a1 s0) (fun a => some ((fun a => ((.inl ((fun q => some (zi q)) a), (fun _ => [s0]) a) : zO)) a))) (by decide) (fun _ => Nat.le_of_ble_eq_true rfl) (zl0 4 rfl) (fun X F => bfSe_deficitOf F a1 s0 (fun _ => rfl)) (by rw [ha]; rfl)

theorem dX7_wind_0 : decode cX7_wind 0 = .ok (.iload_n 0, 1) := by decide +kernel
theorem dX7_wind_1 : decode cX7_wind 1 = .ok (.bipush 100, 2) := by decide +kernel
theorem dX7_wind_3 : decode cX7_wind 3 = .ok (.iload_n 1, 1) := by decide +kernel
theorem dX7_wind_4 : decode cX7_wind 4 = .ok (.isub, 1) := by decide +kernel
theorem dX7_wind_5 : decode cX7_wind 5 = .ok (.imul, 1) := by decide +kernel
theorem dX7_wind_6 : decode cX7_wind 6 = .ok (.bipush 100, 2) := by decide +kernel
theorem dX7_wind_8 : decode cX7_wind 8 = .ok (.idiv, 1) := by decide +kernel
theorem dX7_wind_9 : decode cX7_wind 9 = .ok (.ireturn, 1) := by decide +kernel
def fWa_wind (a0 : Int32) (a1 : Int32)  : Option (Int32) :=
  some ((a0 * ((100 : Int32) - a1)) / (100 : Int32))
set_option maxHeartbeats 4000000 in
set_option maxRecDepth 20000 in
theorem bfWa_wind {X : zX} (F : zFr X cX7_wind 2 RX7 (some .int)) (a0 : Int32) (a1 : Int32)   {κ : Int32 → Option zO} (hκ : ∀ a, κ a = some ((fun a => ((.inl ((fun q => some (zi q)) a), (fun _ => []) a) : zO)) a)) : zZ X [] 0 0 2 0 [some (zi a0), some (zi a1)] [] [] (Option.bind (fWa_wind a0 a1) κ) := by
  unfold fWa_wind
  refine zz_iload_n F (i := 0) dX7_wind_0 rfl rfl ?_
  refine zz_bipush F (v := (100 : Int32)) dX7_wind_1 (by decide) ?_
  refine zz_iload_n F (i := 1) dX7_wind_3 rfl rfl ?_
  refine zz_isub F dX7_wind_4 ?_
  refine zz_imul F dX7_wind_5 ?_
  refine zz_bipush F (v := (100 : Int32)) dX7_wind_6 (by decide) ?_
  refine zz_idiv F dX7_wind_8 (by decide) ?_
  exact zz_ireturn F dX7_wind_9 rfl (hκ _)
theorem zfWa_wind (a0 : Int32) (a1 : Int32)   : ∀ a, fWa_wind a0 a1 = some a → zMet yX7_wind cX7_wind 2 (some .int) 0 0 [] [zi a0, zi a1] [] ((fun a => ((.inl ((fun q => some (zi q)) a), (fun _ => []) a) : zO)) a) := fun a ha => zMet_of (L0 := [some (zi a0), some (zi a1)]) (φ := Option.bind (fWa_wind a0 a1) (fun a => some ((fun a => ((.inl ((fun q => some (zi q)) a), (fun _ => []) a) : zO)) a))) (by decide) (fun _ => Nat.le_of_ble_eq_true rfl) (zl0 0 rfl) (fun X F => bfWa_wind F a0 a1 (fun _ => rfl)) (by rw [ha]; rfl)

theorem dX5_lose_0 : decode cX5_lose 0 = .ok (.aload_n 0, 1) := by decide +kernel
theorem dX5_lose_1 : decode cX5_lose 1 = .ok (.dup, 1) := by decide +kernel
theorem dX5_lose_2 : decode cX5_lose 2 = .ok (.getfield 56, 3) := by decide +kernel
theorem dX5_lose_5 : decode cX5_lose 5 = .ok (.iload_n 1, 1) := by decide +kernel
theorem dX5_lose_6 : decode cX5_lose 6 = .ok (.isub, 1) := by decide +kernel
theorem dX5_lose_7 : decode cX5_lose 7 = .ok (.putfield 56, 3) := by decide +kernel
theorem dX5_lose_10 : decode cX5_lose 10 = .ok (.iload_n 2, 1) := by decide +kernel
theorem dX5_lose_11 : decode cX5_lose 11 = .ok (.ifCond .lt 19, 3) := by decide +kernel
theorem dX5_lose_14 : decode cX5_lose 14 = .ok (.iload_n 2, 1) := by decide +kernel
theorem dX5_lose_15 : decode cX5_lose 15 = .ok (.bipush 8, 2) := by decide +kernel
theorem dX5_lose_17 : decode cX5_lose 17 = .ok (.if_icmp .ge 13, 3) := by decide +kernel
theorem dX5_lose_20 : decode cX5_lose 20 = .ok (.aload_n 0, 1) := by decide +kernel
theorem dX5_lose_21 : decode cX5_lose 21 = .ok (.getfield 28, 3) := by decide +kernel
theorem dX5_lose_24 : decode cX5_lose 24 = .ok (.iload_n 2, 1) := by decide +kernel
theorem dX5_lose_25 : decode cX5_lose 25 = .ok (.dup2, 1) := by decide +kernel
theorem dX5_lose_26 : decode cX5_lose 26 = .ok (.iaload, 1) := by decide +kernel
theorem dX5_lose_27 : decode cX5_lose 27 = .ok (.iload_n 1, 1) := by decide +kernel
theorem dX5_lose_28 : decode cX5_lose 28 = .ok (.iadd, 1) := by decide +kernel
theorem dX5_lose_29 : decode cX5_lose 29 = .ok (.iastore, 1) := by decide +kernel
theorem dX5_lose_30 : decode cX5_lose 30 = .ok (.return_, 1) := by decide +kernel
theorem wfRX5_56 : zFl RX5 56 5 10 := ⟨_, rfl, by decide, zm_f 185 (by decide +kernel) rfl⟩
theorem wpRX5_56 : zFw RX5 56 5 10 .int := ⟨_, rfl, by decide, zm_f 185 (by decide +kernel) rfl, rfl, by decide +kernel⟩
theorem wfRX5_28 : zFl RX5 28 5 12 := ⟨_, rfl, by decide, zm_f 191 (by decide +kernel) rfl⟩
def fTu_lose (i : Nat) (a1 : Int32) (a2 : Int32) (s0 : zM) : Option (zM) :=
  zlet (zu s0 7 i 10 ((s0 7 i 10) - a1)) fun s0_1 =>
  if a2 < 0 then
  some s0_1
else
  if (8 : Int32) ≤ a2 then
    some s0_1
  else
    zix a2 8 fun j2 =>
      zix a2 8 fun j3 =>
      zlet (zu s0_1 9 i j3 ((s0_1 9 i j2) + a1)) fun s0_4 =>
      some s0_4
set_option maxHeartbeats 4000000 in
set_option maxRecDepth 20000 in
theorem bfTu_lose {X : zX} (F : zFr X cX5_lose 3 RX5 none) (i : Nat) (a1 : Int32) (a2 : Int32) (hi : i < 8) (s0 : zM) {κ : zM → Option zO} (hκ : ∀ a, κ a = some ((fun a => ((.inl ((fun _ => (none : Option zV)) a), (fun q => [q]) a) : zO)) a)) : zZ X [(0, [])] 0 0 3 0 [some (zr 0 7 i), some (zi a1), some (zi a2)] [] [s0] (Option.bind (fTu_lose i a1 a2 s0) κ) := by
  unfold fTu_lose
  refine zz_aload_n F (i := 0) dX5_lose_0 rfl rfl ?_
  refine zz_dup F dX5_lose_1 rfl ?_
  refine zz_getf F dX5_lose_2 wfRX5_56 zCl_5 rfl (⟨zlb rfl, zlb rfl, hi⟩) rfl (by decide) rfl rfl ?_
  refine zz_iload_n F (i := 1) dX5_lose_5 rfl rfl ?_
  refine zz_isub F dX5_lose_6 ?_
  refine zz_put F (Ms' := [(zu s0 7 i 10 ((s0 7 i 10) - a1))]) dX5_lose_7 wpRX5_56 zCl_5 rfl (⟨zlb rfl, zlb rfl, hi⟩) rfl (by decide) rfl rfl rfl ?_
  refine zz_letm (Mf := fun s0_1 => [s0_1]) fun s0_1 => ?_
  refine zz_iload_n F (i := 2) dX5_lose_10 rfl rfl ?_
  refine zz_if_lt F (tgt := 30) dX5_lose_11 (by decide) (fun h => zz_t h ?_) (fun h => zz_f h ?_)
  · exact zz_return F dX5_lose_30 rfl (hκ _)
  · refine zz_iload_n F (i := 2) dX5_lose_14 rfl rfl ?_
    refine zz_bipush F (v := (8 : Int32)) dX5_lose_15 (by decide) ?_
    refine zz_icmp_ge F (tgt := 30) dX5_lose_17 (by decide) (fun h => zz_t h ?_) (fun h => zz_f h ?_)
    · exact zz_return F dX5_lose_30 rfl (hκ _)
    · refine zz_aload_n F (i := 0) dX5_lose_20 rfl rfl ?_
      refine zz_getr F dX5_lose_21 wfRX5_28 zCl_5 rfl (⟨zlb rfl, zlb rfl, hi⟩) rfl (by decide) rfl (r' := 0) (by decide) ?_
      refine zz_iload_n F (i := 2) dX5_lose_24 rfl rfl ?_
      refine zz_dup2 F dX5_lose_25 rfl rfl ?_
      refine zz_ix fun j2 hj2 hinj2 hej2 => zz_ial F dX5_lose_26 rfl (⟨zlb rfl, zlb rfl, hi⟩) rfl hinj2 hej2 ?_
      refine zz_iload_n F (i := 1) dX5_lose_27 rfl rfl ?_
      refine zz_iadd F dX5_lose_28 ?_
      refine zz_ix fun j3 hj3 hinj3 hej3 => zz_ias F (Ms' := [(zu s0_1 9 i j3 ((s0_1 9 i j2) + a1))]) dX5_lose_29 rfl (⟨zlb rfl, zlb rfl, hi⟩) rfl hinj3 hej3 rfl ?_
      refine zz_letm (Mf := fun s0_4 => [s0_4]) fun s0_4 => ?_
      exact zz_return F dX5_lose_30 rfl (hκ _)
theorem zfTu_lose (i : Nat) (a1 : Int32) (a2 : Int32) (hi : i < 8) (s0 : zM) : ∀ a, fTu_lose i a1 a2 s0 = some a → zMet yX5_lose cX5_lose 3 none 0 0 [(0, [])] [zr 0 7 i, zi a1, zi a2] [s0] ((fun a => ((.inl ((fun _ => (none : Option zV)) a), (fun q => [q]) a) : zO)) a) := fun a ha => zMet_of (L0 := [some (zr 0 7 i), some (zi a1), some (zi a2)]) (φ := Option.bind (fTu_lose i a1 a2 s0) (fun a => some ((fun a => ((.inl ((fun _ => (none : Option zV)) a), (fun q => [q]) a) : zO)) a))) (by decide) (fun _ => Nat.le_of_ble_eq_true rfl) (zl0 0 rfl) (fun X F => bfTu_lose F i a1 a2 hi s0 (fun _ => rfl)) (by rw [ha]; rfl)

theorem dX5_causeOfStanding_0 : decode cX5_causeOfStanding 0 = .ok (.aload_n 0, 1) := by decide +kernel
theorem dX5_causeOfStanding_1 : decode cX5_causeOfStanding 1 = .ok (.getfield 9, 3) := by decide +kernel
theorem dX5_causeOfStanding_4 : decode cX5_causeOfStanding 4 = .ok (.iconst 3, 1) := by decide +kernel
theorem dX5_causeOfStanding_5 : decode cX5_causeOfStanding 5 = .ok (.if_icmp .ne 5, 3) := by decide +kernel
theorem dX5_causeOfStanding_8 : decode cX5_causeOfStanding 8 = .ok (.iconst 2, 1) := by decide +kernel
theorem dX5_causeOfStanding_9 : decode cX5_causeOfStanding 9 = .ok (.ireturn, 1) := by decide +kernel
theorem dX5_causeOfStanding_10 : decode cX5_causeOfStanding 10 = .ok (.aload_n 0, 1) := by decide +kernel
theorem dX5_causeOfStanding_11 : decode cX5_causeOfStanding 11 = .ok (.getfield 9, 3) := by decide +kernel
theorem dX5_causeOfStanding_14 : decode cX5_causeOfStanding 14 = .ok (.iconst 4, 1) := by decide +kernel
theorem dX5_causeOfStanding_15 : decode cX5_causeOfStanding 15 = .ok (.if_icmp .ne 5, 3) := by decide +kernel
theorem dX5_causeOfStanding_18 : decode cX5_causeOfStanding 18 = .ok (.iconst 3, 1) := by decide +kernel
theorem dX5_causeOfStanding_19 : decode cX5_causeOfStanding 19 = .ok (.ireturn, 1) := by decide +kernel
theorem dX5_causeOfStanding_20 : decode cX5_causeOfStanding 20 = .ok (.aload_n 0, 1) := by decide +kernel
theorem dX5_causeOfStanding_21 : decode cX5_causeOfStanding 21 = .ok (.getfield 15, 3) := by decide +kernel
theorem dX5_causeOfStanding_24 : decode cX5_causeOfStanding 24 = .ok (.ifCond .ne 7, 3) := by decide +kernel
theorem dX5_causeOfStanding_27 : decode cX5_causeOfStanding 27 = .ok (.iconst 1, 1) := by decide +kernel
theorem dX5_causeOfStanding_28 : decode cX5_causeOfStanding 28 = .ok (.goto 4, 3) := by decide +kernel
theorem dX5_causeOfStanding_31 : decode cX5_causeOfStanding 31 = .ok (.iconst 4, 1) := by decide +kernel
theorem dX5_causeOfStanding_32 : decode cX5_causeOfStanding 32 = .ok (.ireturn, 1) := by decide +kernel
def fTu_causeOfStanding (i : Nat) (s0 : zM) : Option (Int32) :=
  if (s0 7 i 3) = (3 : Int32) then
  some (2 : Int32)
else
  if (s0 7 i 3) = (4 : Int32) then
    some (3 : Int32)
  else
    if (s0 7 i 4) = 0 then
      some (1 : Int32)
    else
      some (4 : Int32)
set_option maxHeartbeats 4000000 in
set_option maxRecDepth 20000 in
theorem bfTu_causeOfStanding {X : zX} (F : zFr X cX5_causeOfStanding 1 RX5 (some .int)) (i : Nat) (hi : i < 8) (s0 : zM) {κ : Int32 → Option zO} (hκ : ∀ a, κ a = some ((fun a => ((.inl ((fun q => some (zi q)) a), (fun _ => [s0]) a) : zO)) a)) : zZ X [(0, [])] 0 0 1 0 [some (zr 0 7 i)] [] [s0] (Option.bind (fTu_causeOfStanding i s0) κ) := by
  unfold fTu_causeOfStanding
  refine zz_aload_n F (i := 0) dX5_causeOfStanding_0 rfl rfl ?_
  refine zz_getf F dX5_causeOfStanding_1 wfRX5_9 zCl_5 rfl (⟨zlb rfl, zlb rfl, hi⟩) rfl (by decide) rfl rfl ?_
  refine zz_iconst F (v := (3 : Int32)) dX5_causeOfStanding_4 (by decide) ?_
  refine zz_icmp_ne F (tgt := 10) dX5_causeOfStanding_5 (by decide) (fun h => zz_f h ?_) (fun h => zz_t h ?_)
  · refine zz_aload_n F (i := 0) dX5_causeOfStanding_10 rfl rfl ?_
    refine zz_getf F dX5_causeOfStanding_11 wfRX5_9 zCl_5 rfl (⟨zlb rfl, zlb rfl, hi⟩) rfl (by decide) rfl rfl ?_
    refine zz_iconst F (v := (4 : Int32)) dX5_causeOfStanding_14 (by decide) ?_
    refine zz_icmp_ne F (tgt := 20) dX5_causeOfStanding_15 (by decide) (fun h => zz_f h ?_) (fun h => zz_t h ?_)
    · refine zz_aload_n F (i := 0) dX5_causeOfStanding_20 rfl rfl ?_
      refine zz_getf F dX5_causeOfStanding_21 wfRX5_15 zCl_5 rfl (⟨zlb rfl, zlb rfl, hi⟩) rfl (by decide) rfl rfl ?_
      refine zz_if_ne F (tgt := 31) dX5_causeOfStanding_24 (by decide) (fun h => zz_f h ?_) (fun h => zz_t h ?_)
      · refine zz_iconst F (v := (4 : Int32)) dX5_causeOfStanding_31 (by decide) ?_
        exact zz_ireturn F dX5_causeOfStanding_32 rfl (hκ _)
      · refine zz_iconst F (v := (1 : Int32)) dX5_causeOfStanding_27 (by decide) ?_
        refine zz_goto F (tgt := 32) dX5_causeOfStanding_28 (by decide) ?_
        exact zz_ireturn F dX5_causeOfStanding_32 rfl (hκ _)
    · refine zz_iconst F (v := (3 : Int32)) dX5_causeOfStanding_18 (by decide) ?_
      exact zz_ireturn F dX5_causeOfStanding_19 rfl (hκ _)
  · refine zz_iconst F (v := (2 : Int32)) dX5_causeOfStanding_8 (by decide) ?_
    exact zz_ireturn F dX5_causeOfStanding_9 rfl (hκ _)
theorem zfTu_causeOfStanding (i : Nat) (hi : i < 8) (s0 : zM) : ∀ a, fTu_causeOfStanding i s0 = some a → zMet yX5_causeOfStanding cX5_causeOfStanding 1 (some .int) 0 0 [(0, [])] [zr 0 7 i] [s0] ((fun a => ((.inl ((fun q => some (zi q)) a), (fun _ => [s0]) a) : zO)) a) := fun a ha => zMet_of (L0 := [some (zr 0 7 i)]) (φ := Option.bind (fTu_causeOfStanding i s0) (fun a => some ((fun a => ((.inl ((fun q => some (zi q)) a), (fun _ => [s0]) a) : zO)) a))) (by decide) (fun _ => Nat.le_of_ble_eq_true rfl) (zl0 0 rfl) (fun X F => bfTu_causeOfStanding F i hi s0 (fun _ => rfl)) (by rw [ha]; rfl)

theorem dX5_take_0 : decode cX5_take 0 = .ok (.aload_n 0, 1) := by decide +kernel
theorem dX5_take_1 : decode cX5_take 1 = .ok (.aload_n 0, 1) := by decide +kernel
theorem dX5_take_2 : decode cX5_take 2 = .ok (.getfield 50, 3) := by decide +kernel
theorem dX5_take_5 : decode cX5_take 5 = .ok (.putfield 53, 3) := by decide +kernel
theorem dX5_take_8 : decode cX5_take 8 = .ok (.aload_n 0, 1) := by decide +kernel
theorem dX5_take_9 : decode cX5_take 9 = .ok (.iload_n 1, 1) := by decide +kernel
theorem dX5_take_10 : decode cX5_take 10 = .ok (.putfield 50, 3) := by decide +kernel
theorem dX5_take_13 : decode cX5_take 13 = .ok (.aload_n 0, 1) := by decide +kernel
theorem dX5_take_14 : decode cX5_take 14 = .ok (.iload_n 2, 1) := by decide +kernel
theorem dX5_take_15 : decode cX5_take 15 = .ok (.putfield 56, 3) := by decide +kernel
theorem dX5_take_18 : decode cX5_take 18 = .ok (.aload_n 0, 1) := by decide +kernel
theorem dX5_take_19 : decode cX5_take 19 = .ok (.iconst 0, 1) := by decide +kernel
theorem dX5_take_20 : decode cX5_take 20 = .ok (.iload_n 2, 1) := by decide +kernel
theorem dX5_take_21 : decode cX5_take 21 = .ok (.iload_n 1, 1) := by decide +kernel
theorem dX5_take_22 : decode cX5_take 22 = .ok (.invokestatic 98, 3) := by decide +kernel
theorem dX5_take_25 : decode cX5_take 25 = .ok (.isub, 1) := by decide +kernel
theorem dX5_take_26 : decode cX5_take 26 = .ok (.invokestatic 104, 3) := by decide +kernel
theorem dX5_take_29 : decode cX5_take 29 = .ok (.iconst 0, 1) := by decide +kernel
theorem dX5_take_30 : decode cX5_take 30 = .ok (.invokevirtual 110, 3) := by decide +kernel
theorem dX5_take_33 : decode cX5_take 33 = .ok (.aload_n 0, 1) := by decide +kernel
theorem dX5_take_34 : decode cX5_take 34 = .ok (.getfield 9, 3) := by decide +kernel
theorem dX5_take_37 : decode cX5_take 37 = .ok (.iconst 2, 1) := by decide +kernel
theorem dX5_take_38 : decode cX5_take 38 = .ok (.if_icmp .ne 30, 3) := by decide +kernel
theorem dX5_take_41 : decode cX5_take 41 = .ok (.aload_n 0, 1) := by decide +kernel
theorem dX5_take_42 : decode cX5_take 42 = .ok (.aload_n 0, 1) := by decide +kernel
theorem dX5_take_43 : decode cX5_take 43 = .ok (.getfield 56, 3) := by decide +kernel
theorem dX5_take_46 : decode cX5_take 46 = .ok (.iconst 3, 1) := by decide +kernel
theorem dX5_take_47 : decode cX5_take 47 = .ok (.aload_n 0, 1) := by decide +kernel
theorem dX5_take_48 : decode cX5_take 48 = .ok (.getfield 47, 3) := by decide +kernel
theorem dX5_take_51 : decode cX5_take 51 = .ok (.imul, 1) := by decide +kernel
theorem dX5_take_52 : decode cX5_take 52 = .ok (.aload_n 0, 1) := by decide +kernel
theorem dX5_take_53 : decode cX5_take 53 = .ok (.getfield 47, 3) := by decide +kernel
theorem dX5_take_56 : decode cX5_take 56 = .ok (.imul, 1) := by decide +kernel
theorem dX5_take_57 : decode cX5_take 57 = .ok (.imul, 1) := by decide +kernel
theorem dX5_take_58 : decode cX5_take 58 = .ok (.bipush 100, 2) := by decide +kernel
theorem dX5_take_60 : decode cX5_take 60 = .ok (.idiv, 1) := by decide +kernel
theorem dX5_take_61 : decode cX5_take 61 = .ok (.iconst 5, 1) := by decide +kernel
theorem dX5_take_62 : decode cX5_take 62 = .ok (.invokevirtual 110, 3) := by decide +kernel
theorem dX5_take_65 : decode cX5_take 65 = .ok (.goto 15, 3) := by decide +kernel
theorem dX5_take_68 : decode cX5_take 68 = .ok (.aload_n 0, 1) := by decide +kernel
theorem dX5_take_69 : decode cX5_take 69 = .ok (.aload_n 0, 1) := by decide +kernel
theorem dX5_take_70 : decode cX5_take 70 = .ok (.getfield 56, 3) := by decide +kernel
theorem dX5_take_73 : decode cX5_take 73 = .ok (.aload_n 0, 1) := by decide +kernel
theorem dX5_take_74 : decode cX5_take 74 = .ok (.invokevirtual 114, 3) := by decide +kernel
theorem dX5_take_77 : decode cX5_take 77 = .ok (.invokevirtual 110, 3) := by decide +kernel
theorem dX5_take_80 : decode cX5_take 80 = .ok (.return_, 1) := by decide +kernel
theorem wfRX5_50 : zFl RX5 50 5 8 := ⟨_, rfl, by decide, zm_f 182 (by decide +kernel) rfl⟩
theorem wpRX5_53 : zFw RX5 53 5 9 .int := ⟨_, rfl, by decide, zm_f 184 (by decide +kernel) rfl, rfl, by decide +kernel⟩
theorem wpRX5_50 : zFw RX5 50 5 8 .int := ⟨_, rfl, by decide, zm_f 182 (by decide +kernel) rfl, rfl, by decide +kernel⟩
theorem wcRX5_98 : Cond.methodLink RX5 98 yX7_power ∈ zTg ∧ Cond.static yX7_power ∈ zTg ∧ Cond.initialized yX7_power.cls ∈ zTg ∧ Cond.code yX7_power cX7_power 1 (some .int) ∈ zTg := ⟨zm_f 638 (by decide +kernel) rfl, zm_f 396 (by decide +kernel) rfl, zm_f 55 (by decide +kernel) rfl, zm_f 397 (by decide +kernel) rfl⟩
theorem wy_yX7_power : yX7_power.cls ≠ "java/lang/invoke/MethodHandle" ∧ yX7_power.cls ≠ "java/lang/invoke/VarHandle" ∧ (parseMethodDescriptor yX7_power.desc).map (fun d => d.parameters.length) = some 1 := by decide +kernel
theorem wmRX5_104 : Cond.methodLink RX5 104 Lib.Math.max.name ∈ zTg := zm_f 639 (by decide +kernel) rfl
theorem wcRX5_110 : Cond.methodLink RX5 110 yX5_lose ∈ zTg ∧ Cond.instanceMethod yX5_lose ∈ zTg ∧ Cond.selects RX5 yX5_lose yX5_lose ∈ zTg ∧ Cond.initialized RX5 ∈ zTg ∧ Cond.code yX5_lose cX5_lose 3 none ∈ zTg := ⟨zm_f 640 (by decide +kernel) rfl, zm_f 641 (by decide +kernel) rfl, zm_f 642 (by decide +kernel) rfl, zm_f 41 (by decide +kernel) rfl, zm_f 643 (by decide +kernel) rfl⟩
theorem wy_yX5_lose : yX5_lose.cls = RX5 ∧ yX5_lose.cls ≠ "java/lang/invoke/MethodHandle" ∧ yX5_lose.cls ≠ "java/lang/invoke/VarHandle" ∧ (parseMethodDescriptor yX5_lose.desc).map (fun d => d.parameters.length) = some 2 := by decide +kernel
theorem wcRX5_114 : Cond.methodLink RX5 114 yX5_causeOfStanding ∈ zTg ∧ Cond.instanceMethod yX5_causeOfStanding ∈ zTg ∧ Cond.selects RX5 yX5_causeOfStanding yX5_causeOfStanding ∈ zTg ∧ Cond.initialized RX5 ∈ zTg ∧ Cond.code yX5_causeOfStanding cX5_causeOfStanding 1 (some .int) ∈ zTg := ⟨zm_f 644 (by decide +kernel) rfl, zm_f 646 (by decide +kernel) rfl, zm_f 7 (by decide +kernel) rfl, zm_f 41 (by decide +kernel) rfl, zm_f 647 (by decide +kernel) rfl⟩
theorem wy_yX5_causeOfStanding : yX5_causeOfStanding.cls = RX5 ∧ yX5_causeOfStanding.cls ≠ "java/lang/invoke/MethodHandle" ∧ yX5_causeOfStanding.cls ≠ "java/lang/invoke/VarHandle" ∧ (parseMethodDescriptor yX5_causeOfStanding.desc).map (fun d => d.parameters.length) = some 0 := by decide +kernel
theorem wfRX5_47 : zFl RX5 47 5 7 := ⟨_, rfl, by decide, zm_f 179 (by decide +kernel) rfl⟩
def fTu_take (i : Nat) (a1 : Int32) (a2 : Int32) (s0 : zM) : Option (zM) :=
  zlet (zu s0 7 i 9 (s0 7 i 8)) fun s0_1 =>
  zlet (zu s0_1 7 i 8 a1) fun s0_2 =>
  zlet (zu s0_2 7 i 10 a2) fun s0_3 =>
  Option.bind (fWa_power a1) fun q4 =>
  Option.bind (fTu_lose i (zmax (0 : Int32) (a2 - q4)) (0 : Int32) s0_3) fun q5 =>
  if (q5 7 i 3) = (2 : Int32) then
  Option.bind (fTu_lose i (((q5 7 i 10) * (((3 : Int32) * (q5 7 i 7)) * (q5 7 i 7))) / (100 : Int32)) (5 : Int32) q5) fun q8 =>
    some q8
else
  Option.bind (fTu_causeOfStanding i q5) fun q6 =>
    Option.bind (fTu_lose i (q5 7 i 10) q6 q5) fun q7 =>
    some q7
set_option maxHeartbeats 4000000 in
set_option maxRecDepth 20000 in
theorem bfTu_take {X : zX} (F : zFr X cX5_take 3 RX5 none) (i : Nat) (a1 : Int32) (a2 : Int32) (hi : i < 8) (s0 : zM) {κ : zM → Option zO} (hκ : ∀ a, κ a = some ((fun a => ((.inl ((fun _ => (none : Option zV)) a), (fun q => [q]) a) : zO)) a)) : zZ X [(0, [])] 2 43 3 0 [some (zr 0 7 i), some (zi a1), some (zi a2)] [] [s0] (Option.bind (fTu_take i a1 a2 s0) κ) := by
  unfold fTu_take
  refine zz_aload_n F (i := 0) dX5_take_0 rfl rfl ?_
  refine zz_aload_n F (i := 0) dX5_take_1 rfl rfl ?_
  refine zz_getf F dX5_take_2 wfRX5_50 zCl_5 rfl (⟨zlb rfl, zlb rfl, hi⟩) rfl (by decide) rfl rfl ?_
  refine zz_put F (Ms' := [(zu s0 7 i 9 (s0 7 i 8))]) dX5_take_5 wpRX5_53 zCl_5 rfl (⟨zlb rfl, zlb rfl, hi⟩) rfl (by decide) rfl rfl rfl ?_
  refine zz_letm (Mf := fun s0_1 => [s0_1]) fun s0_1 => ?_
  refine zz_aload_n F (i := 0) dX5_take_8 rfl rfl ?_
  refine zz_iload_n F (i := 1) dX5_take_9 rfl rfl ?_
  refine zz_put F (Ms' := [(zu s0_1 7 i 8 a1)]) dX5_take_10 wpRX5_50 zCl_5 rfl (⟨zlb rfl, zlb rfl, hi⟩) rfl (by decide) rfl rfl rfl ?_
  refine zz_letm (Mf := fun s0_2 => [s0_2]) fun s0_2 => ?_
  refine zz_aload_n F (i := 0) dX5_take_13 rfl rfl ?_
  refine zz_iload_n F (i := 2) dX5_take_14 rfl rfl ?_
  refine zz_put F (Ms' := [(zu s0_2 7 i 10 a2)]) dX5_take_15 wpRX5_56 zCl_5 rfl (⟨zlb rfl, zlb rfl, hi⟩) rfl (by decide) rfl rfl rfl ?_
  refine zz_letm (Mf := fun s0_3 => [s0_3]) fun s0_3 => ?_
  refine zz_aload_n F (i := 0) dX5_take_18 rfl rfl ?_
  refine zz_iconst F (v := (0 : Int32)) dX5_take_19 (by decide) ?_
  refine zz_iload_n F (i := 2) dX5_take_20 rfl rfl ?_
  refine zz_iload_n F (i := 1) dX5_take_21 rfl rfl ?_
  refine zz_bind ?_
  refine zz_callSr F (ρ := []) (so := fun q4 => [zi q4, zi a2, zi (0 : Int32), zr 0 7 i]) (Mo := fun q4 => [s0_3]) (zfWa_power a1) dX5_take_22 wcRX5_98 wy_yX7_power rfl ⟨rel4, rfl, rfl, Nat.le_of_ble_eq_true rfl, Nat.le_of_ble_eq_true rfl, Nat.le_of_ble_eq_true rfl⟩ rfl (fun _ => rfl) (fun _ => rfl) fun q4 => ?_
  refine zz_isub F dX5_take_25 ?_
  refine zz_max F dX5_take_26 wmRX5_104 wMath_max (Nat.le_of_ble_eq_true rfl) (Nat.le_of_ble_eq_true rfl) ?_
  refine zz_iconst F (v := (0 : Int32)) dX5_take_29 (by decide) ?_
  refine zz_bind ?_
  refine zz_callVr F (ρ := [0]) (so := fun q5 => []) (Mo := fun q5 => [q5]) (zfTu_lose i (zmax (0 : Int32) (a2 - q4)) (0 : Int32) hi s0_3) dX5_take_30 wcRX5_110 wy_yX5_lose rfl ⟨rel3, rfl, rfl, Nat.le_of_ble_eq_true rfl, Nat.le_of_ble_eq_true rfl, Nat.le_of_ble_eq_true rfl⟩ (⟨zlb rfl, zlb rfl, hi⟩) rfl rfl rfl (fun _ => rfl) (fun _ => rfl) fun q5 => ?_
  refine zz_aload_n F (i := 0) dX5_take_33 rfl rfl ?_
  refine zz_getf F dX5_take_34 wfRX5_9 zCl_5 rfl (⟨zlb rfl, zlb rfl, hi⟩) rfl (by decide) rfl rfl ?_
  refine zz_iconst F (v := (2 : Int32)) dX5_take_37 (by decide) ?_
  refine zz_icmp_ne F (tgt := 68) dX5_take_38 (by decide) (fun h => zz_f h ?_) (fun h => zz_t h ?_)
  · refine zz_aload_n F (i := 0) dX5_take_68 rfl rfl ?_
    refine zz_aload_n F (i := 0) dX5_take_69 rfl rfl ?_
    refine zz_getf F dX5_take_70 wfRX5_56 zCl_5 rfl (⟨zlb rfl, zlb rfl, hi⟩) rfl (by decide) rfl rfl ?_
    refine zz_aload_n F (i := 0) dX5_take_73 rfl rfl ?_
    refine zz_bind ?_
    refine zz_callVr F (ρ := [0]) (so := fun q6 => [zi q6, zi (q5 7 i 10), zr 0 7 i]) (Mo := fun q6 => [q5]) (zfTu_causeOfStanding i hi q5) dX5_take_74 wcRX5_114 wy_yX5_causeOfStanding rfl ⟨rel3, rfl, rfl, Nat.le_of_ble_eq_true rfl, Nat.le_of_ble_eq_true rfl, Nat.le_of_ble_eq_true rfl⟩ (⟨zlb rfl, zlb rfl, hi⟩) rfl rfl rfl (fun _ => rfl) (fun _ => rfl) fun q6 => ?_
    refine zz_bind ?_
    refine zz_callVr F (ρ := [0]) (so := fun q7 => []) (Mo := fun q7 => [q7]) (zfTu_lose i (q5 7 i 10) q6 hi q5) dX5_take_77 wcRX5_110 wy_yX5_lose rfl ⟨rel3, rfl, rfl, Nat.le_of_ble_eq_true rfl, Nat.le_of_ble_eq_true rfl, Nat.le_of_ble_eq_true rfl⟩ (⟨zlb rfl, zlb rfl, hi⟩) rfl rfl rfl (fun _ => rfl) (fun _ => rfl) fun q7 => ?_
    exact zz_return F dX5_take_80 rfl (hκ _)
  · refine zz_aload_n F (i := 0) dX5_take_41 rfl rfl ?_
    refine zz_aload_n F (i := 0) dX5_take_42 rfl rfl ?_
    refine zz_getf F dX5_take_43 wfRX5_56 zCl_5 rfl (⟨zlb rfl, zlb rfl, hi⟩) rfl (by decide) rfl rfl ?_
    refine zz_iconst F (v := (3 : Int32)) dX5_take_46 (by decide) ?_
    refine zz_aload_n F (i := 0) dX5_take_47 rfl rfl ?_
    refine zz_getf F dX5_take_48 wfRX5_47 zCl_5 rfl (⟨zlb rfl, zlb rfl, hi⟩) rfl (by decide) rfl rfl ?_
    refine zz_imul F dX5_take_51 ?_
    refine zz_aload_n F (i := 0) dX5_take_52 rfl rfl ?_
    refine zz_getf F dX5_take_53 wfRX5_47 zCl_5 rfl (⟨zlb rfl, zlb rfl, hi⟩) rfl (by decide) rfl rfl ?_
    refine zz_imul F dX5_take_56 ?_
    refine zz_imul F dX5_take_57 ?_
    refine zz_bipush F (v := (100 : Int32)) dX5_take_58 (by decide) ?_
    refine zz_idiv F dX5_take_60 (by decide) ?_
    refine zz_iconst F (v := (5 : Int32)) dX5_take_61 (by decide) ?_
    refine zz_bind ?_
    refine zz_callVr F (ρ := [0]) (so := fun q8 => []) (Mo := fun q8 => [q8]) (zfTu_lose i (((q5 7 i 10) * (((3 : Int32) * (q5 7 i 7)) * (q5 7 i 7))) / (100 : Int32)) (5 : Int32) hi q5) dX5_take_62 wcRX5_110 wy_yX5_lose rfl ⟨rel3, rfl, rfl, Nat.le_of_ble_eq_true rfl, Nat.le_of_ble_eq_true rfl, Nat.le_of_ble_eq_true rfl⟩ (⟨zlb rfl, zlb rfl, hi⟩) rfl rfl rfl (fun _ => rfl) (fun _ => rfl) fun q8 => ?_
    refine zz_goto F (tgt := 80) dX5_take_65 (by decide) ?_
    exact zz_return F dX5_take_80 rfl (hκ _)
theorem zfTu_take (i : Nat) (a1 : Int32) (a2 : Int32) (hi : i < 8) (s0 : zM) : ∀ a, fTu_take i a1 a2 s0 = some a → zMet yX5_take cX5_take 3 none 2 43 [(0, [])] [zr 0 7 i, zi a1, zi a2] [s0] ((fun a => ((.inl ((fun _ => (none : Option zV)) a), (fun q => [q]) a) : zO)) a) := fun a ha => zMet_of (L0 := [some (zr 0 7 i), some (zi a1), some (zi a2)]) (φ := Option.bind (fTu_take i a1 a2 s0) (fun a => some ((fun a => ((.inl ((fun _ => (none : Option zV)) a), (fun q => [q]) a) : zO)) a))) (by decide) (fun _ => Nat.le_of_ble_eq_true rfl) (zl0 0 rfl) (fun X F => bfTu_take F i a1 a2 hi s0 (fun _ => rfl)) (by rw [ha]; rfl)

theorem dX0_limit_0 : decode cX0_limit 0 = .ok (.aload_n 0, 1) := by decide +kernel
theorem dX0_limit_1 : decode cX0_limit 1 = .ok (.getfield 7, 3) := by decide +kernel
theorem dX0_limit_4 : decode cX0_limit 4 = .ok (.aload_n 0, 1) := by decide +kernel
theorem dX0_limit_5 : decode cX0_limit 5 = .ok (.getfield 13, 3) := by decide +kernel
theorem dX0_limit_8 : decode cX0_limit 8 = .ok (.bipush 10, 2) := by decide +kernel
theorem dX0_limit_10 : decode cX0_limit 10 = .ok (.idiv, 1) := by decide +kernel
theorem dX0_limit_11 : decode cX0_limit 11 = .ok (.isub, 1) := by decide +kernel
theorem dX0_limit_12 : decode cX0_limit 12 = .ok (.ireturn, 1) := by decide +kernel
theorem wfRX0_7 : zFl RX0 7 0 0 := ⟨_, rfl, by decide, zm_f 230 (by decide +kernel) rfl⟩
theorem wfRX0_13 : zFl RX0 13 0 1 := ⟨_, rfl, by decide, zm_f 233 (by decide +kernel) rfl⟩
def fCa_limit (i : Nat) (s0 : zM) : Option (Int32) :=
  some ((s0 12 i 0) - ((s0 12 i 1) / (10 : Int32)))
set_option maxHeartbeats 4000000 in
set_option maxRecDepth 20000 in
theorem bfCa_limit {X : zX} (F : zFr X cX0_limit 1 RX0 (some .int)) (i : Nat) (hi : i < 3) (s0 : zM) {κ : Int32 → Option zO} (hκ : ∀ a, κ a = some ((fun a => ((.inl ((fun q => some (zi q)) a), (fun _ => [s0]) a) : zO)) a)) : zZ X [(0, [])] 0 0 1 0 [some (zr 0 12 i)] [] [s0] (Option.bind (fCa_limit i s0) κ) := by
  unfold fCa_limit
  refine zz_aload_n F (i := 0) dX0_limit_0 rfl rfl ?_
  refine zz_getf F dX0_limit_1 wfRX0_7 zCl_0 rfl (⟨zlb rfl, zlb rfl, hi⟩) rfl (by decide) rfl rfl ?_
  refine zz_aload_n F (i := 0) dX0_limit_4 rfl rfl ?_
  refine zz_getf F dX0_limit_5 wfRX0_13 zCl_0 rfl (⟨zlb rfl, zlb rfl, hi⟩) rfl (by decide) rfl rfl ?_
  refine zz_bipush F (v := (10 : Int32)) dX0_limit_8 (by decide) ?_
  refine zz_idiv F dX0_limit_10 (by decide) ?_
  refine zz_isub F dX0_limit_11 ?_
  exact zz_ireturn F dX0_limit_12 rfl (hκ _)
theorem zfCa_limit (i : Nat) (hi : i < 3) (s0 : zM) : ∀ a, fCa_limit i s0 = some a → zMet yX0_limit cX0_limit 1 (some .int) 0 0 [(0, [])] [zr 0 12 i] [s0] ((fun a => ((.inl ((fun q => some (zi q)) a), (fun _ => [s0]) a) : zO)) a) := fun a ha => zMet_of (L0 := [some (zr 0 12 i)]) (φ := Option.bind (fCa_limit i s0) (fun a => some ((fun a => ((.inl ((fun q => some (zi q)) a), (fun _ => [s0]) a) : zO)) a))) (by decide) (fun _ => Nat.le_of_ble_eq_true rfl) (zl0 0 rfl) (fun X F => bfCa_limit F i hi s0 (fun _ => rfl)) (by rw [ha]; rfl)

theorem dX3_isOn_0 : decode cX3_isOn 0 = .ok (.iload_n 2, 1) := by decide +kernel
theorem dX3_isOn_1 : decode cX3_isOn 1 = .ok (.iconst (-1), 1) := by decide +kernel
theorem dX3_isOn_2 : decode cX3_isOn 2 = .ok (.if_icmp .eq 16, 3) := by decide +kernel
theorem dX3_isOn_5 : decode cX3_isOn 5 = .ok (.aload_n 0, 1) := by decide +kernel
theorem dX3_isOn_6 : decode cX3_isOn 6 = .ok (.getfield 11, 3) := by decide +kernel
theorem dX3_isOn_9 : decode cX3_isOn 9 = .ok (.iload_n 1, 1) := by decide +kernel
theorem dX3_isOn_10 : decode cX3_isOn 10 = .ok (.aaload, 1) := by decide +kernel
theorem dX3_isOn_11 : decode cX3_isOn 11 = .ok (.getfield 65, 3) := by decide +kernel
theorem dX3_isOn_14 : decode cX3_isOn 14 = .ok (.iload_n 2, 1) := by decide +kernel
theorem dX3_isOn_15 : decode cX3_isOn 15 = .ok (.if_icmp .ne 7, 3) := by decide +kernel
theorem dX3_isOn_18 : decode cX3_isOn 18 = .ok (.iconst 1, 1) := by decide +kernel
theorem dX3_isOn_19 : decode cX3_isOn 19 = .ok (.goto 4, 3) := by decide +kernel
theorem dX3_isOn_22 : decode cX3_isOn 22 = .ok (.iconst 0, 1) := by decide +kernel
theorem dX3_isOn_23 : decode cX3_isOn 23 = .ok (.ireturn, 1) := by decide +kernel
theorem wfRX3_65 : zFl RX3 65 5 2 := ⟨_, rfl, by decide, zm_f 169 (by decide +kernel) rfl⟩
def fSe_isOn (a1 : Int32) (a2 : Int32) (s0 : zM) : Option (Int32) :=
  if a2 = (-1 : Int32) then
  some (1 : Int32)
else
  zix a1 8 fun j1 =>
    if (s0 7 j1 2) = a2 then
    some (1 : Int32)
  else
    some (0 : Int32)
set_option maxHeartbeats 4000000 in
set_option maxRecDepth 20000 in
theorem bfSe_isOn {X : zX} (F : zFr X cX3_isOn 3 RX3 (some .boolean)) (a1 : Int32) (a2 : Int32)  (s0 : zM) {κ : Int32 → Option zO} (hκ : ∀ a, κ a = some ((fun a => ((.inl ((fun q => some (zi q)) a), (fun _ => [s0]) a) : zO)) a)) : zZ X [(0, [])] 0 0 3 0 [some (zr 0 0 0), some (zi a1), some (zi a2)] [] [s0] (Option.bind (fSe_isOn a1 a2 s0) κ) := by
  unfold fSe_isOn
  refine zz_iload_n F (i := 2) dX3_isOn_0 rfl rfl ?_
  refine zz_iconst F (v := (-1 : Int32)) dX3_isOn_1 (by decide) ?_
  refine zz_icmp_eq F (tgt := 18) dX3_isOn_2 (by decide) (fun h => zz_t h ?_) (fun h => zz_f h ?_)
  · refine zz_iconst F (v := (1 : Int32)) dX3_isOn_18 (by decide) ?_
    refine zz_goto F (tgt := 23) dX3_isOn_19 (by decide) ?_
    exact zz_zreturn F dX3_isOn_23 rfl rfl (hκ _)
  · refine zz_aload_n F (i := 0) dX3_isOn_5 rfl rfl ?_
    refine zz_getr F dX3_isOn_6 wfRX3_11 zCl_3 rfl (⟨zlb rfl, zlb rfl, zlb rfl⟩) rfl (by decide) rfl (r' := 0) (by decide) ?_
    refine zz_iload_n F (i := 1) dX3_isOn_9 rfl rfl ?_
    refine zz_ix fun j1 hj1 hinj1 hej1 => zz_aal F dX3_isOn_10 rfl (⟨zlb rfl, zlb rfl, zlb rfl⟩) rfl (by decide) rfl hinj1 hej1 rfl ?_
    refine zz_getf F dX3_isOn_11 wfRX3_65 zCl_5 rfl (⟨zlb rfl, zlb rfl, hj1⟩) rfl (by decide) rfl rfl ?_
    refine zz_iload_n F (i := 2) dX3_isOn_14 rfl rfl ?_
    refine zz_icmp_ne F (tgt := 22) dX3_isOn_15 (by decide) (fun h => zz_f h ?_) (fun h => zz_t h ?_)
    · refine zz_iconst F (v := (0 : Int32)) dX3_isOn_22 (by decide) ?_
      exact zz_zreturn F dX3_isOn_23 rfl rfl (hκ _)
    · refine zz_iconst F (v := (1 : Int32)) dX3_isOn_18 (by decide) ?_
      refine zz_goto F (tgt := 23) dX3_isOn_19 (by decide) ?_
      exact zz_zreturn F dX3_isOn_23 rfl rfl (hκ _)
theorem zfSe_isOn (a1 : Int32) (a2 : Int32)  (s0 : zM) : ∀ a, fSe_isOn a1 a2 s0 = some a → zMet yX3_isOn cX3_isOn 3 (some .boolean) 0 0 [(0, [])] [zr 0 0 0, zi a1, zi a2] [s0] ((fun a => ((.inl ((fun q => some (zi q)) a), (fun _ => [s0]) a) : zO)) a) := fun a ha => zMet_of (L0 := [some (zr 0 0 0), some (zi a1), some (zi a2)]) (φ := Option.bind (fSe_isOn a1 a2 s0) (fun a => some ((fun a => ((.inl ((fun q => some (zi q)) a), (fun _ => [s0]) a) : zO)) a))) (by decide) (fun _ => Nat.le_of_ble_eq_true rfl) (zl0 0 rfl) (fun X F => bfSe_isOn F a1 a2 s0 (fun _ => rfl)) (by rw [ha]; rfl)

theorem dX3_giveUp_0 : decode cX3_giveUp 0 = .ok (.iconst 0, 1) := by decide +kernel
theorem dX3_giveUp_1 : decode cX3_giveUp 1 = .ok (.istore 4, 2) := by decide +kernel
theorem dX3_giveUp_3 : decode cX3_giveUp 3 = .ok (.iconst 0, 1) := by decide +kernel
theorem dX3_giveUp_4 : decode cX3_giveUp 4 = .ok (.istore 5, 2) := by decide +kernel
theorem dX3_giveUp_6 : decode cX3_giveUp 6 = .ok (.iload 5, 2) := by decide +kernel
theorem dX3_giveUp_8 : decode cX3_giveUp 8 = .ok (.aload_n 0, 1) := by decide +kernel
theorem dX3_giveUp_9 : decode cX3_giveUp 9 = .ok (.getfield 56, 3) := by decide +kernel
theorem dX3_giveUp_12 : decode cX3_giveUp 12 = .ok (.if_icmp .ge 38, 3) := by decide +kernel
theorem dX3_giveUp_15 : decode cX3_giveUp 15 = .ok (.iload 4, 2) := by decide +kernel
theorem dX3_giveUp_17 : decode cX3_giveUp 17 = .ok (.aload_n 0, 1) := by decide +kernel
theorem dX3_giveUp_18 : decode cX3_giveUp 18 = .ok (.iload 5, 2) := by decide +kernel
theorem dX3_giveUp_20 : decode cX3_giveUp 20 = .ok (.iload_n 1, 1) := by decide +kernel
theorem dX3_giveUp_21 : decode cX3_giveUp 21 = .ok (.invokevirtual 189, 3) := by decide +kernel
theorem dX3_giveUp_24 : decode cX3_giveUp 24 = .ok (.ifCond .eq 16, 3) := by decide +kernel
theorem dX3_giveUp_27 : decode cX3_giveUp 27 = .ok (.aload_n 0, 1) := by decide +kernel
theorem dX3_giveUp_28 : decode cX3_giveUp 28 = .ok (.getfield 11, 3) := by decide +kernel
theorem dX3_giveUp_31 : decode cX3_giveUp 31 = .ok (.iload 5, 2) := by decide +kernel
theorem dX3_giveUp_33 : decode cX3_giveUp 33 = .ok (.aaload, 1) := by decide +kernel
theorem dX3_giveUp_34 : decode cX3_giveUp 34 = .ok (.getfield 193, 3) := by decide +kernel
theorem dX3_giveUp_37 : decode cX3_giveUp 37 = .ok (.goto 4, 3) := by decide +kernel
theorem dX3_giveUp_40 : decode cX3_giveUp 40 = .ok (.iconst 0, 1) := by decide +kernel
theorem dX3_giveUp_41 : decode cX3_giveUp 41 = .ok (.iadd, 1) := by decide +kernel
theorem dX3_giveUp_42 : decode cX3_giveUp 42 = .ok (.istore 4, 2) := by decide +kernel
theorem dX3_giveUp_44 : decode cX3_giveUp 44 = .ok (.iinc 5 1, 3) := by decide +kernel
theorem dX3_giveUp_47 : decode cX3_giveUp 47 = .ok (.goto (-41), 3) := by decide +kernel
theorem dX3_giveUp_50 : decode cX3_giveUp 50 = .ok (.iload 4, 2) := by decide +kernel
theorem dX3_giveUp_52 : decode cX3_giveUp 52 = .ok (.iload_n 2, 1) := by decide +kernel
theorem dX3_giveUp_53 : decode cX3_giveUp 53 = .ok (.isub, 1) := by decide +kernel
theorem dX3_giveUp_54 : decode cX3_giveUp 54 = .ok (.istore 5, 2) := by decide +kernel
theorem dX3_giveUp_56 : decode cX3_giveUp 56 = .ok (.iload 5, 2) := by decide +kernel
theorem dX3_giveUp_58 : decode cX3_giveUp 58 = .ok (.ifCond .le 8, 3) := by decide +kernel
theorem dX3_giveUp_61 : decode cX3_giveUp 61 = .ok (.iload 4, 2) := by decide +kernel
theorem dX3_giveUp_63 : decode cX3_giveUp 63 = .ok (.ifCond .gt 6, 3) := by decide +kernel
theorem dX3_giveUp_66 : decode cX3_giveUp 66 = .ok (.iload 4, 2) := by decide +kernel
theorem dX3_giveUp_68 : decode cX3_giveUp 68 = .ok (.ireturn, 1) := by decide +kernel
theorem dX3_giveUp_69 : decode cX3_giveUp 69 = .ok (.iload 5, 2) := by decide +kernel
theorem dX3_giveUp_71 : decode cX3_giveUp 71 = .ok (.istore 6, 2) := by decide +kernel
theorem dX3_giveUp_73 : decode cX3_giveUp 73 = .ok (.iconst 0, 1) := by decide +kernel
theorem dX3_giveUp_74 : decode cX3_giveUp 74 = .ok (.istore 7, 2) := by decide +kernel
theorem dX3_giveUp_76 : decode cX3_giveUp 76 = .ok (.iload 7, 2) := by decide +kernel
theorem dX3_giveUp_78 : decode cX3_giveUp 78 = .ok (.aload_n 0, 1) := by decide +kernel
theorem dX3_giveUp_79 : decode cX3_giveUp 79 = .ok (.getfield 56, 3) := by decide +kernel
theorem dX3_giveUp_82 : decode cX3_giveUp 82 = .ok (.if_icmp .ge 57, 3) := by decide +kernel
theorem dX3_giveUp_85 : decode cX3_giveUp 85 = .ok (.aload_n 0, 1) := by decide +kernel
theorem dX3_giveUp_86 : decode cX3_giveUp 86 = .ok (.iload 7, 2) := by decide +kernel
theorem dX3_giveUp_88 : decode cX3_giveUp 88 = .ok (.iload_n 1, 1) := by decide +kernel
theorem dX3_giveUp_89 : decode cX3_giveUp 89 = .ok (.invokevirtual 189, 3) := by decide +kernel
theorem dX3_giveUp_92 : decode cX3_giveUp 92 = .ok (.ifCond .eq 41, 3) := by decide +kernel
theorem dX3_giveUp_95 : decode cX3_giveUp 95 = .ok (.aload_n 0, 1) := by decide +kernel
theorem dX3_giveUp_96 : decode cX3_giveUp 96 = .ok (.getfield 11, 3) := by decide +kernel
theorem dX3_giveUp_99 : decode cX3_giveUp 99 = .ok (.iload 7, 2) := by decide +kernel
theorem dX3_giveUp_101 : decode cX3_giveUp 101 = .ok (.aaload, 1) := by decide +kernel
theorem dX3_giveUp_102 : decode cX3_giveUp 102 = .ok (.getfield 193, 3) := by decide +kernel
theorem dX3_giveUp_105 : decode cX3_giveUp 105 = .ok (.iload 5, 2) := by decide +kernel
theorem dX3_giveUp_107 : decode cX3_giveUp 107 = .ok (.imul, 1) := by decide +kernel
theorem dX3_giveUp_108 : decode cX3_giveUp 108 = .ok (.iload 4, 2) := by decide +kernel
theorem dX3_giveUp_110 : decode cX3_giveUp 110 = .ok (.idiv, 1) := by decide +kernel
theorem dX3_giveUp_111 : decode cX3_giveUp 111 = .ok (.istore 8, 2) := by decide +kernel
theorem dX3_giveUp_113 : decode cX3_giveUp 113 = .ok (.aload_n 0, 1) := by decide +kernel
theorem dX3_giveUp_114 : decode cX3_giveUp 114 = .ok (.getfield 11, 3) := by decide +kernel
theorem dX3_giveUp_117 : decode cX3_giveUp 117 = .ok (.iload 7, 2) := by decide +kernel
theorem dX3_giveUp_119 : decode cX3_giveUp 119 = .ok (.aaload, 1) := by decide +kernel
theorem dX3_giveUp_120 : decode cX3_giveUp 120 = .ok (.iload 8, 2) := by decide +kernel
theorem dX3_giveUp_122 : decode cX3_giveUp 122 = .ok (.iload_n 3, 1) := by decide +kernel
theorem dX3_giveUp_123 : decode cX3_giveUp 123 = .ok (.invokevirtual 196, 3) := by decide +kernel
theorem dX3_giveUp_126 : decode cX3_giveUp 126 = .ok (.iload 6, 2) := by decide +kernel
theorem dX3_giveUp_128 : decode cX3_giveUp 128 = .ok (.iload 8, 2) := by decide +kernel
theorem dX3_giveUp_130 : decode cX3_giveUp 130 = .ok (.isub, 1) := by decide +kernel
theorem dX3_giveUp_131 : decode cX3_giveUp 131 = .ok (.istore 6, 2) := by decide +kernel
theorem dX3_giveUp_133 : decode cX3_giveUp 133 = .ok (.iinc 7 1, 3) := by decide +kernel
theorem dX3_giveUp_136 : decode cX3_giveUp 136 = .ok (.goto (-60), 3) := by decide +kernel
theorem dX3_giveUp_139 : decode cX3_giveUp 139 = .ok (.iconst 0, 1) := by decide +kernel
theorem dX3_giveUp_140 : decode cX3_giveUp 140 = .ok (.istore 7, 2) := by decide +kernel
theorem dX3_giveUp_142 : decode cX3_giveUp 142 = .ok (.iload 7, 2) := by decide +kernel
theorem dX3_giveUp_144 : decode cX3_giveUp 144 = .ok (.aload_n 0, 1) := by decide +kernel
theorem dX3_giveUp_145 : decode cX3_giveUp 145 = .ok (.getfield 56, 3) := by decide +kernel
theorem dX3_giveUp_148 : decode cX3_giveUp 148 = .ok (.if_icmp .ge 52, 3) := by decide +kernel
theorem dX3_giveUp_151 : decode cX3_giveUp 151 = .ok (.iload 6, 2) := by decide +kernel
theorem dX3_giveUp_153 : decode cX3_giveUp 153 = .ok (.ifCond .le 47, 3) := by decide +kernel
theorem dX3_giveUp_156 : decode cX3_giveUp 156 = .ok (.aload_n 0, 1) := by decide +kernel
theorem dX3_giveUp_157 : decode cX3_giveUp 157 = .ok (.iload 7, 2) := by decide +kernel
theorem dX3_giveUp_159 : decode cX3_giveUp 159 = .ok (.iload_n 1, 1) := by decide +kernel
theorem dX3_giveUp_160 : decode cX3_giveUp 160 = .ok (.invokevirtual 189, 3) := by decide +kernel
theorem dX3_giveUp_163 : decode cX3_giveUp 163 = .ok (.ifCond .eq 31, 3) := by decide +kernel
theorem dX3_giveUp_166 : decode cX3_giveUp 166 = .ok (.aload_n 0, 1) := by decide +kernel
theorem dX3_giveUp_167 : decode cX3_giveUp 167 = .ok (.getfield 11, 3) := by decide +kernel
theorem dX3_giveUp_170 : decode cX3_giveUp 170 = .ok (.iload 7, 2) := by decide +kernel
theorem dX3_giveUp_172 : decode cX3_giveUp 172 = .ok (.aaload, 1) := by decide +kernel
theorem dX3_giveUp_173 : decode cX3_giveUp 173 = .ok (.getfield 193, 3) := by decide +kernel
theorem dX3_giveUp_176 : decode cX3_giveUp 176 = .ok (.ifCond .le 18, 3) := by decide +kernel
theorem dX3_giveUp_179 : decode cX3_giveUp 179 = .ok (.aload_n 0, 1) := by decide +kernel
theorem dX3_giveUp_180 : decode cX3_giveUp 180 = .ok (.getfield 11, 3) := by decide +kernel
theorem dX3_giveUp_183 : decode cX3_giveUp 183 = .ok (.iload 7, 2) := by decide +kernel
theorem dX3_giveUp_185 : decode cX3_giveUp 185 = .ok (.aaload, 1) := by decide +kernel
theorem dX3_giveUp_186 : decode cX3_giveUp 186 = .ok (.iconst 1, 1) := by decide +kernel
theorem dX3_giveUp_187 : decode cX3_giveUp 187 = .ok (.iload_n 3, 1) := by decide +kernel
theorem dX3_giveUp_188 : decode cX3_giveUp 188 = .ok (.invokevirtual 196, 3) := by decide +kernel
theorem dX3_giveUp_191 : decode cX3_giveUp 191 = .ok (.iinc 6 (-1), 3) := by decide +kernel
theorem dX3_giveUp_194 : decode cX3_giveUp 194 = .ok (.iinc 7 1, 3) := by decide +kernel
theorem dX3_giveUp_197 : decode cX3_giveUp 197 = .ok (.goto (-55), 3) := by decide +kernel
theorem dX3_giveUp_200 : decode cX3_giveUp 200 = .ok (.iload_n 2, 1) := by decide +kernel
theorem dX3_giveUp_201 : decode cX3_giveUp 201 = .ok (.ireturn, 1) := by decide +kernel
theorem wcRX3_189 : Cond.methodLink RX3 189 yX3_isOn ∈ zTg ∧ Cond.instanceMethod yX3_isOn ∈ zTg ∧ Cond.selects RX3 yX3_isOn yX3_isOn ∈ zTg ∧ Cond.initialized RX3 ∈ zTg ∧ Cond.code yX3_isOn cX3_isOn 3 (some .boolean) ∈ zTg := ⟨zm_f 660 (by decide +kernel) rfl, zm_f 662 (by decide +kernel) rfl, zm_f 10 (by decide +kernel) rfl, zm_f 38 (by decide +kernel) rfl, zm_f 663 (by decide +kernel) rfl⟩
theorem wy_yX3_isOn : yX3_isOn.cls = RX3 ∧ yX3_isOn.cls ≠ "java/lang/invoke/MethodHandle" ∧ yX3_isOn.cls ≠ "java/lang/invoke/VarHandle" ∧ (parseMethodDescriptor yX3_isOn.desc).map (fun d => d.parameters.length) = some 2 := by decide +kernel
theorem wfRX3_193 : zFl RX3 193 5 10 := ⟨_, rfl, by decide, zm_f 187 (by decide +kernel) rfl⟩
theorem wcRX3_196 : Cond.methodLink RX3 196 yX5_lose ∈ zTg ∧ Cond.instanceMethod yX5_lose ∈ zTg ∧ Cond.selects RX5 yX5_lose yX5_lose ∈ zTg ∧ Cond.initialized RX5 ∈ zTg ∧ Cond.code yX5_lose cX5_lose 3 none ∈ zTg := ⟨zm_f 664 (by decide +kernel) rfl, zm_f 641 (by decide +kernel) rfl, zm_f 642 (by decide +kernel) rfl, zm_f 41 (by decide +kernel) rfl, zm_f 643 (by decide +kernel) rfl⟩
def fSe_giveUp_l6 (a1 : Int32) (s0 : zM) (q1 : Int32 × Int32) : Option ((Int32 × Int32) ⊕ ((Int32))) :=
  if (s0 0 0 5) ≤ q1.2 then
  some (.inr q1.1)
else
  Option.bind (fSe_isOn q1.2 a1 s0) fun q3 =>
    Option.bind (if q3 = 0 then
    some (0 : Int32)
  else
    zix q1.2 8 fun j8 =>
      some (s0 7 j8 10)) fun q4 =>
    zlet ((q1.1 + q4)) fun v9 =>
    zlet (q1.2 + 1) fun v10 =>
    some (.inl (v9, v10))
def fSe_giveUp_l76 (a1 : Int32) (a3 : Int32) (q2 : (Int32)) (v11 : Int32) (q12 : Int32 × Int32 × zM) : Option ((Int32 × Int32 × zM) ⊕ ((Int32 × zM))) :=
  if (q12.2.2 0 0 5) ≤ q12.2.1 then
  some (.inr (q12.1, q12.2.2))
else
  Option.bind (fSe_isOn q12.2.1 a1 q12.2.2) fun q14 =>
    Option.bind (if q14 = 0 then
    some (q12.1, q12.2.2)
  else
    zix q12.2.1 8 fun j19 =>
      zg (¬ q2 = 0) (
      zlet ((((q12.2.2 7 j19 10) * v11) / q2)) fun v20 =>
      zix q12.2.1 8 fun j21 =>
      Option.bind (fTu_lose j21 v20 a3 q12.2.2) fun q22 =>
      zlet ((q12.1 - v20)) fun v23 =>
      some (v23, q22))) fun q15 =>
    zlet (q12.2.1 + 1) fun v24 =>
    some (.inl (q15.1, v24, q15.2))
def fSe_giveUp_l142 (a1 : Int32) (a3 : Int32) (q25 : Int32 × Int32 × zM) : Option ((Int32 × Int32 × zM) ⊕ ((zM))) :=
  if (q25.2.2 0 0 5) ≤ q25.2.1 then
  some (.inr q25.2.2)
else
  if q25.1 ≤ 0 then
    some (.inr q25.2.2)
  else
    Option.bind (fSe_isOn q25.2.1 a1 q25.2.2) fun q27 =>
      Option.bind (if q27 = 0 then
      some (q25.1, q25.2.2)
    else
      zix q25.2.1 8 fun j32 =>
        if (q25.2.2 7 j32 10) ≤ 0 then
        some (q25.1, q25.2.2)
      else
        zix q25.2.1 8 fun j33 =>
          Option.bind (fTu_lose j33 (1 : Int32) a3 q25.2.2) fun q34 =>
          zlet (q25.1 + (-1)) fun v35 =>
          some (v35, q34)) fun q28 =>
      zlet (q25.2.1 + 1) fun v36 =>
      some (.inl (q28.1, v36, q28.2))
def fSe_giveUp (a1 : Int32) (a2 : Int32) (a3 : Int32) (s0 : zM) : Option (Int32 × zM) :=
  Option.bind (ziter (fSe_giveUp_l6 a1 s0) 1000 ((0 : Int32), (0 : Int32))) fun q2 =>
  zlet ((q2 - a2)) fun v11 =>
  if v11 ≤ 0 then
  some (q2, s0)
else
  if 0 < q2 then
    Option.bind (ziter (fSe_giveUp_l76 a1 a3 q2 v11) 1000 (v11, (0 : Int32), s0)) fun q13 =>
      Option.bind (ziter (fSe_giveUp_l142 a1 a3) 1000 (q13.1, (0 : Int32), q13.2)) fun q26 =>
      some (a2, q26)
  else
    some (q2, s0)
set_option maxHeartbeats 4000000 in
set_option maxRecDepth 20000 in
theorem bfSe_giveUp_l6 {X : zX} (F : zFr X cX3_giveUp 9 RX3 (some .int)) (a1 : Int32) (s0 : zM) (a2 : Int32) (a3 : Int32)  {ψ : (Int32 × Int32) ⊕ ((Int32)) → Option zO} (h1 : ∀ q1 : Int32 × Int32, zZ X [(0, [])] 1 22 9 6 [some (zr 0 0 0), some (zi a1), some (zi a2), some (zi a3), some (zi q1.1), some (zi q1.2), none, none, none] [] [s0] (ψ (.inl q1))) (h2 : ∀ q2 : Int32, zZ X [(0, [])] 1 22 9 50 [some (zr 0 0 0), some (zi a1), some (zi a2), some (zi a3), some (zi q2), none, none, none, none] [] [s0] (ψ (.inr q2))) (q1 : Int32 × Int32) : zZ X [(0, [])] 1 22 9 6 [some (zr 0 0 0), some (zi a1), some (zi a2), some (zi a3), some (zi q1.1), some (zi q1.2), none, none, none] [] [s0] (Option.bind (fSe_giveUp_l6 a1 s0 q1) ψ) := by
  unfold fSe_giveUp_l6
  refine zz_iload F (i := 5) dX3_giveUp_6 rfl ?_
  refine zz_aload_n F (i := 0) dX3_giveUp_8 rfl rfl ?_
  refine zz_getf F dX3_giveUp_9 wfRX3_56 zCl_3 rfl (⟨zlb rfl, zlb rfl, zlb rfl⟩) rfl (by decide) rfl rfl ?_
  refine zz_icmp_ge F (tgt := 50) dX3_giveUp_12 (by decide) (fun h => zz_t h ?_) (fun h => zz_f h ?_)
  · exact zz_sub (zs_k (zs_k (zs_k (zs_k (zs_k (zs_n (zs_k (zs_k (zs_k zs_z))))))))) (h2 q1.1)
  · refine zz_iload F (i := 4) dX3_giveUp_15 rfl ?_
    refine zz_aload_n F (i := 0) dX3_giveUp_17 rfl rfl ?_
    refine zz_iload F (i := 5) dX3_giveUp_18 rfl ?_
    refine zz_iload_n F (i := 1) dX3_giveUp_20 rfl rfl ?_
    refine zz_bind ?_
    refine zz_callVr F (ρ := [0]) (so := fun q3 => [zi q3, zi q1.1]) (Mo := fun q3 => [s0]) (zfSe_isOn q1.2 a1 s0) dX3_giveUp_21 wcRX3_189 wy_yX3_isOn rfl ⟨rel3, rfl, rfl, Nat.le_of_ble_eq_true rfl, Nat.le_of_ble_eq_true rfl, Nat.le_of_ble_eq_true rfl⟩ (⟨zlb rfl, zlb rfl, zlb rfl⟩) rfl rfl rfl (fun _ => rfl) (fun _ => rfl) fun q3 => ?_
    refine zz_join (pj := 41) (Lj := fun q4 => [some (zr 0 0 0), some (zi a1), some (zi a2), some (zi a3), none, some (zi q1.2), none, none, none]) (Sj := fun q4 => [zi q4, zi q1.1]) (Mj := fun q4 => [s0]) (fun q4 => ?_) (fun κ6 hj5 => ?_)
    · refine zz_iadd F dX3_giveUp_41 ?_
      refine zz_istore F (i := 4) (L' := [some (zr 0 0 0), some (zi a1), some (zi a2), some (zi a3), some (zi (q1.1 + q4)), some (zi q1.2), none, none, none]) dX3_giveUp_42 (by decide) rfl rfl ?_
      refine zz_letl (Lf := fun v9 => [some (zr 0 0 0), some (zi a1), some (zi a2), some (zi a3), some (zi v9), some (zi q1.2), none, none, none]) fun v9 => ?_
      refine zz_iinc F (i := 5) (v := q1.2 + 1) (L' := [some (zr 0 0 0), some (zi a1), some (zi a2), some (zi a3), some (zi v9), some (zi (q1.2 + 1)), none, none, none]) dX3_giveUp_44 rfl (by first | rfl | decide) (by decide) rfl rfl ?_
      refine zz_letl (Lf := fun v10 => [some (zr 0 0 0), some (zi a1), some (zi a2), some (zi a3), some (zi v9), some (zi v10), none, none, none]) fun v10 => ?_
      refine zz_goto F (tgt := 6) dX3_giveUp_47 (by decide) ?_
      exact zz_sub (zs_k (zs_k (zs_k (zs_k (zs_k (zs_k (zs_k (zs_k (zs_k zs_z))))))))) (h1 (v9, v10))
    · refine zz_if_eq F (tgt := 40) dX3_giveUp_24 (by decide) (fun h => zz_t h ?_) (fun h => zz_f h ?_)
      · refine zz_iconst F (v := (0 : Int32)) dX3_giveUp_40 (by decide) ?_
        exact zz_sub (zs_k (zs_k (zs_k (zs_k (zs_n (zs_k (zs_k (zs_k (zs_k zs_z))))))))) (hj5 (0 : Int32))
      · refine zz_aload_n F (i := 0) dX3_giveUp_27 rfl rfl ?_
        refine zz_getr F dX3_giveUp_28 wfRX3_11 zCl_3 rfl (⟨zlb rfl, zlb rfl, zlb rfl⟩) rfl (by decide) rfl (r' := 0) (by decide) ?_
        refine zz_iload F (i := 5) dX3_giveUp_31 rfl ?_
        refine zz_ix fun j8 hj8 hinj8 hej8 => zz_aal F dX3_giveUp_33 rfl (⟨zlb rfl, zlb rfl, zlb rfl⟩) rfl (by decide) rfl hinj8 hej8 rfl ?_
        refine zz_getf F dX3_giveUp_34 wfRX3_193 zCl_5 rfl (⟨zlb rfl, zlb rfl, hj8⟩) rfl (by decide) rfl rfl ?_
        refine zz_goto F (tgt := 41) dX3_giveUp_37 (by decide) ?_
        exact zz_sub (zs_k (zs_k (zs_k (zs_k (zs_n (zs_k (zs_k (zs_k (zs_k zs_z))))))))) (hj5 (s0 7 j8 10))
set_option maxHeartbeats 4000000 in
set_option maxRecDepth 20000 in
theorem bfSe_giveUp_l76 {X : zX} (F : zFr X cX3_giveUp 9 RX3 (some .int)) (a1 : Int32) (a3 : Int32) (q2 : (Int32)) (v11 : Int32) (a2 : Int32)  {ψ : (Int32 × Int32 × zM) ⊕ ((Int32 × zM)) → Option zO} (h1 : ∀ q12 : Int32 × Int32 × zM, zZ X [(0, [])] 1 22 9 76 [some (zr 0 0 0), some (zi a1), some (zi a2), some (zi a3), some (zi q2), some (zi v11), some (zi q12.1), some (zi q12.2.1), none] [] [q12.2.2] (ψ (.inl q12))) (h2 : ∀ q13 : Int32 × zM, zZ X [(0, [])] 1 22 9 139 [some (zr 0 0 0), some (zi a1), some (zi a2), some (zi a3), none, none, some (zi q13.1), none, none] [] [q13.2] (ψ (.inr q13))) (q12 : Int32 × Int32 × zM) : zZ X [(0, [])] 1 22 9 76 [some (zr 0 0 0), some (zi a1), some (zi a2), some (zi a3), some (zi q2), some (zi v11), some (zi q12.1), some (zi q12.2.1), none] [] [q12.2.2] (Option.bind (fSe_giveUp_l76 a1 a3 q2 v11 q12) ψ) := by
  unfold fSe_giveUp_l76
  refine zz_iload F (i := 7) dX3_giveUp_76 rfl ?_
  refine zz_aload_n F (i := 0) dX3_giveUp_78 rfl rfl ?_
  refine zz_getf F dX3_giveUp_79 wfRX3_56 zCl_3 rfl (⟨zlb rfl, zlb rfl, zlb rfl⟩) rfl (by decide) rfl rfl ?_
  refine zz_icmp_ge F (tgt := 139) dX3_giveUp_82 (by decide) (fun h => zz_t h ?_) (fun h => zz_f h ?_)
  · exact zz_sub (zs_k (zs_k (zs_k (zs_k (zs_n (zs_n (zs_k (zs_n (zs_k zs_z))))))))) (h2 (q12.1, q12.2.2))
  · refine zz_aload_n F (i := 0) dX3_giveUp_85 rfl rfl ?_
    refine zz_iload F (i := 7) dX3_giveUp_86 rfl ?_
    refine zz_iload_n F (i := 1) dX3_giveUp_88 rfl rfl ?_
    refine zz_bind ?_
    refine zz_callVr F (ρ := [0]) (so := fun q14 => [zi q14]) (Mo := fun q14 => [q12.2.2]) (zfSe_isOn q12.2.1 a1 q12.2.2) dX3_giveUp_89 wcRX3_189 wy_yX3_isOn rfl ⟨rel3, rfl, rfl, Nat.le_of_ble_eq_true rfl, Nat.le_of_ble_eq_true rfl, Nat.le_of_ble_eq_true rfl⟩ (⟨zlb rfl, zlb rfl, zlb rfl⟩) rfl rfl rfl (fun _ => rfl) (fun _ => rfl) fun q14 => ?_
    refine zz_join (pj := 133) (Lj := fun q15 => [some (zr 0 0 0), some (zi a1), some (zi a2), some (zi a3), some (zi q2), some (zi v11), some (zi q15.1), some (zi q12.2.1), none]) (Sj := fun q15 => []) (Mj := fun q15 => [q15.2]) (fun q15 => ?_) (fun κ17 hj16 => ?_)
    · refine zz_iinc F (i := 7) (v := q12.2.1 + 1) (L' := [some (zr 0 0 0), some (zi a1), some (zi a2), some (zi a3), some (zi q2), some (zi v11), some (zi q15.1), some (zi (q12.2.1 + 1)), none]) dX3_giveUp_133 rfl (by first | rfl | decide) (by decide) rfl rfl ?_
      refine zz_letl (Lf := fun v24 => [some (zr 0 0 0), some (zi a1), some (zi a2), some (zi a3), some (zi q2), some (zi v11), some (zi q15.1), some (zi v24), none]) fun v24 => ?_
      refine zz_goto F (tgt := 76) dX3_giveUp_136 (by decide) ?_
      exact zz_sub (zs_k (zs_k (zs_k (zs_k (zs_k (zs_k (zs_k (zs_k (zs_k zs_z))))))))) (h1 (q15.1, v24, q15.2))
    · refine zz_if_eq F (tgt := 133) dX3_giveUp_92 (by decide) (fun h => zz_t h ?_) (fun h => zz_f h ?_)
      · exact zz_sub (zs_k (zs_k (zs_k (zs_k (zs_k (zs_k (zs_k (zs_k (zs_k zs_z))))))))) (hj16 (q12.1, q12.2.2))
      · refine zz_aload_n F (i := 0) dX3_giveUp_95 rfl rfl ?_
        refine zz_getr F dX3_giveUp_96 wfRX3_11 zCl_3 rfl (⟨zlb rfl, zlb rfl, zlb rfl⟩) rfl (by decide) rfl (r' := 0) (by decide) ?_
        refine zz_iload F (i := 7) dX3_giveUp_99 rfl ?_
        refine zz_ix fun j19 hj19 hinj19 hej19 => zz_aal F dX3_giveUp_101 rfl (⟨zlb rfl, zlb rfl, zlb rfl⟩) rfl (by decide) rfl hinj19 hej19 rfl ?_
        refine zz_getf F dX3_giveUp_102 wfRX3_193 zCl_5 rfl (⟨zlb rfl, zlb rfl, hj19⟩) rfl (by decide) rfl rfl ?_
        refine zz_iload F (i := 5) dX3_giveUp_105 rfl ?_
        refine zz_imul F dX3_giveUp_107 ?_
        refine zz_iload F (i := 4) dX3_giveUp_108 rfl ?_
        refine zz_g fun h => zz_idiv F dX3_giveUp_110 h ?_
        refine zz_istore F (i := 8) (L' := [some (zr 0 0 0), some (zi a1), some (zi a2), some (zi a3), some (zi q2), some (zi v11), some (zi q12.1), some (zi q12.2.1), some (zi (((q12.2.2 7 j19 10) * v11) / q2))]) dX3_giveUp_111 (by decide) rfl rfl ?_
        refine zz_letl (Lf := fun v20 => [some (zr 0 0 0), some (zi a1), some (zi a2), some (zi a3), some (zi q2), some (zi v11), some (zi q12.1), some (zi q12.2.1), some (zi v20)]) fun v20 => ?_
        refine zz_aload_n F (i := 0) dX3_giveUp_113 rfl rfl ?_
        refine zz_getr F dX3_giveUp_114 wfRX3_11 zCl_3 rfl (⟨zlb rfl, zlb rfl, zlb rfl⟩) rfl (by decide) rfl (r' := 0) (by decide) ?_
        refine zz_iload F (i := 7) dX3_giveUp_117 rfl ?_
        refine zz_ix fun j21 hj21 hinj21 hej21 => zz_aal F dX3_giveUp_119 rfl (⟨zlb rfl, zlb rfl, zlb rfl⟩) rfl (by decide) rfl hinj21 hej21 rfl ?_
        refine zz_iload F (i := 8) dX3_giveUp_120 rfl ?_
        refine zz_iload_n F (i := 3) dX3_giveUp_122 rfl rfl ?_
        refine zz_bind ?_
        refine zz_callVr F (ρ := [0]) (so := fun q22 => []) (Mo := fun q22 => [q22]) (zfTu_lose j21 v20 a3 hj21 q12.2.2) dX3_giveUp_123 wcRX3_196 wy_yX5_lose rfl ⟨rel3, rfl, rfl, Nat.le_of_ble_eq_true rfl, Nat.le_of_ble_eq_true rfl, Nat.le_of_ble_eq_true rfl⟩ (⟨zlb rfl, zlb rfl, hj21⟩) rfl rfl rfl (fun _ => rfl) (fun _ => rfl) fun q22 => ?_
        refine zz_iload F (i := 6) dX3_giveUp_126 rfl ?_
        refine zz_iload F (i := 8) dX3_giveUp_128 rfl ?_
        refine zz_isub F dX3_giveUp_130 ?_
        refine zz_istore F (i := 6) (L' := [some (zr 0 0 0), some (zi a1), some (zi a2), some (zi a3), some (zi q2), some (zi v11), some (zi (q12.1 - v20)), some (zi q12.2.1), some (zi v20)]) dX3_giveUp_131 (by decide) rfl rfl ?_
        refine zz_letl (Lf := fun v23 => [some (zr 0 0 0), some (zi a1), some (zi a2), some (zi a3), some (zi q2), some (zi v11), some (zi v23), some (zi q12.2.1), some (zi v20)]) fun v23 => ?_
        exact zz_sub (zs_k (zs_k (zs_k (zs_k (zs_k (zs_k (zs_k (zs_k (zs_n zs_z))))))))) (hj16 (v23, q22))
set_option maxHeartbeats 4000000 in
set_option maxRecDepth 20000 in
theorem bfSe_giveUp_l142 {X : zX} (F : zFr X cX3_giveUp 9 RX3 (some .int)) (a1 : Int32) (a3 : Int32) (a2 : Int32)  {ψ : (Int32 × Int32 × zM) ⊕ ((zM)) → Option zO} (h1 : ∀ q25 : Int32 × Int32 × zM, zZ X [(0, [])] 1 22 9 142 [some (zr 0 0 0), some (zi a1), some (zi a2), some (zi a3), none, none, some (zi q25.1), some (zi q25.2.1), none] [] [q25.2.2] (ψ (.inl q25))) (h2 : ∀ q26 : zM, zZ X [(0, [])] 1 22 9 200 [none, none, some (zi a2), none, none, none, none, none, none] [] [q26] (ψ (.inr q26))) (q25 : Int32 × Int32 × zM) : zZ X [(0, [])] 1 22 9 142 [some (zr 0 0 0), some (zi a1), some (zi a2), some (zi a3), none, none, some (zi q25.1), some (zi q25.2.1), none] [] [q25.2.2] (Option.bind (fSe_giveUp_l142 a1 a3 q25) ψ) := by
  unfold fSe_giveUp_l142
  refine zz_iload F (i := 7) dX3_giveUp_142 rfl ?_
  refine zz_aload_n F (i := 0) dX3_giveUp_144 rfl rfl ?_
  refine zz_getf F dX3_giveUp_145 wfRX3_56 zCl_3 rfl (⟨zlb rfl, zlb rfl, zlb rfl⟩) rfl (by decide) rfl rfl ?_
  refine zz_icmp_ge F (tgt := 200) dX3_giveUp_148 (by decide) (fun h => zz_t h ?_) (fun h => zz_f h ?_)
  · exact zz_sub (zs_n (zs_n (zs_k (zs_n (zs_k (zs_k (zs_n (zs_n (zs_k zs_z))))))))) (h2 q25.2.2)
  · refine zz_iload F (i := 6) dX3_giveUp_151 rfl ?_
    refine zz_if_le F (tgt := 200) dX3_giveUp_153 (by decide) (fun h => zz_t h ?_) (fun h => zz_f h ?_)
    · exact zz_sub (zs_n (zs_n (zs_k (zs_n (zs_k (zs_k (zs_n (zs_n (zs_k zs_z))))))))) (h2 q25.2.2)
    · refine zz_aload_n F (i := 0) dX3_giveUp_156 rfl rfl ?_
      refine zz_iload F (i := 7) dX3_giveUp_157 rfl ?_
      refine zz_iload_n F (i := 1) dX3_giveUp_159 rfl rfl ?_
      refine zz_bind ?_
      refine zz_callVr F (ρ := [0]) (so := fun q27 => [zi q27]) (Mo := fun q27 => [q25.2.2]) (zfSe_isOn q25.2.1 a1 q25.2.2) dX3_giveUp_160 wcRX3_189 wy_yX3_isOn rfl ⟨rel3, rfl, rfl, Nat.le_of_ble_eq_true rfl, Nat.le_of_ble_eq_true rfl, Nat.le_of_ble_eq_true rfl⟩ (⟨zlb rfl, zlb rfl, zlb rfl⟩) rfl rfl rfl (fun _ => rfl) (fun _ => rfl) fun q27 => ?_
      refine zz_join (pj := 194) (Lj := fun q28 => [some (zr 0 0 0), some (zi a1), some (zi a2), some (zi a3), none, none, some (zi q28.1), some (zi q25.2.1), none]) (Sj := fun q28 => []) (Mj := fun q28 => [q28.2]) (fun q28 => ?_) (fun κ30 hj29 => ?_)
      · refine zz_iinc F (i := 7) (v := q25.2.1 + 1) (L' := [some (zr 0 0 0), some (zi a1), some (zi a2), some (zi a3), none, none, some (zi q28.1), some (zi (q25.2.1 + 1)), none]) dX3_giveUp_194 rfl (by first | rfl | decide) (by decide) rfl rfl ?_
        refine zz_letl (Lf := fun v36 => [some (zr 0 0 0), some (zi a1), some (zi a2), some (zi a3), none, none, some (zi q28.1), some (zi v36), none]) fun v36 => ?_
        refine zz_goto F (tgt := 142) dX3_giveUp_197 (by decide) ?_
        exact zz_sub (zs_k (zs_k (zs_k (zs_k (zs_k (zs_k (zs_k (zs_k (zs_k zs_z))))))))) (h1 (q28.1, v36, q28.2))
      · refine zz_if_eq F (tgt := 194) dX3_giveUp_163 (by decide) (fun h => zz_t h ?_) (fun h => zz_f h ?_)
        · exact zz_sub (zs_k (zs_k (zs_k (zs_k (zs_k (zs_k (zs_k (zs_k (zs_k zs_z))))))))) (hj29 (q25.1, q25.2.2))
        · refine zz_aload_n F (i := 0) dX3_giveUp_166 rfl rfl ?_
          refine zz_getr F dX3_giveUp_167 wfRX3_11 zCl_3 rfl (⟨zlb rfl, zlb rfl, zlb rfl⟩) rfl (by decide) rfl (r' := 0) (by decide) ?_
          refine zz_iload F (i := 7) dX3_giveUp_170 rfl ?_
          refine zz_ix fun j32 hj32 hinj32 hej32 => zz_aal F dX3_giveUp_172 rfl (⟨zlb rfl, zlb rfl, zlb rfl⟩) rfl (by decide) rfl hinj32 hej32 rfl ?_
          refine zz_getf F dX3_giveUp_173 wfRX3_193 zCl_5 rfl (⟨zlb rfl, zlb rfl, hj32⟩) rfl (by decide) rfl rfl ?_
          refine zz_if_le F (tgt := 194) dX3_giveUp_176 (by decide) (fun h => zz_t h ?_) (fun h => zz_f h ?_)
          · exact zz_sub (zs_k (zs_k (zs_k (zs_k (zs_k (zs_k (zs_k (zs_k (zs_k zs_z))))))))) (hj29 (q25.1, q25.2.2))
          · refine zz_aload_n F (i := 0) dX3_giveUp_179 rfl rfl ?_
            refine zz_getr F dX3_giveUp_180 wfRX3_11 zCl_3 rfl (⟨zlb rfl, zlb rfl, zlb rfl⟩) rfl (by decide) rfl (r' := 0) (by decide) ?_
            refine zz_iload F (i := 7) dX3_giveUp_183 rfl ?_
            refine zz_ix fun j33 hj33 hinj33 hej33 => zz_aal F dX3_giveUp_185 rfl (⟨zlb rfl, zlb rfl, zlb rfl⟩) rfl (by decide) rfl hinj33 hej33 rfl ?_
            refine zz_iconst F (v := (1 : Int32)) dX3_giveUp_186 (by decide) ?_
            refine zz_iload_n F (i := 3) dX3_giveUp_187 rfl rfl ?_
            refine zz_bind ?_
            refine zz_callVr F (ρ := [0]) (so := fun q34 => []) (Mo := fun q34 => [q34]) (zfTu_lose j33 (1 : Int32) a3 hj33 q25.2.2) dX3_giveUp_188 wcRX3_196 wy_yX5_lose rfl ⟨rel3, rfl, rfl, Nat.le_of_ble_eq_true rfl, Nat.le_of_ble_eq_true rfl, Nat.le_of_ble_eq_true rfl⟩ (⟨zlb rfl, zlb rfl, hj33⟩) rfl rfl rfl (fun _ => rfl) (fun _ => rfl) fun q34 => ?_
            refine zz_iinc F (i := 6) (v := q25.1 + (-1)) (L' := [some (zr 0 0 0), some (zi a1), some (zi a2), some (zi a3), none, none, some (zi (q25.1 + (-1))), some (zi q25.2.1), none]) dX3_giveUp_191 rfl (by first | rfl | decide) (by decide) rfl rfl ?_
            refine zz_letl (Lf := fun v35 => [some (zr 0 0 0), some (zi a1), some (zi a2), some (zi a3), none, none, some (zi v35), some (zi q25.2.1), none]) fun v35 => ?_
            exact zz_sub (zs_k (zs_k (zs_k (zs_k (zs_k (zs_k (zs_k (zs_k (zs_k zs_z))))))))) (hj29 (v35, q34))
set_option maxHeartbeats 4000000 in
set_option maxRecDepth 20000 in
theorem bfSe_giveUp {X : zX} (F : zFr X cX3_giveUp 9 RX3 (some .int)) (a1 : Int32) (a2 : Int32) (a3 : Int32)  (s0 : zM) {κ : Int32 × zM → Option zO} (hκ : ∀ a, κ a = some ((fun a => ((.inl ((fun q => some (zi q.1)) a), (fun q => [q.2]) a) : zO)) a)) : zZ X [(0, [])] 1 22 9 0 [some (zr 0 0 0), some (zi a1), some (zi a2), some (zi a3), none, none, none, none, none] [] [s0] (Option.bind (fSe_giveUp a1 a2 a3 s0) κ) := by
  unfold fSe_giveUp
  refine zz_iconst F (v := (0 : Int32)) dX3_giveUp_0 (by decide) ?_
  refine zz_istore F (i := 4) (L' := [some (zr 0 0 0), some (zi a1), some (zi a2), some (zi a3), some (zi (0 : Int32)), none, none, none, none]) dX3_giveUp_1 (by decide) rfl rfl ?_
  refine zz_iconst F (v := (0 : Int32)) dX3_giveUp_3 (by decide) ?_
  refine zz_istore F (i := 5) (L' := [some (zr 0 0 0), some (zi a1), some (zi a2), some (zi a3), some (zi (0 : Int32)), some (zi (0 : Int32)), none, none, none]) dX3_giveUp_4 (by decide) rfl rfl ?_
  refine zz_sub (zs_k (zs_k (zs_k (zs_k (zs_k (zs_k (zs_k (zs_k (zs_k zs_z))))))))) ?_
  refine zz_bind ?_
  refine zz_iter (Lf := fun q1 => [some (zr 0 0 0), some (zi a1), some (zi a2), some (zi a3), some (zi q1.1), some (zi q1.2), none, none, none]) (Mf := fun q1 => [s0]) (fun q1 ψ h1 h2 => bfSe_giveUp_l6 F a1 s0 a2 a3  h1 (fun q2 => ?_)  q1) 1000 ((0 : Int32), (0 : Int32))
  rw [h2]
  refine zz_iload F (i := 4) dX3_giveUp_50 rfl ?_
  refine zz_iload_n F (i := 2) dX3_giveUp_52 rfl rfl ?_
  refine zz_isub F dX3_giveUp_53 ?_
  refine zz_istore F (i := 5) (L' := [some (zr 0 0 0), some (zi a1), some (zi a2), some (zi a3), some (zi q2), some (zi (q2 - a2)), none, none, none]) dX3_giveUp_54 (by decide) rfl rfl ?_
  refine zz_letl (Lf := fun v11 => [some (zr 0 0 0), some (zi a1), some (zi a2), some (zi a3), some (zi q2), some (zi v11), none, none, none]) fun v11 => ?_
  refine zz_iload F (i := 5) dX3_giveUp_56 rfl ?_
  refine zz_if_le F (tgt := 66) dX3_giveUp_58 (by decide) (fun h => zz_t h ?_) (fun h => zz_f h ?_)
  · refine zz_iload F (i := 4) dX3_giveUp_66 rfl ?_
    exact zz_ireturn F dX3_giveUp_68 rfl (hκ _)
  · refine zz_iload F (i := 4) dX3_giveUp_61 rfl ?_
    refine zz_if_gt F (tgt := 69) dX3_giveUp_63 (by decide) (fun h => zz_t h ?_) (fun h => zz_f h ?_)
    · refine zz_iload F (i := 5) dX3_giveUp_69 rfl ?_
      refine zz_istore F (i := 6) (L' := [some (zr 0 0 0), some (zi a1), some (zi a2), some (zi a3), some (zi q2), some (zi v11), some (zi v11), none, none]) dX3_giveUp_71 (by decide) rfl rfl ?_
      refine zz_iconst F (v := (0 : Int32)) dX3_giveUp_73 (by decide) ?_
      refine zz_istore F (i := 7) (L' := [some (zr 0 0 0), some (zi a1), some (zi a2), some (zi a3), some (zi q2), some (zi v11), some (zi v11), some (zi (0 : Int32)), none]) dX3_giveUp_74 (by decide) rfl rfl ?_
      refine zz_sub (zs_k (zs_k (zs_k (zs_k (zs_k (zs_k (zs_k (zs_k (zs_k zs_z))))))))) ?_
      refine zz_bind ?_
      refine zz_iter (Lf := fun q12 => [some (zr 0 0 0), some (zi a1), some (zi a2), some (zi a3), some (zi q2), some (zi v11), some (zi q12.1), some (zi q12.2.1), none]) (Mf := fun q12 => [q12.2.2]) (fun q12 ψ h1 h2 => bfSe_giveUp_l76 F a1 a3 q2 v11 a2  h1 (fun q13 => ?_)  q12) 1000 (v11, (0 : Int32), s0)
      rw [h2]
      refine zz_iconst F (v := (0 : Int32)) dX3_giveUp_139 (by decide) ?_
      refine zz_istore F (i := 7) (L' := [some (zr 0 0 0), some (zi a1), some (zi a2), some (zi a3), none, none, some (zi q13.1), some (zi (0 : Int32)), none]) dX3_giveUp_140 (by decide) rfl rfl ?_
      refine zz_sub (zs_k (zs_k (zs_k (zs_k (zs_k (zs_k (zs_k (zs_k (zs_k zs_z))))))))) ?_
      refine zz_bind ?_
      refine zz_iter (Lf := fun q25 => [some (zr 0 0 0), some (zi a1), some (zi a2), some (zi a3), none, none, some (zi q25.1), some (zi q25.2.1), none]) (Mf := fun q25 => [q25.2.2]) (fun q25 ψ h1 h2 => bfSe_giveUp_l142 F a1 a3 a2  h1 (fun q26 => ?_)  q25) 1000 (q13.1, (0 : Int32), q13.2)
      rw [h2]
      refine zz_iload_n F (i := 2) dX3_giveUp_200 rfl rfl ?_
      exact zz_ireturn F dX3_giveUp_201 rfl (hκ _)
    · refine zz_iload F (i := 4) dX3_giveUp_66 rfl ?_
      exact zz_ireturn F dX3_giveUp_68 rfl (hκ _)
theorem zfSe_giveUp (a1 : Int32) (a2 : Int32) (a3 : Int32)  (s0 : zM) : ∀ a, fSe_giveUp a1 a2 a3 s0 = some a → zMet yX3_giveUp cX3_giveUp 9 (some .int) 1 22 [(0, [])] [zr 0 0 0, zi a1, zi a2, zi a3] [s0] ((fun a => ((.inl ((fun q => some (zi q.1)) a), (fun q => [q.2]) a) : zO)) a) := fun a ha => zMet_of (L0 := [some (zr 0 0 0), some (zi a1), some (zi a2), some (zi a3), none, none, none, none, none]) (φ := Option.bind (fSe_giveUp a1 a2 a3 s0) (fun a => some ((fun a => ((.inl ((fun q => some (zi q.1)) a), (fun q => [q.2]) a) : zO)) a))) (by decide) (fun _ => Nat.le_of_ble_eq_true rfl) (zl0 5 rfl) (fun X F => bfSe_giveUp F a1 a2 a3 s0 (fun _ => rfl)) (by rw [ha]; rfl)

theorem dX0_carry_0 : decode cX0_carry 0 = .ok (.aload_n 0, 1) := by decide +kernel
theorem dX0_carry_1 : decode cX0_carry 1 = .ok (.iload_n 1, 1) := by decide +kernel
theorem dX0_carry_2 : decode cX0_carry 2 = .ok (.putfield 16, 3) := by decide +kernel
theorem dX0_carry_5 : decode cX0_carry 5 = .ok (.aload_n 0, 1) := by decide +kernel
theorem dX0_carry_6 : decode cX0_carry 6 = .ok (.iconst 3, 1) := by decide +kernel
theorem dX0_carry_7 : decode cX0_carry 7 = .ok (.aload_n 0, 1) := by decide +kernel
theorem dX0_carry_8 : decode cX0_carry 8 = .ok (.getfield 13, 3) := by decide +kernel
theorem dX0_carry_11 : decode cX0_carry 11 = .ok (.imul, 1) := by decide +kernel
theorem dX0_carry_12 : decode cX0_carry 12 = .ok (.iload_n 1, 1) := by decide +kernel
theorem dX0_carry_13 : decode cX0_carry 13 = .ok (.iadd, 1) := by decide +kernel
theorem dX0_carry_14 : decode cX0_carry 14 = .ok (.iconst 4, 1) := by decide +kernel
theorem dX0_carry_15 : decode cX0_carry 15 = .ok (.idiv, 1) := by decide +kernel
theorem dX0_carry_16 : decode cX0_carry 16 = .ok (.putfield 13, 3) := by decide +kernel
theorem dX0_carry_19 : decode cX0_carry 19 = .ok (.return_, 1) := by decide +kernel
theorem wpRX0_16 : zFw RX0 16 0 2 .int := ⟨_, rfl, by decide, zm_f 235 (by decide +kernel) rfl, rfl, by decide +kernel⟩
theorem wpRX0_13 : zFw RX0 13 0 1 .int := ⟨_, rfl, by decide, zm_f 233 (by decide +kernel) rfl, rfl, by decide +kernel⟩
def fCa_carry (i : Nat) (a1 : Int32) (s0 : zM) : Option (zM) :=
  zlet (zu s0 12 i 2 a1) fun s0_1 =>
  zlet (zu s0_1 12 i 1 ((((3 : Int32) * (s0_1 12 i 1)) + a1) / (4 : Int32))) fun s0_2 =>
  some s0_2
set_option maxHeartbeats 4000000 in
set_option maxRecDepth 20000 in
theorem bfCa_carry {X : zX} (F : zFr X cX0_carry 2 RX0 none) (i : Nat) (a1 : Int32) (hi : i < 3) (s0 : zM) {κ : zM → Option zO} (hκ : ∀ a, κ a = some ((fun a => ((.inl ((fun _ => (none : Option zV)) a), (fun q => [q]) a) : zO)) a)) : zZ X [(0, [])] 0 0 2 0 [some (zr 0 12 i), some (zi a1)] [] [s0] (Option.bind (fCa_carry i a1 s0) κ) := by
  unfold fCa_carry
  refine zz_aload_n F (i := 0) dX0_carry_0 rfl rfl ?_
  refine zz_iload_n F (i := 1) dX0_carry_1 rfl rfl ?_
  refine zz_put F (Ms' := [(zu s0 12 i 2 a1)]) dX0_carry_2 wpRX0_16 zCl_0 rfl (⟨zlb rfl, zlb rfl, hi⟩) rfl (by decide) rfl rfl rfl ?_
  refine zz_letm (Mf := fun s0_1 => [s0_1]) fun s0_1 => ?_
  refine zz_aload_n F (i := 0) dX0_carry_5 rfl rfl ?_
  refine zz_iconst F (v := (3 : Int32)) dX0_carry_6 (by decide) ?_
  refine zz_aload_n F (i := 0) dX0_carry_7 rfl rfl ?_
  refine zz_getf F dX0_carry_8 wfRX0_13 zCl_0 rfl (⟨zlb rfl, zlb rfl, hi⟩) rfl (by decide) rfl rfl ?_
  refine zz_imul F dX0_carry_11 ?_
  refine zz_iload_n F (i := 1) dX0_carry_12 rfl rfl ?_
  refine zz_iadd F dX0_carry_13 ?_
  refine zz_iconst F (v := (4 : Int32)) dX0_carry_14 (by decide) ?_
  refine zz_idiv F dX0_carry_15 (by decide) ?_
  refine zz_put F (Ms' := [(zu s0_1 12 i 1 ((((3 : Int32) * (s0_1 12 i 1)) + a1) / (4 : Int32)))]) dX0_carry_16 wpRX0_13 zCl_0 rfl (⟨zlb rfl, zlb rfl, hi⟩) rfl (by decide) rfl rfl rfl ?_
  refine zz_letm (Mf := fun s0_2 => [s0_2]) fun s0_2 => ?_
  exact zz_return F dX0_carry_19 rfl (hκ _)
theorem zfCa_carry (i : Nat) (a1 : Int32) (hi : i < 3) (s0 : zM) : ∀ a, fCa_carry i a1 s0 = some a → zMet yX0_carry cX0_carry 2 none 0 0 [(0, [])] [zr 0 12 i, zi a1] [s0] ((fun a => ((.inl ((fun _ => (none : Option zV)) a), (fun q => [q]) a) : zO)) a) := fun a ha => zMet_of (L0 := [some (zr 0 12 i), some (zi a1)]) (φ := Option.bind (fCa_carry i a1 s0) (fun a => some ((fun a => ((.inl ((fun _ => (none : Option zV)) a), (fun q => [q]) a) : zO)) a))) (by decide) (fun _ => Nat.le_of_ble_eq_true rfl) (zl0 0 rfl) (fun X F => bfCa_carry F i a1 hi s0 (fun _ => rfl)) (by rw [ha]; rfl)
end
section
theorem dX3_loadStrings_0 : decode cX3_loadStrings 0 = .ok (.iconst 0, 1) := by decide +kernel
theorem dX3_loadStrings_1 : decode cX3_loadStrings 1 = .ok (.istore_n 1, 1) := by decide +kernel
theorem dX3_loadStrings_2 : decode cX3_loadStrings 2 = .ok (.iload_n 1, 1) := by decide +kernel
theorem dX3_loadStrings_3 : decode cX3_loadStrings 3 = .ok (.aload_n 0, 1) := by decide +kernel
theorem dX3_loadStrings_4 : decode cX3_loadStrings 4 = .ok (.getfield 50, 3) := by decide +kernel
theorem dX3_loadStrings_7 : decode cX3_loadStrings 7 = .ok (.if_icmp .ge 34, 3) := by decide +kernel
theorem dX3_loadStrings_10 : decode cX3_loadStrings 10 = .ok (.aload_n 0, 1) := by decide +kernel
theorem dX3_loadStrings_11 : decode cX3_loadStrings 11 = .ok (.getfield 19, 3) := by decide +kernel
theorem dX3_loadStrings_14 : decode cX3_loadStrings 14 = .ok (.iload_n 1, 1) := by decide +kernel
theorem dX3_loadStrings_15 : decode cX3_loadStrings 15 = .ok (.aaload, 1) := by decide +kernel
theorem dX3_loadStrings_16 : decode cX3_loadStrings 16 = .ok (.aload_n 0, 1) := by decide +kernel
theorem dX3_loadStrings_17 : decode cX3_loadStrings 17 = .ok (.iload_n 1, 1) := by decide +kernel
theorem dX3_loadStrings_18 : decode cX3_loadStrings 18 = .ok (.aload_n 0, 1) := by decide +kernel
theorem dX3_loadStrings_19 : decode cX3_loadStrings 19 = .ok (.getfield 19, 3) := by decide +kernel
theorem dX3_loadStrings_22 : decode cX3_loadStrings 22 = .ok (.iload_n 1, 1) := by decide +kernel
theorem dX3_loadStrings_23 : decode cX3_loadStrings 23 = .ok (.aaload, 1) := by decide +kernel
theorem dX3_loadStrings_24 : decode cX3_loadStrings 24 = .ok (.invokevirtual 183, 3) := by decide +kernel
theorem dX3_loadStrings_27 : decode cX3_loadStrings 27 = .ok (.bipush 6, 2) := by decide +kernel
theorem dX3_loadStrings_29 : decode cX3_loadStrings 29 = .ok (.invokevirtual 166, 3) := by decide +kernel
theorem dX3_loadStrings_32 : decode cX3_loadStrings 32 = .ok (.invokevirtual 185, 3) := by decide +kernel
theorem dX3_loadStrings_35 : decode cX3_loadStrings 35 = .ok (.iinc 1 1, 3) := by decide +kernel
theorem dX3_loadStrings_38 : decode cX3_loadStrings 38 = .ok (.goto (-36), 3) := by decide +kernel
theorem dX3_loadStrings_41 : decode cX3_loadStrings 41 = .ok (.return_, 1) := by decide +kernel
theorem wcRX3_183 : Cond.methodLink RX3 183 yX0_limit ∈ zTg ∧ Cond.instanceMethod yX0_limit ∈ zTg ∧ Cond.selects RX0 yX0_limit yX0_limit ∈ zTg ∧ Cond.initialized RX0 ∈ zTg ∧ Cond.code yX0_limit cX0_limit 1 (some .int) ∈ zTg := ⟨zm_f 652 (by decide +kernel) rfl, zm_f 653 (by decide +kernel) rfl, zm_f 654 (by decide +kernel) rfl, zm_f 43 (by decide +kernel) rfl, zm_f 655 (by decide +kernel) rfl⟩
theorem wy_yX0_limit : yX0_limit.cls = RX0 ∧ yX0_limit.cls ≠ "java/lang/invoke/MethodHandle" ∧ yX0_limit.cls ≠ "java/lang/invoke/VarHandle" ∧ (parseMethodDescriptor yX0_limit.desc).map (fun d => d.parameters.length) = some 0 := by decide +kernel
theorem wcRX3_166 : Cond.methodLink RX3 166 yX3_giveUp ∈ zTg ∧ Cond.instanceMethod yX3_giveUp ∈ zTg ∧ Cond.selects RX3 yX3_giveUp yX3_giveUp ∈ zTg ∧ Cond.initialized RX3 ∈ zTg ∧ Cond.code yX3_giveUp cX3_giveUp 9 (some .int) ∈ zTg := ⟨zm_f 656 (by decide +kernel) rfl, zm_f 658 (by decide +kernel) rfl, zm_f 9 (by decide +kernel) rfl, zm_f 38 (by decide +kernel) rfl, zm_f 659 (by decide +kernel) rfl⟩
theorem wy_yX3_giveUp : yX3_giveUp.cls = RX3 ∧ yX3_giveUp.cls ≠ "java/lang/invoke/MethodHandle" ∧ yX3_giveUp.cls ≠ "java/lang/invoke/VarHandle" ∧ (parseMethodDescriptor yX3_giveUp.desc).map (fun d => d.parameters.length) = some 3 := by decide +kernel
theorem wcRX3_185 : Cond.methodLink RX3 185 yX0_carry ∈ zTg ∧ Cond.instanceMethod yX0_carry ∈ zTg ∧ Cond.selects RX0 yX0_carry yX0_carry ∈ zTg ∧ Cond.initialized RX0 ∈ zTg ∧ Cond.code yX0_carry cX0_carry 2 none ∈ zTg := ⟨zm_f 665 (by decide +kernel) rfl, zm_f 666 (by decide +kernel) rfl, zm_f 667 (by decide +kernel) rfl, zm_f 43 (by decide +kernel) rfl, zm_f 668 (by decide +kernel) rfl⟩
theorem wy_yX0_carry : yX0_carry.cls = RX0 ∧ yX0_carry.cls ≠ "java/lang/invoke/MethodHandle" ∧ yX0_carry.cls ≠ "java/lang/invoke/VarHandle" ∧ (parseMethodDescriptor yX0_carry.desc).map (fun d => d.parameters.length) = some 1 := by decide +kernel
def fSe_loadStrings_l2  (q1 : Int32 × zM) : Option ((Int32 × zM) ⊕ ((zM))) :=
  if (q1.2 0 0 6) ≤ q1.1 then
  some (.inr q1.2)
else
  zix q1.1 3 fun j3 =>
    zix q1.1 3 fun j4 =>
    Option.bind (fCa_limit j4 q1.2) fun q5 =>
    Option.bind (fSe_giveUp q1.1 q5 (6 : Int32) q1.2) fun q6 =>
    Option.bind (fCa_carry j3 q6.1 q6.2) fun q7 =>
    zlet (q1.1 + 1) fun v8 =>
    some (.inl (v8, q7))
def fSe_loadStrings  (s0 : zM) : Option (zM) :=
  Option.bind (ziter (fSe_loadStrings_l2 ) 1000 ((0 : Int32), s0)) fun q2 =>
  some q2
set_option maxHeartbeats 4000000 in
set_option maxRecDepth 20000 in
theorem bfSe_loadStrings_l2 {X : zX} (F : zFr X cX3_loadStrings 2 RX3 none)   {ψ : (Int32 × zM) ⊕ ((zM)) → Option zO} (h1 : ∀ q1 : Int32 × zM, zZ X [(0, [])] 2 50 2 2 [some (zr 0 0 0), some (zi q1.1)] [] [q1.2] (ψ (.inl q1))) (h2 : ∀ q2 : zM, zZ X [(0, [])] 2 50 2 41 [none, none] [] [q2] (ψ (.inr q2))) (q1 : Int32 × zM) : zZ X [(0, [])] 2 50 2 2 [some (zr 0 0 0), some (zi q1.1)] [] [q1.2] (Option.bind (fSe_loadStrings_l2  q1) ψ) := by
  unfold fSe_loadStrings_l2
  refine zz_iload_n F (i := 1) dX3_loadStrings_2 rfl rfl ?_
  refine zz_aload_n F (i := 0) dX3_loadStrings_3 rfl rfl ?_
  refine zz_getf F dX3_loadStrings_4 wfRX3_50 zCl_3 rfl (⟨zlb rfl, zlb rfl, zlb rfl⟩) rfl (by decide) rfl rfl ?_
  refine zz_icmp_ge F (tgt := 41) dX3_loadStrings_7 (by decide) (fun h => zz_t h ?_) (fun h => zz_f h ?_)
  · exact zz_sub (zs_n (zs_n zs_z)) (h2 q1.2)
  · refine zz_aload_n F (i := 0) dX3_loadStrings_10 rfl rfl ?_
    refine zz_getr F dX3_loadStrings_11 wfRX3_19 zCl_3 rfl (⟨zlb rfl, zlb rfl, zlb rfl⟩) rfl (by decide) rfl (r' := 0) (by decide) ?_
    refine zz_iload_n F (i := 1) dX3_loadStrings_14 rfl rfl ?_
    refine zz_ix fun j3 hj3 hinj3 hej3 => zz_aal F dX3_loadStrings_15 rfl (⟨zlb rfl, zlb rfl, zlb rfl⟩) rfl (by decide) rfl hinj3 hej3 rfl ?_
    refine zz_aload_n F (i := 0) dX3_loadStrings_16 rfl rfl ?_
    refine zz_iload_n F (i := 1) dX3_loadStrings_17 rfl rfl ?_
    refine zz_aload_n F (i := 0) dX3_loadStrings_18 rfl rfl ?_
    refine zz_getr F dX3_loadStrings_19 wfRX3_19 zCl_3 rfl (⟨zlb rfl, zlb rfl, zlb rfl⟩) rfl (by decide) rfl (r' := 0) (by decide) ?_
    refine zz_iload_n F (i := 1) dX3_loadStrings_22 rfl rfl ?_
    refine zz_ix fun j4 hj4 hinj4 hej4 => zz_aal F dX3_loadStrings_23 rfl (⟨zlb rfl, zlb rfl, zlb rfl⟩) rfl (by decide) rfl hinj4 hej4 rfl ?_
    refine zz_bind ?_
    refine zz_callVr F (ρ := [0]) (so := fun q5 => [zi q5, zi q1.1, zr 0 0 0, zr 0 12 j3]) (Mo := fun q5 => [q1.2]) (zfCa_limit j4 hj4 q1.2) dX3_loadStrings_24 wcRX3_183 wy_yX0_limit rfl ⟨rel3, rfl, rfl, Nat.le_of_ble_eq_true rfl, Nat.le_of_ble_eq_true rfl, Nat.le_of_ble_eq_true rfl⟩ (⟨zlb rfl, zlb rfl, hj4⟩) rfl rfl rfl (fun _ => rfl) (fun _ => rfl) fun q5 => ?_
    refine zz_bipush F (v := (6 : Int32)) dX3_loadStrings_27 (by decide) ?_
    refine zz_bind ?_
    refine zz_callVr F (ρ := [0]) (so := fun q6 => [zi q6.1, zr 0 12 j3]) (Mo := fun q6 => [q6.2]) (zfSe_giveUp q1.1 q5 (6 : Int32) q1.2) dX3_loadStrings_29 wcRX3_166 wy_yX3_giveUp rfl ⟨rel3, rfl, rfl, Nat.le_of_ble_eq_true rfl, Nat.le_of_ble_eq_true rfl, Nat.le_of_ble_eq_true rfl⟩ (⟨zlb rfl, zlb rfl, zlb rfl⟩) rfl rfl rfl (fun _ => rfl) (fun _ => rfl) fun q6 => ?_
    refine zz_bind ?_
    refine zz_callVr F (ρ := [0]) (so := fun q7 => []) (Mo := fun q7 => [q7]) (zfCa_carry j3 q6.1 hj3 q6.2) dX3_loadStrings_32 wcRX3_185 wy_yX0_carry rfl ⟨rel3, rfl, rfl, Nat.le_of_ble_eq_true rfl, Nat.le_of_ble_eq_true rfl, Nat.le_of_ble_eq_true rfl⟩ (⟨zlb rfl, zlb rfl, hj3⟩) rfl rfl rfl (fun _ => rfl) (fun _ => rfl) fun q7 => ?_
    refine zz_iinc F (i := 1) (v := q1.1 + 1) (L' := [some (zr 0 0 0), some (zi (q1.1 + 1))]) dX3_loadStrings_35 rfl (by first | rfl | decide) (by decide) rfl rfl ?_
    refine zz_letl (Lf := fun v8 => [some (zr 0 0 0), some (zi v8)]) fun v8 => ?_
    refine zz_goto F (tgt := 2) dX3_loadStrings_38 (by decide) ?_
    exact zz_sub (zs_k (zs_k zs_z)) (h1 (v8, q7))
set_option maxHeartbeats 4000000 in
set_option maxRecDepth 20000 in
theorem bfSe_loadStrings {X : zX} (F : zFr X cX3_loadStrings 2 RX3 none)   (s0 : zM) {κ : zM → Option zO} (hκ : ∀ a, κ a = some ((fun a => ((.inl ((fun _ => (none : Option zV)) a), (fun q => [q]) a) : zO)) a)) : zZ X [(0, [])] 2 50 2 0 [some (zr 0 0 0), none] [] [s0] (Option.bind (fSe_loadStrings s0) κ) := by
  unfold fSe_loadStrings
  refine zz_iconst F (v := (0 : Int32)) dX3_loadStrings_0 (by decide) ?_
  refine zz_istore_n F (i := 1) (L' := [some (zr 0 0 0), some (zi (0 : Int32))]) dX3_loadStrings_1 rfl (by decide) rfl rfl ?_
  refine zz_sub (zs_k (zs_k zs_z)) ?_
  refine zz_bind ?_
  refine zz_iter (Lf := fun q1 => [some (zr 0 0 0), some (zi q1.1)]) (Mf := fun q1 => [q1.2]) (fun q1 ψ h1 h2 => bfSe_loadStrings_l2 F   h1 (fun q2 => ?_)  q1) 1000 ((0 : Int32), s0)
  rw [h2]
  exact zz_return F dX3_loadStrings_41 rfl (hκ _)
theorem zfSe_loadStrings   (s0 : zM) : ∀ a, fSe_loadStrings s0 = some a → zMet yX3_loadStrings cX3_loadStrings 2 none 2 50 [(0, [])] [zr 0 0 0] [s0] ((fun a => ((.inl ((fun _ => (none : Option zV)) a), (fun q => [q]) a) : zO)) a) := fun a ha => zMet_of (L0 := [some (zr 0 0 0), none]) (φ := Option.bind (fSe_loadStrings s0) (fun a => some ((fun a => ((.inl ((fun _ => (none : Option zV)) a), (fun q => [q]) a) : zO)) a))) (by decide) (fun _ => Nat.le_of_ble_eq_true rfl) (zl0 1 rfl) (fun X F => bfSe_loadStrings F s0 (fun _ => rfl)) (by rw [ha]; rfl)

theorem dX2_takeNominated_0 : decode cX2_takeNominated 0 = .ok (.aload_n 0, 1) := by decide +kernel
theorem dX2_takeNominated_1 : decode cX2_takeNominated 1 = .ok (.getfield 9, 3) := by decide +kernel
theorem dX2_takeNominated_4 : decode cX2_takeNominated 4 = .ok (.iconst 0, 1) := by decide +kernel
theorem dX2_takeNominated_5 : decode cX2_takeNominated 5 = .ok (.iaload, 1) := by decide +kernel
theorem dX2_takeNominated_6 : decode cX2_takeNominated 6 = .ok (.istore_n 1, 1) := by decide +kernel
theorem dX2_takeNominated_7 : decode cX2_takeNominated 7 = .ok (.iconst 1, 1) := by decide +kernel
theorem dX2_takeNominated_8 : decode cX2_takeNominated 8 = .ok (.istore_n 2, 1) := by decide +kernel
theorem dX2_takeNominated_9 : decode cX2_takeNominated 9 = .ok (.iload_n 2, 1) := by decide +kernel
theorem dX2_takeNominated_10 : decode cX2_takeNominated 10 = .ok (.bipush 24, 2) := by decide +kernel
theorem dX2_takeNominated_12 : decode cX2_takeNominated 12 = .ok (.if_icmp .ge 23, 3) := by decide +kernel
theorem dX2_takeNominated_15 : decode cX2_takeNominated 15 = .ok (.aload_n 0, 1) := by decide +kernel
theorem dX2_takeNominated_16 : decode cX2_takeNominated 16 = .ok (.getfield 9, 3) := by decide +kernel
theorem dX2_takeNominated_19 : decode cX2_takeNominated 19 = .ok (.iload_n 2, 1) := by decide +kernel
theorem dX2_takeNominated_20 : decode cX2_takeNominated 20 = .ok (.iconst 1, 1) := by decide +kernel
theorem dX2_takeNominated_21 : decode cX2_takeNominated 21 = .ok (.isub, 1) := by decide +kernel
theorem dX2_takeNominated_22 : decode cX2_takeNominated 22 = .ok (.aload_n 0, 1) := by decide +kernel
theorem dX2_takeNominated_23 : decode cX2_takeNominated 23 = .ok (.getfield 9, 3) := by decide +kernel
theorem dX2_takeNominated_26 : decode cX2_takeNominated 26 = .ok (.iload_n 2, 1) := by decide +kernel
theorem dX2_takeNominated_27 : decode cX2_takeNominated 27 = .ok (.iaload, 1) := by decide +kernel
theorem dX2_takeNominated_28 : decode cX2_takeNominated 28 = .ok (.iastore, 1) := by decide +kernel
theorem dX2_takeNominated_29 : decode cX2_takeNominated 29 = .ok (.iinc 2 1, 3) := by decide +kernel
theorem dX2_takeNominated_32 : decode cX2_takeNominated 32 = .ok (.goto (-23), 3) := by decide +kernel
theorem dX2_takeNominated_35 : decode cX2_takeNominated 35 = .ok (.aload_n 0, 1) := by decide +kernel
theorem dX2_takeNominated_36 : decode cX2_takeNominated 36 = .ok (.getfield 9, 3) := by decide +kernel
theorem dX2_takeNominated_39 : decode cX2_takeNominated 39 = .ok (.bipush 23, 2) := by decide +kernel
theorem dX2_takeNominated_41 : decode cX2_takeNominated 41 = .ok (.iconst (-1), 1) := by decide +kernel
theorem dX2_takeNominated_42 : decode cX2_takeNominated 42 = .ok (.iastore, 1) := by decide +kernel
theorem dX2_takeNominated_43 : decode cX2_takeNominated 43 = .ok (.iload_n 1, 1) := by decide +kernel
theorem dX2_takeNominated_44 : decode cX2_takeNominated 44 = .ok (.ireturn, 1) := by decide +kernel
def fLe_takeNominated_l9  (q3 : Int32 × zM) : Option ((Int32 × zM) ⊕ ((zM))) :=
  if (24 : Int32) ≤ q3.1 then
  some (.inr q3.2)
else
  zix q3.1 24 fun j5 =>
    zix (q3.1 - (1 : Int32)) 24 fun j6 =>
    zlet (zu q3.2 6 0 j6 (q3.2 6 0 j5)) fun s0_7 =>
    zlet (q3.1 + 1) fun v8 =>
    some (.inl (v8, s0_7))
def fLe_takeNominated  (s0 : zM) : Option (Int32 × zM) :=
  zix (0 : Int32) 24 fun j1 =>
  zlet ((s0 6 0 j1)) fun v2 =>
  Option.bind (ziter (fLe_takeNominated_l9 ) 1000 ((1 : Int32), s0)) fun q4 =>
  zix (23 : Int32) 24 fun j9 =>
  zlet (zu q4 6 0 j9 (-1 : Int32)) fun s0_10 =>
  some (v2, s0_10)
set_option maxHeartbeats 4000000 in
set_option maxRecDepth 20000 in
theorem bfLe_takeNominated_l9 {X : zX} (F : zFr X cX2_takeNominated 3 RX2 (some .int)) (v2 : Int32)  {ψ : (Int32 × zM) ⊕ ((zM)) → Option zO} (h1 : ∀ q3 : Int32 × zM, zZ X [(0, [])] 0 0 3 9 [some (zr 0 5 0), some (zi v2), some (zi q3.1)] [] [q3.2] (ψ (.inl q3))) (h2 : ∀ q4 : zM, zZ X [(0, [])] 0 0 3 35 [some (zr 0 5 0), some (zi v2), none] [] [q4] (ψ (.inr q4))) (q3 : Int32 × zM) : zZ X [(0, [])] 0 0 3 9 [some (zr 0 5 0), some (zi v2), some (zi q3.1)] [] [q3.2] (Option.bind (fLe_takeNominated_l9  q3) ψ) := by
  unfold fLe_takeNominated_l9
  refine zz_iload_n F (i := 2) dX2_takeNominated_9 rfl rfl ?_
  refine zz_bipush F (v := (24 : Int32)) dX2_takeNominated_10 (by decide) ?_
  refine zz_icmp_ge F (tgt := 35) dX2_takeNominated_12 (by decide) (fun h => zz_t h ?_) (fun h => zz_f h ?_)
  · exact zz_sub (zs_k (zs_k (zs_n zs_z))) (h2 q3.2)
  · refine zz_aload_n F (i := 0) dX2_takeNominated_15 rfl rfl ?_
    refine zz_getr F dX2_takeNominated_16 wfRX2_9 zCl_2 rfl (⟨zlb rfl, zlb rfl, zlb rfl⟩) rfl (by decide) rfl (r' := 0) (by decide) ?_
    refine zz_iload_n F (i := 2) dX2_takeNominated_19 rfl rfl ?_
    refine zz_iconst F (v := (1 : Int32)) dX2_takeNominated_20 (by decide) ?_
    refine zz_isub F dX2_takeNominated_21 ?_
    refine zz_aload_n F (i := 0) dX2_takeNominated_22 rfl rfl ?_
    refine zz_getr F dX2_takeNominated_23 wfRX2_9 zCl_2 rfl (⟨zlb rfl, zlb rfl, zlb rfl⟩) rfl (by decide) rfl (r' := 0) (by decide) ?_
    refine zz_iload_n F (i := 2) dX2_takeNominated_26 rfl rfl ?_
    refine zz_ix fun j5 hj5 hinj5 hej5 => zz_ial F dX2_takeNominated_27 rfl (⟨zlb rfl, zlb rfl, zlb rfl⟩) rfl hinj5 hej5 ?_
    refine zz_ix fun j6 hj6 hinj6 hej6 => zz_ias F (Ms' := [(zu q3.2 6 0 j6 (q3.2 6 0 j5))]) dX2_takeNominated_28 rfl (⟨zlb rfl, zlb rfl, zlb rfl⟩) rfl hinj6 hej6 rfl ?_
    refine zz_letm (Mf := fun s0_7 => [s0_7]) fun s0_7 => ?_
    refine zz_iinc F (i := 2) (v := q3.1 + 1) (L' := [some (zr 0 5 0), some (zi v2), some (zi (q3.1 + 1))]) dX2_takeNominated_29 rfl (by first | rfl | decide) (by decide) rfl rfl ?_
    refine zz_letl (Lf := fun v8 => [some (zr 0 5 0), some (zi v2), some (zi v8)]) fun v8 => ?_
    refine zz_goto F (tgt := 9) dX2_takeNominated_32 (by decide) ?_
    exact zz_sub (zs_k (zs_k (zs_k zs_z))) (h1 (v8, s0_7))
set_option maxHeartbeats 4000000 in
set_option maxRecDepth 20000 in
theorem bfLe_takeNominated {X : zX} (F : zFr X cX2_takeNominated 3 RX2 (some .int))   (s0 : zM) {κ : Int32 × zM → Option zO} (hκ : ∀ a, κ a = some ((fun a => ((.inl ((fun q => some (zi q.1)) a), (fun q => [q.2]) a) : zO)) a)) : zZ X [(0, [])] 0 0 3 0 [some (zr 0 5 0), none, none] [] [s0] (Option.bind (fLe_takeNominated s0) κ) := by
  unfold fLe_takeNominated
  refine zz_aload_n F (i := 0) dX2_takeNominated_0 rfl rfl ?_
  refine zz_getr F dX2_takeNominated_1 wfRX2_9 zCl_2 rfl (⟨zlb rfl, zlb rfl, zlb rfl⟩) rfl (by decide) rfl (r' := 0) (by decide) ?_
  refine zz_iconst F (v := (0 : Int32)) dX2_takeNominated_4 (by decide) ?_
  refine zz_ix fun j1 hj1 hinj1 hej1 => zz_ial F dX2_takeNominated_5 rfl (⟨zlb rfl, zlb rfl, zlb rfl⟩) rfl hinj1 hej1 ?_
  refine zz_istore_n F (i := 1) (L' := [some (zr 0 5 0), some (zi (s0 6 0 j1)), none]) dX2_takeNominated_6 rfl (by decide) rfl rfl ?_
  refine zz_letl (Lf := fun v2 => [some (zr 0 5 0), some (zi v2), none]) fun v2 => ?_
  refine zz_iconst F (v := (1 : Int32)) dX2_takeNominated_7 (by decide) ?_
  refine zz_istore_n F (i := 2) (L' := [some (zr 0 5 0), some (zi v2), some (zi (1 : Int32))]) dX2_takeNominated_8 rfl (by decide) rfl rfl ?_
  refine zz_sub (zs_k (zs_k (zs_k zs_z))) ?_
  refine zz_bind ?_
  refine zz_iter (Lf := fun q3 => [some (zr 0 5 0), some (zi v2), some (zi q3.1)]) (Mf := fun q3 => [q3.2]) (fun q3 ψ h1 h2 => bfLe_takeNominated_l9 F v2  h1 (fun q4 => ?_)  q3) 1000 ((1 : Int32), s0)
  rw [h2]
  refine zz_aload_n F (i := 0) dX2_takeNominated_35 rfl rfl ?_
  refine zz_getr F dX2_takeNominated_36 wfRX2_9 zCl_2 rfl (⟨zlb rfl, zlb rfl, zlb rfl⟩) rfl (by decide) rfl (r' := 0) (by decide) ?_
  refine zz_bipush F (v := (23 : Int32)) dX2_takeNominated_39 (by decide) ?_
  refine zz_iconst F (v := (-1 : Int32)) dX2_takeNominated_41 (by decide) ?_
  refine zz_ix fun j9 hj9 hinj9 hej9 => zz_ias F (Ms' := [(zu q4 6 0 j9 (-1 : Int32))]) dX2_takeNominated_42 rfl (⟨zlb rfl, zlb rfl, zlb rfl⟩) rfl hinj9 hej9 rfl ?_
  refine zz_letm (Mf := fun s0_10 => [s0_10]) fun s0_10 => ?_
  refine zz_iload_n F (i := 1) dX2_takeNominated_43 rfl rfl ?_
  exact zz_ireturn F dX2_takeNominated_44 rfl (hκ _)
theorem zfLe_takeNominated   (s0 : zM) : ∀ a, fLe_takeNominated s0 = some a → zMet yX2_takeNominated cX2_takeNominated 3 (some .int) 0 0 [(0, [])] [zr 0 5 0] [s0] ((fun a => ((.inl ((fun q => some (zi q.1)) a), (fun q => [q.2]) a) : zO)) a) := fun a ha => zMet_of (L0 := [some (zr 0 5 0), none, none]) (φ := Option.bind (fLe_takeNominated s0) (fun a => some ((fun a => ((.inl ((fun q => some (zi q.1)) a), (fun q => [q.2]) a) : zO)) a))) (by decide) (fun _ => Nat.le_of_ble_eq_true rfl) (zl0 2 rfl) (fun X F => bfLe_takeNominated F s0 (fun _ => rfl)) (by rw [ha]; rfl)

theorem dX2_book_0 : decode cX2_book 0 = .ok (.aload_n 0, 1) := by decide +kernel
theorem dX2_book_1 : decode cX2_book 1 = .ok (.dup, 1) := by decide +kernel
theorem dX2_book_2 : decode cX2_book 2 = .ok (.getfield 21, 3) := by decide +kernel
theorem dX2_book_5 : decode cX2_book 5 = .ok (.iload_n 1, 1) := by decide +kernel
theorem dX2_book_6 : decode cX2_book 6 = .ok (.iadd, 1) := by decide +kernel
theorem dX2_book_7 : decode cX2_book 7 = .ok (.putfield 21, 3) := by decide +kernel
theorem dX2_book_10 : decode cX2_book 10 = .ok (.aload_n 0, 1) := by decide +kernel
theorem dX2_book_11 : decode cX2_book 11 = .ok (.iload_n 2, 1) := by decide +kernel
theorem dX2_book_12 : decode cX2_book 12 = .ok (.putfield 28, 3) := by decide +kernel
theorem dX2_book_15 : decode cX2_book 15 = .ok (.aload_n 0, 1) := by decide +kernel
theorem dX2_book_16 : decode cX2_book 16 = .ok (.dup, 1) := by decide +kernel
theorem dX2_book_17 : decode cX2_book 17 = .ok (.getfield 25, 3) := by decide +kernel
theorem dX2_book_20 : decode cX2_book 20 = .ok (.iload_n 2, 1) := by decide +kernel
theorem dX2_book_21 : decode cX2_book 21 = .ok (.iadd, 1) := by decide +kernel
theorem dX2_book_22 : decode cX2_book 22 = .ok (.putfield 25, 3) := by decide +kernel
theorem dX2_book_25 : decode cX2_book 25 = .ok (.aload_n 0, 1) := by decide +kernel
theorem dX2_book_26 : decode cX2_book 26 = .ok (.dup, 1) := by decide +kernel
theorem dX2_book_27 : decode cX2_book 27 = .ok (.getfield 31, 3) := by decide +kernel
theorem dX2_book_30 : decode cX2_book 30 = .ok (.iload_n 2, 1) := by decide +kernel
theorem dX2_book_31 : decode cX2_book 31 = .ok (.iload_n 3, 1) := by decide +kernel
theorem dX2_book_32 : decode cX2_book 32 = .ok (.imul, 1) := by decide +kernel
theorem dX2_book_33 : decode cX2_book 33 = .ok (.bipush 100, 2) := by decide +kernel
theorem dX2_book_35 : decode cX2_book 35 = .ok (.idiv, 1) := by decide +kernel
theorem dX2_book_36 : decode cX2_book 36 = .ok (.iadd, 1) := by decide +kernel
theorem dX2_book_37 : decode cX2_book 37 = .ok (.putfield 31, 3) := by decide +kernel
theorem dX2_book_40 : decode cX2_book 40 = .ok (.aload_n 0, 1) := by decide +kernel
theorem dX2_book_41 : decode cX2_book 41 = .ok (.invokevirtual 34, 3) := by decide +kernel
theorem dX2_book_44 : decode cX2_book 44 = .ok (.istore 4, 2) := by decide +kernel
theorem dX2_book_46 : decode cX2_book 46 = .ok (.iload 4, 2) := by decide +kernel
theorem dX2_book_48 : decode cX2_book 48 = .ok (.iconst (-1), 1) := by decide +kernel
theorem dX2_book_49 : decode cX2_book 49 = .ok (.if_icmp .eq 25, 3) := by decide +kernel
theorem dX2_book_52 : decode cX2_book 52 = .ok (.aload_n 0, 1) := by decide +kernel
theorem dX2_book_53 : decode cX2_book 53 = .ok (.dup, 1) := by decide +kernel
theorem dX2_book_54 : decode cX2_book 54 = .ok (.getfield 31, 3) := by decide +kernel
theorem dX2_book_57 : decode cX2_book 57 = .ok (.iload 4, 2) := by decide +kernel
theorem dX2_book_59 : decode cX2_book 59 = .ok (.iload_n 2, 1) := by decide +kernel
theorem dX2_book_60 : decode cX2_book 60 = .ok (.isub, 1) := by decide +kernel
theorem dX2_book_61 : decode cX2_book 61 = .ok (.invokestatic 38, 3) := by decide +kernel
theorem dX2_book_64 : decode cX2_book 64 = .ok (.bipush 20, 2) := by decide +kernel
theorem dX2_book_66 : decode cX2_book 66 = .ok (.imul, 1) := by decide +kernel
theorem dX2_book_67 : decode cX2_book 67 = .ok (.bipush 100, 2) := by decide +kernel
theorem dX2_book_69 : decode cX2_book 69 = .ok (.idiv, 1) := by decide +kernel
theorem dX2_book_70 : decode cX2_book 70 = .ok (.isub, 1) := by decide +kernel
theorem dX2_book_71 : decode cX2_book 71 = .ok (.putfield 31, 3) := by decide +kernel
theorem dX2_book_74 : decode cX2_book 74 = .ok (.return_, 1) := by decide +kernel
theorem wfRX2_21 : zFl RX2 21 2 1 := ⟨_, rfl, by decide, zm_f 114 (by decide +kernel) rfl⟩
theorem wpRX2_21 : zFw RX2 21 2 1 .int := ⟨_, rfl, by decide, zm_f 114 (by decide +kernel) rfl, rfl, by decide +kernel⟩
theorem wpRX2_28 : zFw RX2 28 2 3 .int := ⟨_, rfl, by decide, zm_f 118 (by decide +kernel) rfl, rfl, by decide +kernel⟩
theorem wfRX2_25 : zFl RX2 25 2 2 := ⟨_, rfl, by decide, zm_f 116 (by decide +kernel) rfl⟩
theorem wpRX2_25 : zFw RX2 25 2 2 .int := ⟨_, rfl, by decide, zm_f 116 (by decide +kernel) rfl, rfl, by decide +kernel⟩
theorem wfRX2_31 : zFl RX2 31 2 4 := ⟨_, rfl, by decide, zm_f 120 (by decide +kernel) rfl⟩
theorem wpRX2_31 : zFw RX2 31 2 4 .int := ⟨_, rfl, by decide, zm_f 120 (by decide +kernel) rfl, rfl, by decide +kernel⟩
theorem wcRX2_34 : Cond.methodLink RX2 34 yX2_takeNominated ∈ zTg ∧ Cond.instanceMethod yX2_takeNominated ∈ zTg ∧ Cond.selects RX2 yX2_takeNominated yX2_takeNominated ∈ zTg ∧ Cond.initialized RX2 ∈ zTg ∧ Cond.code yX2_takeNominated cX2_takeNominated 3 (some .int) ∈ zTg := ⟨zm_f 673 (by decide +kernel) rfl, zm_f 675 (by decide +kernel) rfl, zm_f 11 (by decide +kernel) rfl, zm_f 40 (by decide +kernel) rfl, zm_f 676 (by decide +kernel) rfl⟩
theorem wy_yX2_takeNominated : yX2_takeNominated.cls = RX2 ∧ yX2_takeNominated.cls ≠ "java/lang/invoke/MethodHandle" ∧ yX2_takeNominated.cls ≠ "java/lang/invoke/VarHandle" ∧ (parseMethodDescriptor yX2_takeNominated.desc).map (fun d => d.parameters.length) = some 0 := by decide +kernel
theorem wmRX2_38 : Cond.methodLink RX2 38 Lib.Math.abs.name ∈ zTg := zm_f 677 (by decide +kernel) rfl
theorem wMath_abs : Cond.static Lib.Math.abs.name ∈ zTg ∧ Cond.initialized "java/lang/Math" ∈ zTg ∧ Cond.code Lib.Math.abs.name Lib.Math.abs.code 1 (some .int) ∈ zTg := ⟨zm_f 678 (by decide +kernel) rfl, zm_f 56 (by decide +kernel) rfl, zm_f 679 (by decide +kernel) rfl⟩
def fLe_book (a1 : Int32) (a2 : Int32) (a3 : Int32) (s0 : zM) : Option (zM) :=
  zlet (zu s0 5 0 1 ((s0 5 0 1) + a1)) fun s0_1 =>
  zlet (zu s0_1 5 0 3 a2) fun s0_2 =>
  zlet (zu s0_2 5 0 2 ((s0_2 5 0 2) + a2)) fun s0_3 =>
  zlet (zu s0_3 5 0 4 ((s0_3 5 0 4) + ((a2 * a3) / (100 : Int32)))) fun s0_4 =>
  Option.bind (fLe_takeNominated s0_4) fun q5 =>
  if q5.1 = (-1 : Int32) then
  some q5.2
else
  zlet (zu q5.2 5 0 4 ((q5.2 5 0 4) - (((zabs (q5.1 - a2)) * (20 : Int32)) / (100 : Int32)))) fun s0_6 =>
    some s0_6
set_option maxHeartbeats 4000000 in
set_option maxRecDepth 20000 in
theorem bfLe_book {X : zX} (F : zFr X cX2_book 5 RX2 none) (a1 : Int32) (a2 : Int32) (a3 : Int32)  (s0 : zM) {κ : zM → Option zO} (hκ : ∀ a, κ a = some ((fun a => ((.inl ((fun _ => (none : Option zV)) a), (fun q => [q]) a) : zO)) a)) : zZ X [(0, [])] 1 23 5 0 [some (zr 0 5 0), some (zi a1), some (zi a2), some (zi a3), none] [] [s0] (Option.bind (fLe_book a1 a2 a3 s0) κ) := by
  unfold fLe_book
  refine zz_aload_n F (i := 0) dX2_book_0 rfl rfl ?_
  refine zz_dup F dX2_book_1 rfl ?_
  refine zz_getf F dX2_book_2 wfRX2_21 zCl_2 rfl (⟨zlb rfl, zlb rfl, zlb rfl⟩) rfl (by decide) rfl rfl ?_
  refine zz_iload_n F (i := 1) dX2_book_5 rfl rfl ?_
  refine zz_iadd F dX2_book_6 ?_
  refine zz_put F (Ms' := [(zu s0 5 0 1 ((s0 5 0 1) + a1))]) dX2_book_7 wpRX2_21 zCl_2 rfl (⟨zlb rfl, zlb rfl, zlb rfl⟩) rfl (by decide) rfl rfl rfl ?_
  refine zz_letm (Mf := fun s0_1 => [s0_1]) fun s0_1 => ?_
  refine zz_aload_n F (i := 0) dX2_book_10 rfl rfl ?_
  refine zz_iload_n F (i := 2) dX2_book_11 rfl rfl ?_
  refine zz_put F (Ms' := [(zu s0_1 5 0 3 a2)]) dX2_book_12 wpRX2_28 zCl_2 rfl (⟨zlb rfl, zlb rfl, zlb rfl⟩) rfl (by decide) rfl rfl rfl ?_
  refine zz_letm (Mf := fun s0_2 => [s0_2]) fun s0_2 => ?_
  refine zz_aload_n F (i := 0) dX2_book_15 rfl rfl ?_
  refine zz_dup F dX2_book_16 rfl ?_
  refine zz_getf F dX2_book_17 wfRX2_25 zCl_2 rfl (⟨zlb rfl, zlb rfl, zlb rfl⟩) rfl (by decide) rfl rfl ?_
  refine zz_iload_n F (i := 2) dX2_book_20 rfl rfl ?_
  refine zz_iadd F dX2_book_21 ?_
  refine zz_put F (Ms' := [(zu s0_2 5 0 2 ((s0_2 5 0 2) + a2))]) dX2_book_22 wpRX2_25 zCl_2 rfl (⟨zlb rfl, zlb rfl, zlb rfl⟩) rfl (by decide) rfl rfl rfl ?_
  refine zz_letm (Mf := fun s0_3 => [s0_3]) fun s0_3 => ?_
  refine zz_aload_n F (i := 0) dX2_book_25 rfl rfl ?_
  refine zz_dup F dX2_book_26 rfl ?_
  refine zz_getf F dX2_book_27 wfRX2_31 zCl_2 rfl (⟨zlb rfl, zlb rfl, zlb rfl⟩) rfl (by decide) rfl rfl ?_
  refine zz_iload_n F (i := 2) dX2_book_30 rfl rfl ?_
  refine zz_iload_n F (i := 3) dX2_book_31 rfl rfl ?_
  refine zz_imul F dX2_book_32 ?_
  refine zz_bipush F (v := (100 : Int32)) dX2_book_33 (by decide) ?_
  refine zz_idiv F dX2_book_35 (by decide) ?_
  refine zz_iadd F dX2_book_36 ?_
  refine zz_put F (Ms' := [(zu s0_3 5 0 4 ((s0_3 5 0 4) + ((a2 * a3) / (100 : Int32))))]) dX2_book_37 wpRX2_31 zCl_2 rfl (⟨zlb rfl, zlb rfl, zlb rfl⟩) rfl (by decide) rfl rfl rfl ?_
  refine zz_letm (Mf := fun s0_4 => [s0_4]) fun s0_4 => ?_
  refine zz_aload_n F (i := 0) dX2_book_40 rfl rfl ?_
  refine zz_bind ?_
  refine zz_callVr F (ρ := [0]) (so := fun q5 => [zi q5.1]) (Mo := fun q5 => [q5.2]) (zfLe_takeNominated s0_4) dX2_book_41 wcRX2_34 wy_yX2_takeNominated rfl ⟨rel3, rfl, rfl, Nat.le_of_ble_eq_true rfl, Nat.le_of_ble_eq_true rfl, Nat.le_of_ble_eq_true rfl⟩ (⟨zlb rfl, zlb rfl, zlb rfl⟩) rfl rfl rfl (fun _ => rfl) (fun _ => rfl) fun q5 => ?_
  refine zz_istore F (i := 4) (L' := [some (zr 0 5 0), some (zi a1), some (zi a2), some (zi a3), some (zi q5.1)]) dX2_book_44 (by decide) rfl rfl ?_
  refine zz_iload F (i := 4) dX2_book_46 rfl ?_
  refine zz_iconst F (v := (-1 : Int32)) dX2_book_48 (by decide) ?_
  refine zz_icmp_eq F (tgt := 74) dX2_book_49 (by decide) (fun h => zz_t h ?_) (fun h => zz_f h ?_)
  · exact zz_return F dX2_book_74 rfl (hκ _)
  · refine zz_aload_n F (i := 0) dX2_book_52 rfl rfl ?_
    refine zz_dup F dX2_book_53 rfl ?_
    refine zz_getf F dX2_book_54 wfRX2_31 zCl_2 rfl (⟨zlb rfl, zlb rfl, zlb rfl⟩) rfl (by decide) rfl rfl ?_
    refine zz_iload F (i := 4) dX2_book_57 rfl ?_
    refine zz_iload_n F (i := 2) dX2_book_59 rfl rfl ?_
    refine zz_isub F dX2_book_60 ?_
    refine zz_abs F dX2_book_61 wmRX2_38 wMath_abs (Nat.le_of_ble_eq_true rfl) (Nat.le_of_ble_eq_true rfl) ?_
    refine zz_bipush F (v := (20 : Int32)) dX2_book_64 (by decide) ?_
    refine zz_imul F dX2_book_66 ?_
    refine zz_bipush F (v := (100 : Int32)) dX2_book_67 (by decide) ?_
    refine zz_idiv F dX2_book_69 (by decide) ?_
    refine zz_isub F dX2_book_70 ?_
    refine zz_put F (Ms' := [(zu q5.2 5 0 4 ((q5.2 5 0 4) - (((zabs (q5.1 - a2)) * (20 : Int32)) / (100 : Int32))))]) dX2_book_71 wpRX2_31 zCl_2 rfl (⟨zlb rfl, zlb rfl, zlb rfl⟩) rfl (by decide) rfl rfl rfl ?_
    refine zz_letm (Mf := fun s0_6 => [s0_6]) fun s0_6 => ?_
    exact zz_return F dX2_book_74 rfl (hκ _)
theorem zfLe_book (a1 : Int32) (a2 : Int32) (a3 : Int32)  (s0 : zM) : ∀ a, fLe_book a1 a2 a3 s0 = some a → zMet yX2_book cX2_book 5 none 1 23 [(0, [])] [zr 0 5 0, zi a1, zi a2, zi a3] [s0] ((fun a => ((.inl ((fun _ => (none : Option zV)) a), (fun q => [q]) a) : zO)) a) := fun a ha => zMet_of (L0 := [some (zr 0 5 0), some (zi a1), some (zi a2), some (zi a3), none]) (φ := Option.bind (fLe_book a1 a2 a3 s0) (fun a => some ((fun a => ((.inl ((fun _ => (none : Option zV)) a), (fun q => [q]) a) : zO)) a))) (by decide) (fun _ => Nat.le_of_ble_eq_true rfl) (zl0 1 rfl) (fun X F => bfLe_book F a1 a2 a3 s0 (fun _ => rfl)) (by rw [ha]; rfl)

theorem dX5_wearPart_0 : decode cX5_wearPart 0 = .ok (.iload_n 1, 1) := by decide +kernel
theorem dX5_wearPart_1 : decode cX5_wearPart 1 = .ok (.ifCond .lt 28, 3) := by decide +kernel
theorem dX5_wearPart_4 : decode cX5_wearPart 4 = .ok (.iload_n 1, 1) := by decide +kernel
theorem dX5_wearPart_5 : decode cX5_wearPart 5 = .ok (.iconst 3, 1) := by decide +kernel
theorem dX5_wearPart_6 : decode cX5_wearPart 6 = .ok (.if_icmp .ge 23, 3) := by decide +kernel
theorem dX5_wearPart_9 : decode cX5_wearPart 9 = .ok (.aload_n 0, 1) := by decide +kernel
theorem dX5_wearPart_10 : decode cX5_wearPart 10 = .ok (.getfield 24, 3) := by decide +kernel
theorem dX5_wearPart_13 : decode cX5_wearPart 13 = .ok (.iload_n 1, 1) := by decide +kernel
theorem dX5_wearPart_14 : decode cX5_wearPart 14 = .ok (.sipush 9999, 3) := by decide +kernel
theorem dX5_wearPart_17 : decode cX5_wearPart 17 = .ok (.aload_n 0, 1) := by decide +kernel
theorem dX5_wearPart_18 : decode cX5_wearPart 18 = .ok (.getfield 24, 3) := by decide +kernel
theorem dX5_wearPart_21 : decode cX5_wearPart 21 = .ok (.iload_n 1, 1) := by decide +kernel
theorem dX5_wearPart_22 : decode cX5_wearPart 22 = .ok (.iaload, 1) := by decide +kernel
theorem dX5_wearPart_23 : decode cX5_wearPart 23 = .ok (.iload_n 2, 1) := by decide +kernel
theorem dX5_wearPart_24 : decode cX5_wearPart 24 = .ok (.iadd, 1) := by decide +kernel
theorem dX5_wearPart_25 : decode cX5_wearPart 25 = .ok (.invokestatic 126, 3) := by decide +kernel
theorem dX5_wearPart_28 : decode cX5_wearPart 28 = .ok (.iastore, 1) := by decide +kernel
theorem dX5_wearPart_29 : decode cX5_wearPart 29 = .ok (.return_, 1) := by decide +kernel
theorem wmRX5_126 : Cond.methodLink RX5 126 Lib.Math.min.name ∈ zTg := zm_f 688 (by decide +kernel) rfl
def fTu_wearPart (i : Nat) (a1 : Int32) (a2 : Int32) (s0 : zM) : Option (zM) :=
  if a1 < 0 then
  some s0
else
  if (3 : Int32) ≤ a1 then
    some s0
  else
    zix a1 3 fun j1 =>
      zix a1 3 fun j2 =>
      zlet (zu s0 8 i j2 (zmin (9999 : Int32) ((s0 8 i j1) + a2))) fun s0_3 =>
      some s0_3
set_option maxHeartbeats 4000000 in
set_option maxRecDepth 20000 in
theorem bfTu_wearPart {X : zX} (F : zFr X cX5_wearPart 3 RX5 none) (i : Nat) (a1 : Int32) (a2 : Int32) (hi : i < 8) (s0 : zM) {κ : zM → Option zO} (hκ : ∀ a, κ a = some ((fun a => ((.inl ((fun _ => (none : Option zV)) a), (fun q => [q]) a) : zO)) a)) : zZ X [(0, [])] 1 23 3 0 [some (zr 0 7 i), some (zi a1), some (zi a2)] [] [s0] (Option.bind (fTu_wearPart i a1 a2 s0) κ) := by
  unfold fTu_wearPart
  refine zz_iload_n F (i := 1) dX5_wearPart_0 rfl rfl ?_
  refine zz_if_lt F (tgt := 29) dX5_wearPart_1 (by decide) (fun h => zz_t h ?_) (fun h => zz_f h ?_)
  · exact zz_return F dX5_wearPart_29 rfl (hκ _)
  · refine zz_iload_n F (i := 1) dX5_wearPart_4 rfl rfl ?_
    refine zz_iconst F (v := (3 : Int32)) dX5_wearPart_5 (by decide) ?_
    refine zz_icmp_ge F (tgt := 29) dX5_wearPart_6 (by decide) (fun h => zz_t h ?_) (fun h => zz_f h ?_)
    · exact zz_return F dX5_wearPart_29 rfl (hκ _)
    · refine zz_aload_n F (i := 0) dX5_wearPart_9 rfl rfl ?_
      refine zz_getr F dX5_wearPart_10 wfRX5_24 zCl_5 rfl (⟨zlb rfl, zlb rfl, hi⟩) rfl (by decide) rfl (r' := 0) (by decide) ?_
      refine zz_iload_n F (i := 1) dX5_wearPart_13 rfl rfl ?_
      refine zz_sipush F (v := (9999 : Int32)) dX5_wearPart_14 (by decide) ?_
      refine zz_aload_n F (i := 0) dX5_wearPart_17 rfl rfl ?_
      refine zz_getr F dX5_wearPart_18 wfRX5_24 zCl_5 rfl (⟨zlb rfl, zlb rfl, hi⟩) rfl (by decide) rfl (r' := 0) (by decide) ?_
      refine zz_iload_n F (i := 1) dX5_wearPart_21 rfl rfl ?_
      refine zz_ix fun j1 hj1 hinj1 hej1 => zz_ial F dX5_wearPart_22 rfl (⟨zlb rfl, zlb rfl, hi⟩) rfl hinj1 hej1 ?_
      refine zz_iload_n F (i := 2) dX5_wearPart_23 rfl rfl ?_
      refine zz_iadd F dX5_wearPart_24 ?_
      refine zz_min F dX5_wearPart_25 wmRX5_126 wMath_min (Nat.le_of_ble_eq_true rfl) (Nat.le_of_ble_eq_true rfl) ?_
      refine zz_ix fun j2 hj2 hinj2 hej2 => zz_ias F (Ms' := [(zu s0 8 i j2 (zmin (9999 : Int32) ((s0 8 i j1) + a2)))]) dX5_wearPart_28 rfl (⟨zlb rfl, zlb rfl, hi⟩) rfl hinj2 hej2 rfl ?_
      refine zz_letm (Mf := fun s0_3 => [s0_3]) fun s0_3 => ?_
      exact zz_return F dX5_wearPart_29 rfl (hκ _)
theorem zfTu_wearPart (i : Nat) (a1 : Int32) (a2 : Int32) (hi : i < 8) (s0 : zM) : ∀ a, fTu_wearPart i a1 a2 s0 = some a → zMet yX5_wearPart cX5_wearPart 3 none 1 23 [(0, [])] [zr 0 7 i, zi a1, zi a2] [s0] ((fun a => ((.inl ((fun _ => (none : Option zV)) a), (fun q => [q]) a) : zO)) a) := fun a ha => zMet_of (L0 := [some (zr 0 7 i), some (zi a1), some (zi a2)]) (φ := Option.bind (fTu_wearPart i a1 a2 s0) (fun a => some ((fun a => ((.inl ((fun _ => (none : Option zV)) a), (fun q => [q]) a) : zO)) a))) (by decide) (fun _ => Nat.le_of_ble_eq_true rfl) (zl0 0 rfl) (fun X F => bfTu_wearPart F i a1 a2 hi s0 (fun _ => rfl)) (by rw [ha]; rfl)

theorem dX1_goesOn_0 : decode cX1_goesOn 0 = .ok (.aload_n 0, 1) := by decide +kernel
theorem dX1_goesOn_1 : decode cX1_goesOn 1 = .ok (.getfield 21, 3) := by decide +kernel
theorem dX1_goesOn_4 : decode cX1_goesOn 4 = .ok (.iconst 2, 1) := by decide +kernel
theorem dX1_goesOn_5 : decode cX1_goesOn 5 = .ok (.if_icmp .ge 5, 3) := by decide +kernel
theorem dX1_goesOn_8 : decode cX1_goesOn 8 = .ok (.iconst 0, 1) := by decide +kernel
theorem dX1_goesOn_9 : decode cX1_goesOn 9 = .ok (.ireturn, 1) := by decide +kernel
theorem dX1_goesOn_10 : decode cX1_goesOn 10 = .ok (.aload_n 0, 1) := by decide +kernel
theorem dX1_goesOn_11 : decode cX1_goesOn 11 = .ok (.getfield 9, 3) := by decide +kernel
theorem dX1_goesOn_14 : decode cX1_goesOn 14 = .ok (.aload_n 0, 1) := by decide +kernel
theorem dX1_goesOn_15 : decode cX1_goesOn 15 = .ok (.getfield 21, 3) := by decide +kernel
theorem dX1_goesOn_18 : decode cX1_goesOn 18 = .ok (.iconst 1, 1) := by decide +kernel
theorem dX1_goesOn_19 : decode cX1_goesOn 19 = .ok (.isub, 1) := by decide +kernel
theorem dX1_goesOn_20 : decode cX1_goesOn 20 = .ok (.iaload, 1) := by decide +kernel
theorem dX1_goesOn_21 : decode cX1_goesOn 21 = .ok (.istore_n 2, 1) := by decide +kernel
theorem dX1_goesOn_22 : decode cX1_goesOn 22 = .ok (.iload_n 2, 1) := by decide +kernel
theorem dX1_goesOn_23 : decode cX1_goesOn 23 = .ok (.aload_n 0, 1) := by decide +kernel
theorem dX1_goesOn_24 : decode cX1_goesOn 24 = .ok (.getfield 9, 3) := by decide +kernel
theorem dX1_goesOn_27 : decode cX1_goesOn 27 = .ok (.aload_n 0, 1) := by decide +kernel
theorem dX1_goesOn_28 : decode cX1_goesOn 28 = .ok (.getfield 21, 3) := by decide +kernel
theorem dX1_goesOn_31 : decode cX1_goesOn 31 = .ok (.iconst 2, 1) := by decide +kernel
theorem dX1_goesOn_32 : decode cX1_goesOn 32 = .ok (.isub, 1) := by decide +kernel
theorem dX1_goesOn_33 : decode cX1_goesOn 33 = .ok (.iaload, 1) := by decide +kernel
theorem dX1_goesOn_34 : decode cX1_goesOn 34 = .ok (.if_icmp .le 16, 3) := by decide +kernel
theorem dX1_goesOn_37 : decode cX1_goesOn 37 = .ok (.iload_n 1, 1) := by decide +kernel
theorem dX1_goesOn_38 : decode cX1_goesOn 38 = .ok (.iload_n 2, 1) := by decide +kernel
theorem dX1_goesOn_39 : decode cX1_goesOn 39 = .ok (.if_icmp .le 7, 3) := by decide +kernel
theorem dX1_goesOn_42 : decode cX1_goesOn 42 = .ok (.iconst 1, 1) := by decide +kernel
theorem dX1_goesOn_43 : decode cX1_goesOn 43 = .ok (.goto 17, 3) := by decide +kernel
theorem dX1_goesOn_46 : decode cX1_goesOn 46 = .ok (.iconst 0, 1) := by decide +kernel
theorem dX1_goesOn_47 : decode cX1_goesOn 47 = .ok (.goto 13, 3) := by decide +kernel
theorem dX1_goesOn_50 : decode cX1_goesOn 50 = .ok (.iload_n 1, 1) := by decide +kernel
theorem dX1_goesOn_51 : decode cX1_goesOn 51 = .ok (.iload_n 2, 1) := by decide +kernel
theorem dX1_goesOn_52 : decode cX1_goesOn 52 = .ok (.if_icmp .ge 7, 3) := by decide +kernel
theorem dX1_goesOn_55 : decode cX1_goesOn 55 = .ok (.iconst 1, 1) := by decide +kernel
theorem dX1_goesOn_56 : decode cX1_goesOn 56 = .ok (.goto 4, 3) := by decide +kernel
theorem dX1_goesOn_59 : decode cX1_goesOn 59 = .ok (.iconst 0, 1) := by decide +kernel
theorem dX1_goesOn_60 : decode cX1_goesOn 60 = .ok (.ireturn, 1) := by decide +kernel
theorem wfRX1_21 : zFl RX1 21 1 1 := ⟨_, rfl, by decide, zm_f 147 (by decide +kernel) rfl⟩
theorem wfRX1_9 : zFl RX1 9 1 0 := ⟨_, rfl, by decide, zm_f 145 (by decide +kernel) rfl⟩
def fEx_goesOn (i : Nat) (a1 : Int32) (s0 : zM) : Option (Int32) :=
  if (2 : Int32) ≤ (s0 10 i 1) then
  zix ((s0 10 i 1) - (1 : Int32)) 30 fun j1 =>
    zlet ((s0 11 i j1)) fun v2 =>
    zix ((s0 10 i 1) - (2 : Int32)) 30 fun j3 =>
    if v2 ≤ (s0 11 i j3) then
    if v2 ≤ a1 then
      some (0 : Int32)
    else
      some (1 : Int32)
  else
    if a1 ≤ v2 then
      some (0 : Int32)
    else
      some (1 : Int32)
else
  some (0 : Int32)
set_option maxHeartbeats 4000000 in
set_option maxRecDepth 20000 in
theorem bfEx_goesOn {X : zX} (F : zFr X cX1_goesOn 3 RX1 (some .boolean)) (i : Nat) (a1 : Int32) (hi : i < 8) (s0 : zM) {κ : Int32 → Option zO} (hκ : ∀ a, κ a = some ((fun a => ((.inl ((fun q => some (zi q)) a), (fun _ => [s0]) a) : zO)) a)) : zZ X [(0, [])] 0 0 3 0 [some (zr 0 10 i), some (zi a1), none] [] [s0] (Option.bind (fEx_goesOn i a1 s0) κ) := by
  unfold fEx_goesOn
  refine zz_aload_n F (i := 0) dX1_goesOn_0 rfl rfl ?_
  refine zz_getf F dX1_goesOn_1 wfRX1_21 zCl_1 rfl (⟨zlb rfl, zlb rfl, hi⟩) rfl (by decide) rfl rfl ?_
  refine zz_iconst F (v := (2 : Int32)) dX1_goesOn_4 (by decide) ?_
  refine zz_icmp_ge F (tgt := 10) dX1_goesOn_5 (by decide) (fun h => zz_t h ?_) (fun h => zz_f h ?_)
  · refine zz_aload_n F (i := 0) dX1_goesOn_10 rfl rfl ?_
    refine zz_getr F dX1_goesOn_11 wfRX1_9 zCl_1 rfl (⟨zlb rfl, zlb rfl, hi⟩) rfl (by decide) rfl (r' := 0) (by decide) ?_
    refine zz_aload_n F (i := 0) dX1_goesOn_14 rfl rfl ?_
    refine zz_getf F dX1_goesOn_15 wfRX1_21 zCl_1 rfl (⟨zlb rfl, zlb rfl, hi⟩) rfl (by decide) rfl rfl ?_
    refine zz_iconst F (v := (1 : Int32)) dX1_goesOn_18 (by decide) ?_
    refine zz_isub F dX1_goesOn_19 ?_
    refine zz_ix fun j1 hj1 hinj1 hej1 => zz_ial F dX1_goesOn_20 rfl (⟨zlb rfl, zlb rfl, hi⟩) rfl hinj1 hej1 ?_
    refine zz_istore_n F (i := 2) (L' := [some (zr 0 10 i), some (zi a1), some (zi (s0 11 i j1))]) dX1_goesOn_21 rfl (by decide) rfl rfl ?_
    refine zz_letl (Lf := fun v2 => [some (zr 0 10 i), some (zi a1), some (zi v2)]) fun v2 => ?_
    refine zz_iload_n F (i := 2) dX1_goesOn_22 rfl rfl ?_
    refine zz_aload_n F (i := 0) dX1_goesOn_23 rfl rfl ?_
    refine zz_getr F dX1_goesOn_24 wfRX1_9 zCl_1 rfl (⟨zlb rfl, zlb rfl, hi⟩) rfl (by decide) rfl (r' := 0) (by decide) ?_
    refine zz_aload_n F (i := 0) dX1_goesOn_27 rfl rfl ?_
    refine zz_getf F dX1_goesOn_28 wfRX1_21 zCl_1 rfl (⟨zlb rfl, zlb rfl, hi⟩) rfl (by decide) rfl rfl ?_
    refine zz_iconst F (v := (2 : Int32)) dX1_goesOn_31 (by decide) ?_
    refine zz_isub F dX1_goesOn_32 ?_
    refine zz_ix fun j3 hj3 hinj3 hej3 => zz_ial F dX1_goesOn_33 rfl (⟨zlb rfl, zlb rfl, hi⟩) rfl hinj3 hej3 ?_
    refine zz_icmp_le F (tgt := 50) dX1_goesOn_34 (by decide) (fun h => zz_t h ?_) (fun h => zz_f h ?_)
    · refine zz_iload_n F (i := 1) dX1_goesOn_50 rfl rfl ?_
      refine zz_iload_n F (i := 2) dX1_goesOn_51 rfl rfl ?_
      refine zz_icmp_ge F (tgt := 59) dX1_goesOn_52 (by decide) (fun h => zz_t h ?_) (fun h => zz_f h ?_)
      · refine zz_iconst F (v := (0 : Int32)) dX1_goesOn_59 (by decide) ?_
        exact zz_zreturn F dX1_goesOn_60 rfl rfl (hκ _)
      · refine zz_iconst F (v := (1 : Int32)) dX1_goesOn_55 (by decide) ?_
        refine zz_goto F (tgt := 60) dX1_goesOn_56 (by decide) ?_
        exact zz_zreturn F dX1_goesOn_60 rfl rfl (hκ _)
    · refine zz_iload_n F (i := 1) dX1_goesOn_37 rfl rfl ?_
      refine zz_iload_n F (i := 2) dX1_goesOn_38 rfl rfl ?_
      refine zz_icmp_le F (tgt := 46) dX1_goesOn_39 (by decide) (fun h => zz_t h ?_) (fun h => zz_f h ?_)
      · refine zz_iconst F (v := (0 : Int32)) dX1_goesOn_46 (by decide) ?_
        refine zz_goto F (tgt := 60) dX1_goesOn_47 (by decide) ?_
        exact zz_zreturn F dX1_goesOn_60 rfl rfl (hκ _)
      · refine zz_iconst F (v := (1 : Int32)) dX1_goesOn_42 (by decide) ?_
        refine zz_goto F (tgt := 60) dX1_goesOn_43 (by decide) ?_
        exact zz_zreturn F dX1_goesOn_60 rfl rfl (hκ _)
  · refine zz_iconst F (v := (0 : Int32)) dX1_goesOn_8 (by decide) ?_
    exact zz_zreturn F dX1_goesOn_9 rfl rfl (hκ _)
theorem zfEx_goesOn (i : Nat) (a1 : Int32) (hi : i < 8) (s0 : zM) : ∀ a, fEx_goesOn i a1 s0 = some a → zMet yX1_goesOn cX1_goesOn 3 (some .boolean) 0 0 [(0, [])] [zr 0 10 i, zi a1] [s0] ((fun a => ((.inl ((fun q => some (zi q)) a), (fun _ => [s0]) a) : zO)) a) := fun a ha => zMet_of (L0 := [some (zr 0 10 i), some (zi a1), none]) (φ := Option.bind (fEx_goesOn i a1 s0) (fun a => some ((fun a => ((.inl ((fun q => some (zi q)) a), (fun _ => [s0]) a) : zO)) a))) (by decide) (fun _ => Nat.le_of_ble_eq_true rfl) (zl0 1 rfl) (fun X F => bfEx_goesOn F i a1 hi s0 (fun _ => rfl)) (by rw [ha]; rfl)

theorem dX1_takeOut_0 : decode cX1_takeOut 0 = .ok (.iload_n 1, 1) := by decide +kernel
theorem dX1_takeOut_1 : decode cX1_takeOut 1 = .ok (.istore_n 3, 1) := by decide +kernel
theorem dX1_takeOut_2 : decode cX1_takeOut 2 = .ok (.iload_n 3, 1) := by decide +kernel
theorem dX1_takeOut_3 : decode cX1_takeOut 3 = .ok (.iload_n 2, 1) := by decide +kernel
theorem dX1_takeOut_4 : decode cX1_takeOut 4 = .ok (.iadd, 1) := by decide +kernel
theorem dX1_takeOut_5 : decode cX1_takeOut 5 = .ok (.aload_n 0, 1) := by decide +kernel
theorem dX1_takeOut_6 : decode cX1_takeOut 6 = .ok (.getfield 21, 3) := by decide +kernel
theorem dX1_takeOut_9 : decode cX1_takeOut 9 = .ok (.if_icmp .ge 23, 3) := by decide +kernel
theorem dX1_takeOut_12 : decode cX1_takeOut 12 = .ok (.aload_n 0, 1) := by decide +kernel
theorem dX1_takeOut_13 : decode cX1_takeOut 13 = .ok (.getfield 9, 3) := by decide +kernel
theorem dX1_takeOut_16 : decode cX1_takeOut 16 = .ok (.iload_n 3, 1) := by decide +kernel
theorem dX1_takeOut_17 : decode cX1_takeOut 17 = .ok (.aload_n 0, 1) := by decide +kernel
theorem dX1_takeOut_18 : decode cX1_takeOut 18 = .ok (.getfield 9, 3) := by decide +kernel
theorem dX1_takeOut_21 : decode cX1_takeOut 21 = .ok (.iload_n 3, 1) := by decide +kernel
theorem dX1_takeOut_22 : decode cX1_takeOut 22 = .ok (.iload_n 2, 1) := by decide +kernel
theorem dX1_takeOut_23 : decode cX1_takeOut 23 = .ok (.iadd, 1) := by decide +kernel
theorem dX1_takeOut_24 : decode cX1_takeOut 24 = .ok (.iaload, 1) := by decide +kernel
theorem dX1_takeOut_25 : decode cX1_takeOut 25 = .ok (.iastore, 1) := by decide +kernel
theorem dX1_takeOut_26 : decode cX1_takeOut 26 = .ok (.iinc 3 1, 3) := by decide +kernel
theorem dX1_takeOut_29 : decode cX1_takeOut 29 = .ok (.goto (-27), 3) := by decide +kernel
theorem dX1_takeOut_32 : decode cX1_takeOut 32 = .ok (.aload_n 0, 1) := by decide +kernel
theorem dX1_takeOut_33 : decode cX1_takeOut 33 = .ok (.dup, 1) := by decide +kernel
theorem dX1_takeOut_34 : decode cX1_takeOut 34 = .ok (.getfield 21, 3) := by decide +kernel
theorem dX1_takeOut_37 : decode cX1_takeOut 37 = .ok (.iload_n 2, 1) := by decide +kernel
theorem dX1_takeOut_38 : decode cX1_takeOut 38 = .ok (.isub, 1) := by decide +kernel
theorem dX1_takeOut_39 : decode cX1_takeOut 39 = .ok (.putfield 21, 3) := by decide +kernel
theorem dX1_takeOut_42 : decode cX1_takeOut 42 = .ok (.return_, 1) := by decide +kernel
theorem wpRX1_21 : zFw RX1 21 1 1 .int := ⟨_, rfl, by decide, zm_f 147 (by decide +kernel) rfl, rfl, by decide +kernel⟩
def fEx_takeOut_l2 (i : Nat) (a2 : Int32) (q1 : Int32 × zM) : Option ((Int32 × zM) ⊕ ((zM))) :=
  if (q1.2 10 i 1) ≤ (q1.1 + a2) then
  some (.inr q1.2)
else
  zix (q1.1 + a2) 30 fun j3 =>
    zix q1.1 30 fun j4 =>
    zlet (zu q1.2 11 i j4 (q1.2 11 i j3)) fun s0_5 =>
    zlet (q1.1 + 1) fun v6 =>
    some (.inl (v6, s0_5))
def fEx_takeOut (i : Nat) (a1 : Int32) (a2 : Int32) (s0 : zM) : Option (zM) :=
  Option.bind (ziter (fEx_takeOut_l2 i a2) 1000 (a1, s0)) fun q2 =>
  zlet (zu q2 10 i 1 ((q2 10 i 1) - a2)) fun s0_7 =>
  some s0_7
set_option maxHeartbeats 4000000 in
set_option maxRecDepth 20000 in
theorem bfEx_takeOut_l2 {X : zX} (F : zFr X cX1_takeOut 4 RX1 none) (i : Nat) (a2 : Int32) (hi : i < 8) {ψ : (Int32 × zM) ⊕ ((zM)) → Option zO} (h1 : ∀ q1 : Int32 × zM, zZ X [(0, [])] 0 0 4 2 [some (zr 0 10 i), none, some (zi a2), some (zi q1.1)] [] [q1.2] (ψ (.inl q1))) (h2 : ∀ q2 : zM, zZ X [(0, [])] 0 0 4 32 [some (zr 0 10 i), none, some (zi a2), none] [] [q2] (ψ (.inr q2))) (q1 : Int32 × zM) : zZ X [(0, [])] 0 0 4 2 [some (zr 0 10 i), none, some (zi a2), some (zi q1.1)] [] [q1.2] (Option.bind (fEx_takeOut_l2 i a2 q1) ψ) := by
  unfold fEx_takeOut_l2
  refine zz_iload_n F (i := 3) dX1_takeOut_2 rfl rfl ?_
  refine zz_iload_n F (i := 2) dX1_takeOut_3 rfl rfl ?_
  refine zz_iadd F dX1_takeOut_4 ?_
  refine zz_aload_n F (i := 0) dX1_takeOut_5 rfl rfl ?_
  refine zz_getf F dX1_takeOut_6 wfRX1_21 zCl_1 rfl (⟨zlb rfl, zlb rfl, hi⟩) rfl (by decide) rfl rfl ?_
  refine zz_icmp_ge F (tgt := 32) dX1_takeOut_9 (by decide) (fun h => zz_t h ?_) (fun h => zz_f h ?_)
  · exact zz_sub (zs_k (zs_k (zs_k (zs_n zs_z)))) (h2 q1.2)
  · refine zz_aload_n F (i := 0) dX1_takeOut_12 rfl rfl ?_
    refine zz_getr F dX1_takeOut_13 wfRX1_9 zCl_1 rfl (⟨zlb rfl, zlb rfl, hi⟩) rfl (by decide) rfl (r' := 0) (by decide) ?_
    refine zz_iload_n F (i := 3) dX1_takeOut_16 rfl rfl ?_
    refine zz_aload_n F (i := 0) dX1_takeOut_17 rfl rfl ?_
    refine zz_getr F dX1_takeOut_18 wfRX1_9 zCl_1 rfl (⟨zlb rfl, zlb rfl, hi⟩) rfl (by decide) rfl (r' := 0) (by decide) ?_
    refine zz_iload_n F (i := 3) dX1_takeOut_21 rfl rfl ?_
    refine zz_iload_n F (i := 2) dX1_takeOut_22 rfl rfl ?_
    refine zz_iadd F dX1_takeOut_23 ?_
    refine zz_ix fun j3 hj3 hinj3 hej3 => zz_ial F dX1_takeOut_24 rfl (⟨zlb rfl, zlb rfl, hi⟩) rfl hinj3 hej3 ?_
    refine zz_ix fun j4 hj4 hinj4 hej4 => zz_ias F (Ms' := [(zu q1.2 11 i j4 (q1.2 11 i j3))]) dX1_takeOut_25 rfl (⟨zlb rfl, zlb rfl, hi⟩) rfl hinj4 hej4 rfl ?_
    refine zz_letm (Mf := fun s0_5 => [s0_5]) fun s0_5 => ?_
    refine zz_iinc F (i := 3) (v := q1.1 + 1) (L' := [some (zr 0 10 i), none, some (zi a2), some (zi (q1.1 + 1))]) dX1_takeOut_26 rfl (by first | rfl | decide) (by decide) rfl rfl ?_
    refine zz_letl (Lf := fun v6 => [some (zr 0 10 i), none, some (zi a2), some (zi v6)]) fun v6 => ?_
    refine zz_goto F (tgt := 2) dX1_takeOut_29 (by decide) ?_
    exact zz_sub (zs_k (zs_k (zs_k (zs_k zs_z)))) (h1 (v6, s0_5))
set_option maxHeartbeats 4000000 in
set_option maxRecDepth 20000 in
theorem bfEx_takeOut {X : zX} (F : zFr X cX1_takeOut 4 RX1 none) (i : Nat) (a1 : Int32) (a2 : Int32) (hi : i < 8) (s0 : zM) {κ : zM → Option zO} (hκ : ∀ a, κ a = some ((fun a => ((.inl ((fun _ => (none : Option zV)) a), (fun q => [q]) a) : zO)) a)) : zZ X [(0, [])] 0 0 4 0 [some (zr 0 10 i), some (zi a1), some (zi a2), none] [] [s0] (Option.bind (fEx_takeOut i a1 a2 s0) κ) := by
  unfold fEx_takeOut
  refine zz_iload_n F (i := 1) dX1_takeOut_0 rfl rfl ?_
  refine zz_istore_n F (i := 3) (L' := [some (zr 0 10 i), some (zi a1), some (zi a2), some (zi a1)]) dX1_takeOut_1 rfl (by decide) rfl rfl ?_
  refine zz_sub (zs_k (zs_n (zs_k (zs_k zs_z)))) ?_
  refine zz_bind ?_
  refine zz_iter (Lf := fun q1 => [some (zr 0 10 i), none, some (zi a2), some (zi q1.1)]) (Mf := fun q1 => [q1.2]) (fun q1 ψ h1 h2 => bfEx_takeOut_l2 F i a2 hi h1 (fun q2 => ?_)  q1) 1000 (a1, s0)
  rw [h2]
  refine zz_aload_n F (i := 0) dX1_takeOut_32 rfl rfl ?_
  refine zz_dup F dX1_takeOut_33 rfl ?_
  refine zz_getf F dX1_takeOut_34 wfRX1_21 zCl_1 rfl (⟨zlb rfl, zlb rfl, hi⟩) rfl (by decide) rfl rfl ?_
  refine zz_iload_n F (i := 2) dX1_takeOut_37 rfl rfl ?_
  refine zz_isub F dX1_takeOut_38 ?_
  refine zz_put F (Ms' := [(zu q2 10 i 1 ((q2 10 i 1) - a2))]) dX1_takeOut_39 wpRX1_21 zCl_1 rfl (⟨zlb rfl, zlb rfl, hi⟩) rfl (by decide) rfl rfl rfl ?_
  refine zz_letm (Mf := fun s0_7 => [s0_7]) fun s0_7 => ?_
  exact zz_return F dX1_takeOut_42 rfl (hκ _)
theorem zfEx_takeOut (i : Nat) (a1 : Int32) (a2 : Int32) (hi : i < 8) (s0 : zM) : ∀ a, fEx_takeOut i a1 a2 s0 = some a → zMet yX1_takeOut cX1_takeOut 4 none 0 0 [(0, [])] [zr 0 10 i, zi a1, zi a2] [s0] ((fun a => ((.inl ((fun _ => (none : Option zV)) a), (fun q => [q]) a) : zO)) a) := fun a ha => zMet_of (L0 := [some (zr 0 10 i), some (zi a1), some (zi a2), none]) (φ := Option.bind (fEx_takeOut i a1 a2 s0) (fun a => some ((fun a => ((.inl ((fun _ => (none : Option zV)) a), (fun q => [q]) a) : zO)) a))) (by decide) (fun _ => Nat.le_of_ble_eq_true rfl) (zl0 1 rfl) (fun X F => bfEx_takeOut F i a1 a2 hi s0 (fun _ => rfl)) (by rw [ha]; rfl)

theorem dX1_hasCycle_0 : decode cX1_hasCycle 0 = .ok (.aload_n 0, 1) := by decide +kernel
theorem dX1_hasCycle_1 : decode cX1_hasCycle 1 = .ok (.getfield 21, 3) := by decide +kernel
theorem dX1_hasCycle_4 : decode cX1_hasCycle 4 = .ok (.iconst 3, 1) := by decide +kernel
theorem dX1_hasCycle_5 : decode cX1_hasCycle 5 = .ok (.if_icmp .lt 62, 3) := by decide +kernel
theorem dX1_hasCycle_8 : decode cX1_hasCycle 8 = .ok (.aload_n 0, 1) := by decide +kernel
theorem dX1_hasCycle_9 : decode cX1_hasCycle 9 = .ok (.getfield 9, 3) := by decide +kernel
theorem dX1_hasCycle_12 : decode cX1_hasCycle 12 = .ok (.aload_n 0, 1) := by decide +kernel
theorem dX1_hasCycle_13 : decode cX1_hasCycle 13 = .ok (.getfield 21, 3) := by decide +kernel
theorem dX1_hasCycle_16 : decode cX1_hasCycle 16 = .ok (.iconst 1, 1) := by decide +kernel
theorem dX1_hasCycle_17 : decode cX1_hasCycle 17 = .ok (.isub, 1) := by decide +kernel
theorem dX1_hasCycle_18 : decode cX1_hasCycle 18 = .ok (.iaload, 1) := by decide +kernel
theorem dX1_hasCycle_19 : decode cX1_hasCycle 19 = .ok (.aload_n 0, 1) := by decide +kernel
theorem dX1_hasCycle_20 : decode cX1_hasCycle 20 = .ok (.getfield 9, 3) := by decide +kernel
theorem dX1_hasCycle_23 : decode cX1_hasCycle 23 = .ok (.aload_n 0, 1) := by decide +kernel
theorem dX1_hasCycle_24 : decode cX1_hasCycle 24 = .ok (.getfield 21, 3) := by decide +kernel
theorem dX1_hasCycle_27 : decode cX1_hasCycle 27 = .ok (.iconst 2, 1) := by decide +kernel
theorem dX1_hasCycle_28 : decode cX1_hasCycle 28 = .ok (.isub, 1) := by decide +kernel
theorem dX1_hasCycle_29 : decode cX1_hasCycle 29 = .ok (.iaload, 1) := by decide +kernel
theorem dX1_hasCycle_30 : decode cX1_hasCycle 30 = .ok (.isub, 1) := by decide +kernel
theorem dX1_hasCycle_31 : decode cX1_hasCycle 31 = .ok (.invokestatic 43, 3) := by decide +kernel
theorem dX1_hasCycle_34 : decode cX1_hasCycle 34 = .ok (.aload_n 0, 1) := by decide +kernel
theorem dX1_hasCycle_35 : decode cX1_hasCycle 35 = .ok (.getfield 9, 3) := by decide +kernel
theorem dX1_hasCycle_38 : decode cX1_hasCycle 38 = .ok (.aload_n 0, 1) := by decide +kernel
theorem dX1_hasCycle_39 : decode cX1_hasCycle 39 = .ok (.getfield 21, 3) := by decide +kernel
theorem dX1_hasCycle_42 : decode cX1_hasCycle 42 = .ok (.iconst 2, 1) := by decide +kernel
theorem dX1_hasCycle_43 : decode cX1_hasCycle 43 = .ok (.isub, 1) := by decide +kernel
theorem dX1_hasCycle_44 : decode cX1_hasCycle 44 = .ok (.iaload, 1) := by decide +kernel
theorem dX1_hasCycle_45 : decode cX1_hasCycle 45 = .ok (.aload_n 0, 1) := by decide +kernel
theorem dX1_hasCycle_46 : decode cX1_hasCycle 46 = .ok (.getfield 9, 3) := by decide +kernel
theorem dX1_hasCycle_49 : decode cX1_hasCycle 49 = .ok (.aload_n 0, 1) := by decide +kernel
theorem dX1_hasCycle_50 : decode cX1_hasCycle 50 = .ok (.getfield 21, 3) := by decide +kernel
theorem dX1_hasCycle_53 : decode cX1_hasCycle 53 = .ok (.iconst 3, 1) := by decide +kernel
theorem dX1_hasCycle_54 : decode cX1_hasCycle 54 = .ok (.isub, 1) := by decide +kernel
theorem dX1_hasCycle_55 : decode cX1_hasCycle 55 = .ok (.iaload, 1) := by decide +kernel
theorem dX1_hasCycle_56 : decode cX1_hasCycle 56 = .ok (.isub, 1) := by decide +kernel
theorem dX1_hasCycle_57 : decode cX1_hasCycle 57 = .ok (.invokestatic 43, 3) := by decide +kernel
theorem dX1_hasCycle_60 : decode cX1_hasCycle 60 = .ok (.if_icmp .lt 7, 3) := by decide +kernel
theorem dX1_hasCycle_63 : decode cX1_hasCycle 63 = .ok (.iconst 1, 1) := by decide +kernel
theorem dX1_hasCycle_64 : decode cX1_hasCycle 64 = .ok (.goto 4, 3) := by decide +kernel
theorem dX1_hasCycle_67 : decode cX1_hasCycle 67 = .ok (.iconst 0, 1) := by decide +kernel
theorem dX1_hasCycle_68 : decode cX1_hasCycle 68 = .ok (.ireturn, 1) := by decide +kernel
theorem wmRX1_43 : Cond.methodLink RX1 43 Lib.Math.abs.name ∈ zTg := zm_f 706 (by decide +kernel) rfl
def fEx_hasCycle (i : Nat) (s0 : zM) : Option (Int32) :=
  if (s0 10 i 1) < (3 : Int32) then
  some (0 : Int32)
else
  zix ((s0 10 i 1) - (1 : Int32)) 30 fun j1 =>
    zix ((s0 10 i 1) - (2 : Int32)) 30 fun j2 =>
    zix ((s0 10 i 1) - (2 : Int32)) 30 fun j3 =>
    zix ((s0 10 i 1) - (3 : Int32)) 30 fun j4 =>
    if (zabs ((s0 11 i j1) - (s0 11 i j2))) < (zabs ((s0 11 i j3) - (s0 11 i j4))) then
    some (0 : Int32)
  else
    some (1 : Int32)
set_option maxHeartbeats 4000000 in
set_option maxRecDepth 20000 in
theorem bfEx_hasCycle {X : zX} (F : zFr X cX1_hasCycle 1 RX1 (some .boolean)) (i : Nat) (hi : i < 8) (s0 : zM) {κ : Int32 → Option zO} (hκ : ∀ a, κ a = some ((fun a => ((.inl ((fun q => some (zi q)) a), (fun _ => [s0]) a) : zO)) a)) : zZ X [(0, [])] 1 23 1 0 [some (zr 0 10 i)] [] [s0] (Option.bind (fEx_hasCycle i s0) κ) := by
  unfold fEx_hasCycle
  refine zz_aload_n F (i := 0) dX1_hasCycle_0 rfl rfl ?_
  refine zz_getf F dX1_hasCycle_1 wfRX1_21 zCl_1 rfl (⟨zlb rfl, zlb rfl, hi⟩) rfl (by decide) rfl rfl ?_
  refine zz_iconst F (v := (3 : Int32)) dX1_hasCycle_4 (by decide) ?_
  refine zz_icmp_lt F (tgt := 67) dX1_hasCycle_5 (by decide) (fun h => zz_t h ?_) (fun h => zz_f h ?_)
  · refine zz_iconst F (v := (0 : Int32)) dX1_hasCycle_67 (by decide) ?_
    exact zz_zreturn F dX1_hasCycle_68 rfl rfl (hκ _)
  · refine zz_aload_n F (i := 0) dX1_hasCycle_8 rfl rfl ?_
    refine zz_getr F dX1_hasCycle_9 wfRX1_9 zCl_1 rfl (⟨zlb rfl, zlb rfl, hi⟩) rfl (by decide) rfl (r' := 0) (by decide) ?_
    refine zz_aload_n F (i := 0) dX1_hasCycle_12 rfl rfl ?_
    refine zz_getf F dX1_hasCycle_13 wfRX1_21 zCl_1 rfl (⟨zlb rfl, zlb rfl, hi⟩) rfl (by decide) rfl rfl ?_
    refine zz_iconst F (v := (1 : Int32)) dX1_hasCycle_16 (by decide) ?_
    refine zz_isub F dX1_hasCycle_17 ?_
    refine zz_ix fun j1 hj1 hinj1 hej1 => zz_ial F dX1_hasCycle_18 rfl (⟨zlb rfl, zlb rfl, hi⟩) rfl hinj1 hej1 ?_
    refine zz_aload_n F (i := 0) dX1_hasCycle_19 rfl rfl ?_
    refine zz_getr F dX1_hasCycle_20 wfRX1_9 zCl_1 rfl (⟨zlb rfl, zlb rfl, hi⟩) rfl (by decide) rfl (r' := 0) (by decide) ?_
    refine zz_aload_n F (i := 0) dX1_hasCycle_23 rfl rfl ?_
    refine zz_getf F dX1_hasCycle_24 wfRX1_21 zCl_1 rfl (⟨zlb rfl, zlb rfl, hi⟩) rfl (by decide) rfl rfl ?_
    refine zz_iconst F (v := (2 : Int32)) dX1_hasCycle_27 (by decide) ?_
    refine zz_isub F dX1_hasCycle_28 ?_
    refine zz_ix fun j2 hj2 hinj2 hej2 => zz_ial F dX1_hasCycle_29 rfl (⟨zlb rfl, zlb rfl, hi⟩) rfl hinj2 hej2 ?_
    refine zz_isub F dX1_hasCycle_30 ?_
    refine zz_abs F dX1_hasCycle_31 wmRX1_43 wMath_abs (Nat.le_of_ble_eq_true rfl) (Nat.le_of_ble_eq_true rfl) ?_
    refine zz_aload_n F (i := 0) dX1_hasCycle_34 rfl rfl ?_
    refine zz_getr F dX1_hasCycle_35 wfRX1_9 zCl_1 rfl (⟨zlb rfl, zlb rfl, hi⟩) rfl (by decide) rfl (r' := 0) (by decide) ?_
    refine zz_aload_n F (i := 0) dX1_hasCycle_38 rfl rfl ?_
    refine zz_getf F dX1_hasCycle_39 wfRX1_21 zCl_1 rfl (⟨zlb rfl, zlb rfl, hi⟩) rfl (by decide) rfl rfl ?_
    refine zz_iconst F (v := (2 : Int32)) dX1_hasCycle_42 (by decide) ?_
    refine zz_isub F dX1_hasCycle_43 ?_
    refine zz_ix fun j3 hj3 hinj3 hej3 => zz_ial F dX1_hasCycle_44 rfl (⟨zlb rfl, zlb rfl, hi⟩) rfl hinj3 hej3 ?_
    refine zz_aload_n F (i := 0) dX1_hasCycle_45 rfl rfl ?_
    refine zz_getr F dX1_hasCycle_46 wfRX1_9 zCl_1 rfl (⟨zlb rfl, zlb rfl, hi⟩) rfl (by decide) rfl (r' := 0) (by decide) ?_
    refine zz_aload_n F (i := 0) dX1_hasCycle_49 rfl rfl ?_
    refine zz_getf F dX1_hasCycle_50 wfRX1_21 zCl_1 rfl (⟨zlb rfl, zlb rfl, hi⟩) rfl (by decide) rfl rfl ?_
    refine zz_iconst F (v := (3 : Int32)) dX1_hasCycle_53 (by decide) ?_
    refine zz_isub F dX1_hasCycle_54 ?_
    refine zz_ix fun j4 hj4 hinj4 hej4 => zz_ial F dX1_hasCycle_55 rfl (⟨zlb rfl, zlb rfl, hi⟩) rfl hinj4 hej4 ?_
    refine zz_isub F dX1_hasCycle_56 ?_
    refine zz_abs F dX1_hasCycle_57 wmRX1_43 wMath_abs (Nat.le_of_ble_eq_true rfl) (Nat.le_of_ble_eq_true rfl) ?_
    refine zz_icmp_lt F (tgt := 67) dX1_hasCycle_60 (by decide) (fun h => zz_t h ?_) (fun h => zz_f h ?_)
    · refine zz_iconst F (v := (0 : Int32)) dX1_hasCycle_67 (by decide) ?_
      exact zz_zreturn F dX1_hasCycle_68 rfl rfl (hκ _)
    · refine zz_iconst F (v := (1 : Int32)) dX1_hasCycle_63 (by decide) ?_
      refine zz_goto F (tgt := 68) dX1_hasCycle_64 (by decide) ?_
      exact zz_zreturn F dX1_hasCycle_68 rfl rfl (hκ _)
theorem zfEx_hasCycle (i : Nat) (hi : i < 8) (s0 : zM) : ∀ a, fEx_hasCycle i s0 = some a → zMet yX1_hasCycle cX1_hasCycle 1 (some .boolean) 1 23 [(0, [])] [zr 0 10 i] [s0] ((fun a => ((.inl ((fun q => some (zi q)) a), (fun _ => [s0]) a) : zO)) a) := fun a ha => zMet_of (L0 := [some (zr 0 10 i)]) (φ := Option.bind (fEx_hasCycle i s0) (fun a => some ((fun a => ((.inl ((fun q => some (zi q)) a), (fun _ => [s0]) a) : zO)) a))) (by decide) (fun _ => Nat.le_of_ble_eq_true rfl) (zl0 0 rfl) (fun X F => bfEx_hasCycle F i hi s0 (fun _ => rfl)) (by rw [ha]; rfl)

theorem dX1_put_0 : decode cX1_put 0 = .ok (.aload_n 0, 1) := by decide +kernel
theorem dX1_put_1 : decode cX1_put 1 = .ok (.getfield 21, 3) := by decide +kernel
theorem dX1_put_4 : decode cX1_put 4 = .ok (.ifCond .le 20, 3) := by decide +kernel
theorem dX1_put_7 : decode cX1_put 7 = .ok (.aload_n 0, 1) := by decide +kernel
theorem dX1_put_8 : decode cX1_put 8 = .ok (.getfield 9, 3) := by decide +kernel
theorem dX1_put_11 : decode cX1_put 11 = .ok (.aload_n 0, 1) := by decide +kernel
theorem dX1_put_12 : decode cX1_put 12 = .ok (.getfield 21, 3) := by decide +kernel
theorem dX1_put_15 : decode cX1_put 15 = .ok (.iconst 1, 1) := by decide +kernel
theorem dX1_put_16 : decode cX1_put 16 = .ok (.isub, 1) := by decide +kernel
theorem dX1_put_17 : decode cX1_put 17 = .ok (.iaload, 1) := by decide +kernel
theorem dX1_put_18 : decode cX1_put 18 = .ok (.iload_n 1, 1) := by decide +kernel
theorem dX1_put_19 : decode cX1_put 19 = .ok (.if_icmp .ne 5, 3) := by decide +kernel
theorem dX1_put_22 : decode cX1_put 22 = .ok (.iconst 0, 1) := by decide +kernel
theorem dX1_put_23 : decode cX1_put 23 = .ok (.ireturn, 1) := by decide +kernel
theorem dX1_put_24 : decode cX1_put 24 = .ok (.aload_n 0, 1) := by decide +kernel
theorem dX1_put_25 : decode cX1_put 25 = .ok (.iload_n 1, 1) := by decide +kernel
theorem dX1_put_26 : decode cX1_put 26 = .ok (.invokevirtual 31, 3) := by decide +kernel
theorem dX1_put_29 : decode cX1_put 29 = .ok (.ifCond .eq 16, 3) := by decide +kernel
theorem dX1_put_32 : decode cX1_put 32 = .ok (.aload_n 0, 1) := by decide +kernel
theorem dX1_put_33 : decode cX1_put 33 = .ok (.dup, 1) := by decide +kernel
theorem dX1_put_34 : decode cX1_put 34 = .ok (.getfield 21, 3) := by decide +kernel
theorem dX1_put_37 : decode cX1_put 37 = .ok (.iconst 1, 1) := by decide +kernel
theorem dX1_put_38 : decode cX1_put 38 = .ok (.isub, 1) := by decide +kernel
theorem dX1_put_39 : decode cX1_put 39 = .ok (.putfield 21, 3) := by decide +kernel
theorem dX1_put_42 : decode cX1_put 42 = .ok (.goto 18, 3) := by decide +kernel
theorem dX1_put_45 : decode cX1_put 45 = .ok (.aload_n 0, 1) := by decide +kernel
theorem dX1_put_46 : decode cX1_put 46 = .ok (.getfield 21, 3) := by decide +kernel
theorem dX1_put_49 : decode cX1_put 49 = .ok (.bipush 30, 2) := by decide +kernel
theorem dX1_put_51 : decode cX1_put 51 = .ok (.if_icmp .lt 9, 3) := by decide +kernel
theorem dX1_put_54 : decode cX1_put 54 = .ok (.aload_n 0, 1) := by decide +kernel
theorem dX1_put_55 : decode cX1_put 55 = .ok (.iconst 0, 1) := by decide +kernel
theorem dX1_put_56 : decode cX1_put 56 = .ok (.iconst 1, 1) := by decide +kernel
theorem dX1_put_57 : decode cX1_put 57 = .ok (.invokevirtual 35, 3) := by decide +kernel
theorem dX1_put_60 : decode cX1_put 60 = .ok (.aload_n 0, 1) := by decide +kernel
theorem dX1_put_61 : decode cX1_put 61 = .ok (.getfield 9, 3) := by decide +kernel
theorem dX1_put_64 : decode cX1_put 64 = .ok (.aload_n 0, 1) := by decide +kernel
theorem dX1_put_65 : decode cX1_put 65 = .ok (.getfield 21, 3) := by decide +kernel
theorem dX1_put_68 : decode cX1_put 68 = .ok (.iload_n 1, 1) := by decide +kernel
theorem dX1_put_69 : decode cX1_put 69 = .ok (.iastore, 1) := by decide +kernel
theorem dX1_put_70 : decode cX1_put 70 = .ok (.aload_n 0, 1) := by decide +kernel
theorem dX1_put_71 : decode cX1_put 71 = .ok (.dup, 1) := by decide +kernel
theorem dX1_put_72 : decode cX1_put 72 = .ok (.getfield 21, 3) := by decide +kernel
theorem dX1_put_75 : decode cX1_put 75 = .ok (.iconst 1, 1) := by decide +kernel
theorem dX1_put_76 : decode cX1_put 76 = .ok (.iadd, 1) := by decide +kernel
theorem dX1_put_77 : decode cX1_put 77 = .ok (.putfield 21, 3) := by decide +kernel
theorem dX1_put_80 : decode cX1_put 80 = .ok (.iconst 0, 1) := by decide +kernel
theorem dX1_put_81 : decode cX1_put 81 = .ok (.istore_n 2, 1) := by decide +kernel
theorem dX1_put_82 : decode cX1_put 82 = .ok (.iconst 0, 1) := by decide +kernel
theorem dX1_put_83 : decode cX1_put 83 = .ok (.istore_n 3, 1) := by decide +kernel
theorem dX1_put_84 : decode cX1_put 84 = .ok (.iload_n 3, 1) := by decide +kernel
theorem dX1_put_85 : decode cX1_put 85 = .ok (.bipush 30, 2) := by decide +kernel
theorem dX1_put_87 : decode cX1_put 87 = .ok (.if_icmp .ge 85, 3) := by decide +kernel
theorem dX1_put_90 : decode cX1_put 90 = .ok (.aload_n 0, 1) := by decide +kernel
theorem dX1_put_91 : decode cX1_put 91 = .ok (.invokevirtual 39, 3) := by decide +kernel
theorem dX1_put_94 : decode cX1_put 94 = .ok (.ifCond .eq 78, 3) := by decide +kernel
theorem dX1_put_97 : decode cX1_put 97 = .ok (.aload_n 0, 1) := by decide +kernel
theorem dX1_put_98 : decode cX1_put 98 = .ok (.getfield 9, 3) := by decide +kernel
theorem dX1_put_101 : decode cX1_put 101 = .ok (.aload_n 0, 1) := by decide +kernel
theorem dX1_put_102 : decode cX1_put 102 = .ok (.getfield 21, 3) := by decide +kernel
theorem dX1_put_105 : decode cX1_put 105 = .ok (.iconst 2, 1) := by decide +kernel
theorem dX1_put_106 : decode cX1_put 106 = .ok (.isub, 1) := by decide +kernel
theorem dX1_put_107 : decode cX1_put 107 = .ok (.iaload, 1) := by decide +kernel
theorem dX1_put_108 : decode cX1_put 108 = .ok (.aload_n 0, 1) := by decide +kernel
theorem dX1_put_109 : decode cX1_put 109 = .ok (.getfield 9, 3) := by decide +kernel
theorem dX1_put_112 : decode cX1_put 112 = .ok (.aload_n 0, 1) := by decide +kernel
theorem dX1_put_113 : decode cX1_put 113 = .ok (.getfield 21, 3) := by decide +kernel
theorem dX1_put_116 : decode cX1_put 116 = .ok (.iconst 3, 1) := by decide +kernel
theorem dX1_put_117 : decode cX1_put 117 = .ok (.isub, 1) := by decide +kernel
theorem dX1_put_118 : decode cX1_put 118 = .ok (.iaload, 1) := by decide +kernel
theorem dX1_put_119 : decode cX1_put 119 = .ok (.isub, 1) := by decide +kernel
theorem dX1_put_120 : decode cX1_put 120 = .ok (.istore 4, 2) := by decide +kernel
theorem dX1_put_122 : decode cX1_put 122 = .ok (.iload_n 2, 1) := by decide +kernel
theorem dX1_put_123 : decode cX1_put 123 = .ok (.iload 4, 2) := by decide +kernel
theorem dX1_put_125 : decode cX1_put 125 = .ok (.iload 4, 2) := by decide +kernel
theorem dX1_put_127 : decode cX1_put 127 = .ok (.imul, 1) := by decide +kernel
theorem dX1_put_128 : decode cX1_put 128 = .ok (.bipush 10, 2) := by decide +kernel
theorem dX1_put_130 : decode cX1_put 130 = .ok (.idiv, 1) := by decide +kernel
theorem dX1_put_131 : decode cX1_put 131 = .ok (.iadd, 1) := by decide +kernel
theorem dX1_put_132 : decode cX1_put 132 = .ok (.istore_n 2, 1) := by decide +kernel
theorem dX1_put_133 : decode cX1_put 133 = .ok (.aload_n 0, 1) := by decide +kernel
theorem dX1_put_134 : decode cX1_put 134 = .ok (.dup, 1) := by decide +kernel
theorem dX1_put_135 : decode cX1_put 135 = .ok (.getfield 28, 3) := by decide +kernel
theorem dX1_put_138 : decode cX1_put 138 = .ok (.iconst 1, 1) := by decide +kernel
theorem dX1_put_139 : decode cX1_put 139 = .ok (.iadd, 1) := by decide +kernel
theorem dX1_put_140 : decode cX1_put 140 = .ok (.putfield 28, 3) := by decide +kernel
theorem dX1_put_143 : decode cX1_put 143 = .ok (.aload_n 0, 1) := by decide +kernel
theorem dX1_put_144 : decode cX1_put 144 = .ok (.aload_n 0, 1) := by decide +kernel
theorem dX1_put_145 : decode cX1_put 145 = .ok (.getfield 21, 3) := by decide +kernel
theorem dX1_put_148 : decode cX1_put 148 = .ok (.iconst 3, 1) := by decide +kernel
theorem dX1_put_149 : decode cX1_put 149 = .ok (.isub, 1) := by decide +kernel
theorem dX1_put_150 : decode cX1_put 150 = .ok (.aload_n 0, 1) := by decide +kernel
theorem dX1_put_151 : decode cX1_put 151 = .ok (.getfield 21, 3) := by decide +kernel
theorem dX1_put_154 : decode cX1_put 154 = .ok (.iconst 3, 1) := by decide +kernel
theorem dX1_put_155 : decode cX1_put 155 = .ok (.if_icmp .ne 7, 3) := by decide +kernel
theorem dX1_put_158 : decode cX1_put 158 = .ok (.iconst 1, 1) := by decide +kernel
theorem dX1_put_159 : decode cX1_put 159 = .ok (.goto 4, 3) := by decide +kernel
theorem dX1_put_162 : decode cX1_put 162 = .ok (.iconst 2, 1) := by decide +kernel
theorem dX1_put_163 : decode cX1_put 163 = .ok (.invokevirtual 35, 3) := by decide +kernel
theorem dX1_put_166 : decode cX1_put 166 = .ok (.iinc 3 1, 3) := by decide +kernel
theorem dX1_put_169 : decode cX1_put 169 = .ok (.goto (-85), 3) := by decide +kernel
theorem dX1_put_172 : decode cX1_put 172 = .ok (.aload_n 0, 1) := by decide +kernel
theorem dX1_put_173 : decode cX1_put 173 = .ok (.dup, 1) := by decide +kernel
theorem dX1_put_174 : decode cX1_put 174 = .ok (.getfield 25, 3) := by decide +kernel
theorem dX1_put_177 : decode cX1_put 177 = .ok (.iload_n 2, 1) := by decide +kernel
theorem dX1_put_178 : decode cX1_put 178 = .ok (.iadd, 1) := by decide +kernel
theorem dX1_put_179 : decode cX1_put 179 = .ok (.putfield 25, 3) := by decide +kernel
theorem dX1_put_182 : decode cX1_put 182 = .ok (.iload_n 2, 1) := by decide +kernel
theorem dX1_put_183 : decode cX1_put 183 = .ok (.ireturn, 1) := by decide +kernel
theorem wcRX1_31 : Cond.methodLink RX1 31 yX1_goesOn ∈ zTg ∧ Cond.instanceMethod yX1_goesOn ∈ zTg ∧ Cond.selects RX1 yX1_goesOn yX1_goesOn ∈ zTg ∧ Cond.initialized RX1 ∈ zTg ∧ Cond.code yX1_goesOn cX1_goesOn 3 (some .boolean) ∈ zTg := ⟨zm_f 694 (by decide +kernel) rfl, zm_f 696 (by decide +kernel) rfl, zm_f 13 (by decide +kernel) rfl, zm_f 42 (by decide +kernel) rfl, zm_f 697 (by decide +kernel) rfl⟩
theorem wy_yX1_goesOn : yX1_goesOn.cls = RX1 ∧ yX1_goesOn.cls ≠ "java/lang/invoke/MethodHandle" ∧ yX1_goesOn.cls ≠ "java/lang/invoke/VarHandle" ∧ (parseMethodDescriptor yX1_goesOn.desc).map (fun d => d.parameters.length) = some 1 := by decide +kernel
theorem wcRX1_35 : Cond.methodLink RX1 35 yX1_takeOut ∈ zTg ∧ Cond.instanceMethod yX1_takeOut ∈ zTg ∧ Cond.selects RX1 yX1_takeOut yX1_takeOut ∈ zTg ∧ Cond.initialized RX1 ∈ zTg ∧ Cond.code yX1_takeOut cX1_takeOut 4 none ∈ zTg := ⟨zm_f 698 (by decide +kernel) rfl, zm_f 700 (by decide +kernel) rfl, zm_f 14 (by decide +kernel) rfl, zm_f 42 (by decide +kernel) rfl, zm_f 701 (by decide +kernel) rfl⟩
theorem wy_yX1_takeOut : yX1_takeOut.cls = RX1 ∧ yX1_takeOut.cls ≠ "java/lang/invoke/MethodHandle" ∧ yX1_takeOut.cls ≠ "java/lang/invoke/VarHandle" ∧ (parseMethodDescriptor yX1_takeOut.desc).map (fun d => d.parameters.length) = some 2 := by decide +kernel
theorem wcRX1_39 : Cond.methodLink RX1 39 yX1_hasCycle ∈ zTg ∧ Cond.instanceMethod yX1_hasCycle ∈ zTg ∧ Cond.selects RX1 yX1_hasCycle yX1_hasCycle ∈ zTg ∧ Cond.initialized RX1 ∈ zTg ∧ Cond.code yX1_hasCycle cX1_hasCycle 1 (some .boolean) ∈ zTg := ⟨zm_f 702 (by decide +kernel) rfl, zm_f 704 (by decide +kernel) rfl, zm_f 15 (by decide +kernel) rfl, zm_f 42 (by decide +kernel) rfl, zm_f 705 (by decide +kernel) rfl⟩
theorem wy_yX1_hasCycle : yX1_hasCycle.cls = RX1 ∧ yX1_hasCycle.cls ≠ "java/lang/invoke/MethodHandle" ∧ yX1_hasCycle.cls ≠ "java/lang/invoke/VarHandle" ∧ (parseMethodDescriptor yX1_hasCycle.desc).map (fun d => d.parameters.length) = some 0 := by decide +kernel
theorem wfRX1_28 : zFl RX1 28 1 3 := ⟨_, rfl, by decide, zm_f 151 (by decide +kernel) rfl⟩
theorem wpRX1_28 : zFw RX1 28 1 3 .int := ⟨_, rfl, by decide, zm_f 151 (by decide +kernel) rfl, rfl, by decide +kernel⟩
theorem wfRX1_25 : zFl RX1 25 1 2 := ⟨_, rfl, by decide, zm_f 149 (by decide +kernel) rfl⟩
theorem wpRX1_25 : zFw RX1 25 1 2 .int := ⟨_, rfl, by decide, zm_f 149 (by decide +kernel) rfl, rfl, by decide +kernel⟩
def fEx_put_l84 (i : Nat) (q16 : Int32 × Int32 × zM) : Option ((Int32 × Int32 × zM) ⊕ ((Int32 × zM))) :=
  if (30 : Int32) ≤ q16.2.1 then
  some (.inr (q16.1, q16.2.2))
else
  Option.bind (fEx_hasCycle i q16.2.2) fun q18 =>
    if q18 = 0 then
    some (.inr (q16.1, q16.2.2))
  else
    zix ((q16.2.2 10 i 1) - (2 : Int32)) 30 fun j19 =>
      zix ((q16.2.2 10 i 1) - (3 : Int32)) 30 fun j20 =>
      zlet (((q16.2.2 11 i j19) - (q16.2.2 11 i j20))) fun v21 =>
      zlet ((q16.1 + ((v21 * v21) / (10 : Int32)))) fun v22 =>
      zlet (zu q16.2.2 10 i 3 ((q16.2.2 10 i 3) + (1 : Int32))) fun s0_23 =>
      Option.bind (if (s0_23 10 i 1) = (3 : Int32) then
      some (1 : Int32)
    else
      some (2 : Int32)) fun q24 =>
      Option.bind (fEx_takeOut i ((s0_23 10 i 1) - (3 : Int32)) q24 s0_23) fun q28 =>
      zlet (q16.2.1 + 1) fun v29 =>
      some (.inl (v22, v29, q28))
def fEx_put (i : Nat) (a1 : Int32) (s0 : zM) : Option (Int32 × zM) :=
  Option.bind (if (s0 10 i 1) ≤ 0 then
  some (.inl ())
else
  zix ((s0 10 i 1) - (1 : Int32)) 30 fun j5 =>
    if (s0 11 i j5) = a1 then
    some (.inr ((0 : Int32), s0))
  else
    some (.inl ())) (Sum.elim (fun (_ : Unit) =>
  Option.bind (fEx_goesOn i a1 s0) fun q6 =>
  Option.bind (if q6 = 0 then
  if (s0 10 i 1) < (30 : Int32) then
    some s0
  else
    Option.bind (fEx_takeOut i (0 : Int32) (1 : Int32) s0) fun q11 =>
      some q11
else
  zlet (zu s0 10 i 1 ((s0 10 i 1) - (1 : Int32))) fun s0_12 =>
    some s0_12) fun q7 =>
  zix (q7 10 i 1) 30 fun j13 =>
  zlet (zu q7 11 i j13 a1) fun s0_14 =>
  zlet (zu s0_14 10 i 1 ((s0_14 10 i 1) + (1 : Int32))) fun s0_15 =>
  Option.bind (ziter (fEx_put_l84 i) 1000 ((0 : Int32), (0 : Int32), s0_15)) fun q17 =>
  zlet (zu q17.2 10 i 2 ((q17.2 10 i 2) + q17.1)) fun s0_30 =>
  some (q17.1, s0_30)) (fun r => some r))
set_option maxHeartbeats 4000000 in
set_option maxRecDepth 20000 in
theorem bfEx_put_l84 {X : zX} (F : zFr X cX1_put 5 RX1 (some .int)) (i : Nat) (hi : i < 8) {ψ : (Int32 × Int32 × zM) ⊕ ((Int32 × zM)) → Option zO} (h1 : ∀ q16 : Int32 × Int32 × zM, zZ X [(0, [])] 2 43 5 84 [some (zr 0 10 i), none, some (zi q16.1), some (zi q16.2.1), none] [] [q16.2.2] (ψ (.inl q16))) (h2 : ∀ q17 : Int32 × zM, zZ X [(0, [])] 2 43 5 172 [some (zr 0 10 i), none, some (zi q17.1), none, none] [] [q17.2] (ψ (.inr q17))) (q16 : Int32 × Int32 × zM) : zZ X [(0, [])] 2 43 5 84 [some (zr 0 10 i), none, some (zi q16.1), some (zi q16.2.1), none] [] [q16.2.2] (Option.bind (fEx_put_l84 i q16) ψ) := by
  unfold fEx_put_l84
  refine zz_iload_n F (i := 3) dX1_put_84 rfl rfl ?_
  refine zz_bipush F (v := (30 : Int32)) dX1_put_85 (by decide) ?_
  refine zz_icmp_ge F (tgt := 172) dX1_put_87 (by decide) (fun h => zz_t h ?_) (fun h => zz_f h ?_)
  · exact zz_sub (zs_k (zs_k (zs_k (zs_n (zs_k zs_z))))) (h2 (q16.1, q16.2.2))
  · refine zz_aload_n F (i := 0) dX1_put_90 rfl rfl ?_
    refine zz_bind ?_
    refine zz_callVr F (ρ := [0]) (so := fun q18 => [zi q18]) (Mo := fun q18 => [q16.2.2]) (zfEx_hasCycle i hi q16.2.2) dX1_put_91 wcRX1_39 wy_yX1_hasCycle rfl ⟨rel3, rfl, rfl, Nat.le_of_ble_eq_true rfl, Nat.le_of_ble_eq_true rfl, Nat.le_of_ble_eq_true rfl⟩ (⟨zlb rfl, zlb rfl, hi⟩) rfl rfl rfl (fun _ => rfl) (fun _ => rfl) fun q18 => ?_
    refine zz_if_eq F (tgt := 172) dX1_put_94 (by decide) (fun h => zz_t h ?_) (fun h => zz_f h ?_)
    · exact zz_sub (zs_k (zs_k (zs_k (zs_n (zs_k zs_z))))) (h2 (q16.1, q16.2.2))
    · refine zz_aload_n F (i := 0) dX1_put_97 rfl rfl ?_
      refine zz_getr F dX1_put_98 wfRX1_9 zCl_1 rfl (⟨zlb rfl, zlb rfl, hi⟩) rfl (by decide) rfl (r' := 0) (by decide) ?_
      refine zz_aload_n F (i := 0) dX1_put_101 rfl rfl ?_
      refine zz_getf F dX1_put_102 wfRX1_21 zCl_1 rfl (⟨zlb rfl, zlb rfl, hi⟩) rfl (by decide) rfl rfl ?_
      refine zz_iconst F (v := (2 : Int32)) dX1_put_105 (by decide) ?_
      refine zz_isub F dX1_put_106 ?_
      refine zz_ix fun j19 hj19 hinj19 hej19 => zz_ial F dX1_put_107 rfl (⟨zlb rfl, zlb rfl, hi⟩) rfl hinj19 hej19 ?_
      refine zz_aload_n F (i := 0) dX1_put_108 rfl rfl ?_
      refine zz_getr F dX1_put_109 wfRX1_9 zCl_1 rfl (⟨zlb rfl, zlb rfl, hi⟩) rfl (by decide) rfl (r' := 0) (by decide) ?_
      refine zz_aload_n F (i := 0) dX1_put_112 rfl rfl ?_
      refine zz_getf F dX1_put_113 wfRX1_21 zCl_1 rfl (⟨zlb rfl, zlb rfl, hi⟩) rfl (by decide) rfl rfl ?_
      refine zz_iconst F (v := (3 : Int32)) dX1_put_116 (by decide) ?_
      refine zz_isub F dX1_put_117 ?_
      refine zz_ix fun j20 hj20 hinj20 hej20 => zz_ial F dX1_put_118 rfl (⟨zlb rfl, zlb rfl, hi⟩) rfl hinj20 hej20 ?_
      refine zz_isub F dX1_put_119 ?_
      refine zz_istore F (i := 4) (L' := [some (zr 0 10 i), none, some (zi q16.1), some (zi q16.2.1), some (zi ((q16.2.2 11 i j19) - (q16.2.2 11 i j20)))]) dX1_put_120 (by decide) rfl rfl ?_
      refine zz_letl (Lf := fun v21 => [some (zr 0 10 i), none, some (zi q16.1), some (zi q16.2.1), some (zi v21)]) fun v21 => ?_
      refine zz_iload_n F (i := 2) dX1_put_122 rfl rfl ?_
      refine zz_iload F (i := 4) dX1_put_123 rfl ?_
      refine zz_iload F (i := 4) dX1_put_125 rfl ?_
      refine zz_imul F dX1_put_127 ?_
      refine zz_bipush F (v := (10 : Int32)) dX1_put_128 (by decide) ?_
      refine zz_idiv F dX1_put_130 (by decide) ?_
      refine zz_iadd F dX1_put_131 ?_
      refine zz_istore_n F (i := 2) (L' := [some (zr 0 10 i), none, some (zi (q16.1 + ((v21 * v21) / (10 : Int32)))), some (zi q16.2.1), some (zi v21)]) dX1_put_132 rfl (by decide) rfl rfl ?_
      refine zz_letl (Lf := fun v22 => [some (zr 0 10 i), none, some (zi v22), some (zi q16.2.1), some (zi v21)]) fun v22 => ?_
      refine zz_aload_n F (i := 0) dX1_put_133 rfl rfl ?_
      refine zz_dup F dX1_put_134 rfl ?_
      refine zz_getf F dX1_put_135 wfRX1_28 zCl_1 rfl (⟨zlb rfl, zlb rfl, hi⟩) rfl (by decide) rfl rfl ?_
      refine zz_iconst F (v := (1 : Int32)) dX1_put_138 (by decide) ?_
      refine zz_iadd F dX1_put_139 ?_
      refine zz_put F (Ms' := [(zu q16.2.2 10 i 3 ((q16.2.2 10 i 3) + (1 : Int32)))]) dX1_put_140 wpRX1_28 zCl_1 rfl (⟨zlb rfl, zlb rfl, hi⟩) rfl (by decide) rfl rfl rfl ?_
      refine zz_letm (Mf := fun s0_23 => [s0_23]) fun s0_23 => ?_
      refine zz_aload_n F (i := 0) dX1_put_143 rfl rfl ?_
      refine zz_aload_n F (i := 0) dX1_put_144 rfl rfl ?_
      refine zz_getf F dX1_put_145 wfRX1_21 zCl_1 rfl (⟨zlb rfl, zlb rfl, hi⟩) rfl (by decide) rfl rfl ?_
      refine zz_iconst F (v := (3 : Int32)) dX1_put_148 (by decide) ?_
      refine zz_isub F dX1_put_149 ?_
      refine zz_aload_n F (i := 0) dX1_put_150 rfl rfl ?_
      refine zz_getf F dX1_put_151 wfRX1_21 zCl_1 rfl (⟨zlb rfl, zlb rfl, hi⟩) rfl (by decide) rfl rfl ?_
      refine zz_iconst F (v := (3 : Int32)) dX1_put_154 (by decide) ?_
      refine zz_join (pj := 163) (Lj := fun q24 => [some (zr 0 10 i), none, some (zi v22), some (zi q16.2.1), none]) (Sj := fun q24 => [zi q24, zi ((s0_23 10 i 1) - (3 : Int32)), zr 0 10 i]) (Mj := fun q24 => [s0_23]) (fun q24 => ?_) (fun κ26 hj25 => ?_)
      · refine zz_bind ?_
        refine zz_callVr F (ρ := [0]) (so := fun q28 => []) (Mo := fun q28 => [q28]) (zfEx_takeOut i ((s0_23 10 i 1) - (3 : Int32)) q24 hi s0_23) dX1_put_163 wcRX1_35 wy_yX1_takeOut rfl ⟨rel3, rfl, rfl, Nat.le_of_ble_eq_true rfl, Nat.le_of_ble_eq_true rfl, Nat.le_of_ble_eq_true rfl⟩ (⟨zlb rfl, zlb rfl, hi⟩) rfl rfl rfl (fun _ => rfl) (fun _ => rfl) fun q28 => ?_
        refine zz_iinc F (i := 3) (v := q16.2.1 + 1) (L' := [some (zr 0 10 i), none, some (zi v22), some (zi (q16.2.1 + 1)), none]) dX1_put_166 rfl (by first | rfl | decide) (by decide) rfl rfl ?_
        refine zz_letl (Lf := fun v29 => [some (zr 0 10 i), none, some (zi v22), some (zi v29), none]) fun v29 => ?_
        refine zz_goto F (tgt := 84) dX1_put_169 (by decide) ?_
        exact zz_sub (zs_k (zs_k (zs_k (zs_k (zs_k zs_z))))) (h1 (v22, v29, q28))
      · refine zz_icmp_ne F (tgt := 162) dX1_put_155 (by decide) (fun h => zz_f h ?_) (fun h => zz_t h ?_)
        · refine zz_iconst F (v := (2 : Int32)) dX1_put_162 (by decide) ?_
          exact zz_sub (zs_k (zs_k (zs_k (zs_k (zs_n zs_z))))) (hj25 (2 : Int32))
        · refine zz_iconst F (v := (1 : Int32)) dX1_put_158 (by decide) ?_
          refine zz_goto F (tgt := 163) dX1_put_159 (by decide) ?_
          exact zz_sub (zs_k (zs_k (zs_k (zs_k (zs_n zs_z))))) (hj25 (1 : Int32))
set_option maxHeartbeats 4000000 in
set_option maxRecDepth 20000 in
theorem bfEx_put {X : zX} (F : zFr X cX1_put 5 RX1 (some .int)) (i : Nat) (a1 : Int32) (hi : i < 8) (s0 : zM) {κ : Int32 × zM → Option zO} (hκ : ∀ a, κ a = some ((fun a => ((.inl ((fun q => some (zi q.1)) a), (fun q => [q.2]) a) : zO)) a)) : zZ X [(0, [])] 2 43 5 0 [some (zr 0 10 i), some (zi a1), none, none, none] [] [s0] (Option.bind (fEx_put i a1 s0) κ) := by
  unfold fEx_put
  refine zz_aload_n F (i := 0) dX1_put_0 rfl rfl ?_
  refine zz_getf F dX1_put_1 wfRX1_21 zCl_1 rfl (⟨zlb rfl, zlb rfl, hi⟩) rfl (by decide) rfl rfl ?_
  refine zz_joinE (pj := 24) (Lj := fun _ => [some (zr 0 10 i), some (zi a1), none, none, none]) (Sj := fun _ => []) (Mj := fun _ => [s0]) (fun _ => ?_) (fun κ3 hj2 hr4 => ?_)
  · refine zz_aload_n F (i := 0) dX1_put_24 rfl rfl ?_
    refine zz_iload_n F (i := 1) dX1_put_25 rfl rfl ?_
    refine zz_bind ?_
    refine zz_callVr F (ρ := [0]) (so := fun q6 => [zi q6]) (Mo := fun q6 => [s0]) (zfEx_goesOn i a1 hi s0) dX1_put_26 wcRX1_31 wy_yX1_goesOn rfl ⟨rel3, rfl, rfl, Nat.le_of_ble_eq_true rfl, Nat.le_of_ble_eq_true rfl, Nat.le_of_ble_eq_true rfl⟩ (⟨zlb rfl, zlb rfl, hi⟩) rfl rfl rfl (fun _ => rfl) (fun _ => rfl) fun q6 => ?_
    refine zz_join (pj := 60) (Lj := fun q7 => [some (zr 0 10 i), some (zi a1), none, none, none]) (Sj := fun q7 => []) (Mj := fun q7 => [q7]) (fun q7 => ?_) (fun κ9 hj8 => ?_)
    · refine zz_aload_n F (i := 0) dX1_put_60 rfl rfl ?_
      refine zz_getr F dX1_put_61 wfRX1_9 zCl_1 rfl (⟨zlb rfl, zlb rfl, hi⟩) rfl (by decide) rfl (r' := 0) (by decide) ?_
      refine zz_aload_n F (i := 0) dX1_put_64 rfl rfl ?_
      refine zz_getf F dX1_put_65 wfRX1_21 zCl_1 rfl (⟨zlb rfl, zlb rfl, hi⟩) rfl (by decide) rfl rfl ?_
      refine zz_iload_n F (i := 1) dX1_put_68 rfl rfl ?_
      refine zz_ix fun j13 hj13 hinj13 hej13 => zz_ias F (Ms' := [(zu q7 11 i j13 a1)]) dX1_put_69 rfl (⟨zlb rfl, zlb rfl, hi⟩) rfl hinj13 hej13 rfl ?_
      refine zz_letm (Mf := fun s0_14 => [s0_14]) fun s0_14 => ?_
      refine zz_aload_n F (i := 0) dX1_put_70 rfl rfl ?_
      refine zz_dup F dX1_put_71 rfl ?_
      refine zz_getf F dX1_put_72 wfRX1_21 zCl_1 rfl (⟨zlb rfl, zlb rfl, hi⟩) rfl (by decide) rfl rfl ?_
      refine zz_iconst F (v := (1 : Int32)) dX1_put_75 (by decide) ?_
      refine zz_iadd F dX1_put_76 ?_
      refine zz_put F (Ms' := [(zu s0_14 10 i 1 ((s0_14 10 i 1) + (1 : Int32)))]) dX1_put_77 wpRX1_21 zCl_1 rfl (⟨zlb rfl, zlb rfl, hi⟩) rfl (by decide) rfl rfl rfl ?_
      refine zz_letm (Mf := fun s0_15 => [s0_15]) fun s0_15 => ?_
      refine zz_iconst F (v := (0 : Int32)) dX1_put_80 (by decide) ?_
      refine zz_istore_n F (i := 2) (L' := [some (zr 0 10 i), some (zi a1), some (zi (0 : Int32)), none, none]) dX1_put_81 rfl (by decide) rfl rfl ?_
      refine zz_iconst F (v := (0 : Int32)) dX1_put_82 (by decide) ?_
      refine zz_istore_n F (i := 3) (L' := [some (zr 0 10 i), some (zi a1), some (zi (0 : Int32)), some (zi (0 : Int32)), none]) dX1_put_83 rfl (by decide) rfl rfl ?_
      refine zz_sub (zs_k (zs_n (zs_k (zs_k (zs_k zs_z))))) ?_
      refine zz_bind ?_
      refine zz_iter (Lf := fun q16 => [some (zr 0 10 i), none, some (zi q16.1), some (zi q16.2.1), none]) (Mf := fun q16 => [q16.2.2]) (fun q16 ψ h1 h2 => bfEx_put_l84 F i hi h1 (fun q17 => ?_)  q16) 1000 ((0 : Int32), (0 : Int32), s0_15)
      rw [h2]
      refine zz_aload_n F (i := 0) dX1_put_172 rfl rfl ?_
      refine zz_dup F dX1_put_173 rfl ?_
      refine zz_getf F dX1_put_174 wfRX1_25 zCl_1 rfl (⟨zlb rfl, zlb rfl, hi⟩) rfl (by decide) rfl rfl ?_
      refine zz_iload_n F (i := 2) dX1_put_177 rfl rfl ?_
      refine zz_iadd F dX1_put_178 ?_
      refine zz_put F (Ms' := [(zu q17.2 10 i 2 ((q17.2 10 i 2) + q17.1))]) dX1_put_179 wpRX1_25 zCl_1 rfl (⟨zlb rfl, zlb rfl, hi⟩) rfl (by decide) rfl rfl rfl ?_
      refine zz_letm (Mf := fun s0_30 => [s0_30]) fun s0_30 => ?_
      refine zz_iload_n F (i := 2) dX1_put_182 rfl rfl ?_
      exact zz_ireturn F dX1_put_183 rfl (hκ _)
    · refine zz_if_eq F (tgt := 45) dX1_put_29 (by decide) (fun h => zz_t h ?_) (fun h => zz_f h ?_)
      · refine zz_aload_n F (i := 0) dX1_put_45 rfl rfl ?_
        refine zz_getf F dX1_put_46 wfRX1_21 zCl_1 rfl (⟨zlb rfl, zlb rfl, hi⟩) rfl (by decide) rfl rfl ?_
        refine zz_bipush F (v := (30 : Int32)) dX1_put_49 (by decide) ?_
        refine zz_icmp_lt F (tgt := 60) dX1_put_51 (by decide) (fun h => zz_t h ?_) (fun h => zz_f h ?_)
        · exact zz_sub (zs_k (zs_k (zs_k (zs_k (zs_k zs_z))))) (hj8 s0)
        · refine zz_aload_n F (i := 0) dX1_put_54 rfl rfl ?_
          refine zz_iconst F (v := (0 : Int32)) dX1_put_55 (by decide) ?_
          refine zz_iconst F (v := (1 : Int32)) dX1_put_56 (by decide) ?_
          refine zz_bind ?_
          refine zz_callVr F (ρ := [0]) (so := fun q11 => []) (Mo := fun q11 => [q11]) (zfEx_takeOut i (0 : Int32) (1 : Int32) hi s0) dX1_put_57 wcRX1_35 wy_yX1_takeOut rfl ⟨rel3, rfl, rfl, Nat.le_of_ble_eq_true rfl, Nat.le_of_ble_eq_true rfl, Nat.le_of_ble_eq_true rfl⟩ (⟨zlb rfl, zlb rfl, hi⟩) rfl rfl rfl (fun _ => rfl) (fun _ => rfl) fun q11 => ?_
          exact zz_sub (zs_k (zs_k (zs_k (zs_k (zs_k zs_z))))) (hj8 q11)
      · refine zz_aload_n F (i := 0) dX1_put_32 rfl rfl ?_
        refine zz_dup F dX1_put_33 rfl ?_
        refine zz_getf F dX1_put_34 wfRX1_21 zCl_1 rfl (⟨zlb rfl, zlb rfl, hi⟩) rfl (by decide) rfl rfl ?_
        refine zz_iconst F (v := (1 : Int32)) dX1_put_37 (by decide) ?_
        refine zz_isub F dX1_put_38 ?_
        refine zz_put F (Ms' := [(zu s0 10 i 1 ((s0 10 i 1) - (1 : Int32)))]) dX1_put_39 wpRX1_21 zCl_1 rfl (⟨zlb rfl, zlb rfl, hi⟩) rfl (by decide) rfl rfl rfl ?_
        refine zz_letm (Mf := fun s0_12 => [s0_12]) fun s0_12 => ?_
        refine zz_goto F (tgt := 60) dX1_put_42 (by decide) ?_
        exact zz_sub (zs_k (zs_k (zs_k (zs_k (zs_k zs_z))))) (hj8 s0_12)
  · refine zz_if_le F (tgt := 24) dX1_put_4 (by decide) (fun h => zz_t h ?_) (fun h => zz_f h ?_)
    · exact zz_sub (zs_k (zs_k (zs_k (zs_k (zs_k zs_z))))) (hj2 ())
    · refine zz_aload_n F (i := 0) dX1_put_7 rfl rfl ?_
      refine zz_getr F dX1_put_8 wfRX1_9 zCl_1 rfl (⟨zlb rfl, zlb rfl, hi⟩) rfl (by decide) rfl (r' := 0) (by decide) ?_
      refine zz_aload_n F (i := 0) dX1_put_11 rfl rfl ?_
      refine zz_getf F dX1_put_12 wfRX1_21 zCl_1 rfl (⟨zlb rfl, zlb rfl, hi⟩) rfl (by decide) rfl rfl ?_
      refine zz_iconst F (v := (1 : Int32)) dX1_put_15 (by decide) ?_
      refine zz_isub F dX1_put_16 ?_
      refine zz_ix fun j5 hj5 hinj5 hej5 => zz_ial F dX1_put_17 rfl (⟨zlb rfl, zlb rfl, hi⟩) rfl hinj5 hej5 ?_
      refine zz_iload_n F (i := 1) dX1_put_18 rfl rfl ?_
      refine zz_icmp_ne F (tgt := 24) dX1_put_19 (by decide) (fun h => zz_f h ?_) (fun h => zz_t h ?_)
      · exact zz_sub (zs_k (zs_k (zs_k (zs_k (zs_k zs_z))))) (hj2 ())
      · refine zz_iconst F (v := (0 : Int32)) dX1_put_22 (by decide) ?_
        exact zz_ireturn F dX1_put_23 rfl ((hr4 _).trans (hκ _))
theorem zfEx_put (i : Nat) (a1 : Int32) (hi : i < 8) (s0 : zM) : ∀ a, fEx_put i a1 s0 = some a → zMet yX1_put cX1_put 5 (some .int) 2 43 [(0, [])] [zr 0 10 i, zi a1] [s0] ((fun a => ((.inl ((fun q => some (zi q.1)) a), (fun q => [q.2]) a) : zO)) a) := fun a ha => zMet_of (L0 := [some (zr 0 10 i), some (zi a1), none, none, none]) (φ := Option.bind (fEx_put i a1 s0) (fun a => some ((fun a => ((.inl ((fun q => some (zi q.1)) a), (fun q => [q.2]) a) : zO)) a))) (by decide) (fun _ => Nat.le_of_ble_eq_true rfl) (zl0 3 rfl) (fun X F => bfEx_put F i a1 hi s0 (fun _ => rfl)) (by rw [ha]; rfl)
end
section
theorem dX5_wearOut_0 : decode cX5_wearOut 0 = .ok (.aload_n 0, 1) := by decide +kernel
theorem dX5_wearOut_1 : decode cX5_wearOut 1 = .ok (.getfield 9, 3) := by decide +kernel
theorem dX5_wearOut_4 : decode cX5_wearOut 4 = .ok (.iconst 2, 1) := by decide +kernel
theorem dX5_wearOut_5 : decode cX5_wearOut 5 = .ok (.if_icmp .eq 4, 3) := by decide +kernel
theorem dX5_wearOut_8 : decode cX5_wearOut 8 = .ok (.return_, 1) := by decide +kernel
theorem dX5_wearOut_9 : decode cX5_wearOut 9 = .ok (.aload_n 0, 1) := by decide +kernel
theorem dX5_wearOut_10 : decode cX5_wearOut 10 = .ok (.iconst 0, 1) := by decide +kernel
theorem dX5_wearOut_11 : decode cX5_wearOut 11 = .ok (.aload_n 0, 1) := by decide +kernel
theorem dX5_wearOut_12 : decode cX5_wearOut 12 = .ok (.getfield 50, 3) := by decide +kernel
theorem dX5_wearOut_15 : decode cX5_wearOut 15 = .ok (.bipush 12, 2) := by decide +kernel
theorem dX5_wearOut_17 : decode cX5_wearOut 17 = .ok (.if_icmp .le 7, 3) := by decide +kernel
theorem dX5_wearOut_20 : decode cX5_wearOut 20 = .ok (.iconst 2, 1) := by decide +kernel
theorem dX5_wearOut_21 : decode cX5_wearOut 21 = .ok (.goto 4, 3) := by decide +kernel
theorem dX5_wearOut_24 : decode cX5_wearOut 24 = .ok (.iconst 1, 1) := by decide +kernel
theorem dX5_wearOut_25 : decode cX5_wearOut 25 = .ok (.invokevirtual 117, 3) := by decide +kernel
theorem dX5_wearOut_28 : decode cX5_wearOut 28 = .ok (.aload_n 0, 1) := by decide +kernel
theorem dX5_wearOut_29 : decode cX5_wearOut 29 = .ok (.iconst 1, 1) := by decide +kernel
theorem dX5_wearOut_30 : decode cX5_wearOut 30 = .ok (.aload_n 0, 1) := by decide +kernel
theorem dX5_wearOut_31 : decode cX5_wearOut 31 = .ok (.getfield 50, 3) := by decide +kernel
theorem dX5_wearOut_34 : decode cX5_wearOut 34 = .ok (.aload_n 0, 1) := by decide +kernel
theorem dX5_wearOut_35 : decode cX5_wearOut 35 = .ok (.getfield 53, 3) := by decide +kernel
theorem dX5_wearOut_38 : decode cX5_wearOut 38 = .ok (.isub, 1) := by decide +kernel
theorem dX5_wearOut_39 : decode cX5_wearOut 39 = .ok (.invokestatic 120, 3) := by decide +kernel
theorem dX5_wearOut_42 : decode cX5_wearOut 42 = .ok (.iconst 5, 1) := by decide +kernel
theorem dX5_wearOut_43 : decode cX5_wearOut 43 = .ok (.if_icmp .lt 7, 3) := by decide +kernel
theorem dX5_wearOut_46 : decode cX5_wearOut 46 = .ok (.iconst 3, 1) := by decide +kernel
theorem dX5_wearOut_47 : decode cX5_wearOut 47 = .ok (.goto 4, 3) := by decide +kernel
theorem dX5_wearOut_50 : decode cX5_wearOut 50 = .ok (.iconst 1, 1) := by decide +kernel
theorem dX5_wearOut_51 : decode cX5_wearOut 51 = .ok (.invokevirtual 117, 3) := by decide +kernel
theorem dX5_wearOut_54 : decode cX5_wearOut 54 = .ok (.aload_n 0, 1) := by decide +kernel
theorem dX5_wearOut_55 : decode cX5_wearOut 55 = .ok (.iconst 2, 1) := by decide +kernel
theorem dX5_wearOut_56 : decode cX5_wearOut 56 = .ok (.aload_n 0, 1) := by decide +kernel
theorem dX5_wearOut_57 : decode cX5_wearOut 57 = .ok (.getfield 34, 3) := by decide +kernel
theorem dX5_wearOut_60 : decode cX5_wearOut 60 = .ok (.aload_n 0, 1) := by decide +kernel
theorem dX5_wearOut_61 : decode cX5_wearOut 61 = .ok (.getfield 50, 3) := by decide +kernel
theorem dX5_wearOut_64 : decode cX5_wearOut 64 = .ok (.invokevirtual 123, 3) := by decide +kernel
theorem dX5_wearOut_67 : decode cX5_wearOut 67 = .ok (.aload_n 0, 1) := by decide +kernel
theorem dX5_wearOut_68 : decode cX5_wearOut 68 = .ok (.getfield 47, 3) := by decide +kernel
theorem dX5_wearOut_71 : decode cX5_wearOut 71 = .ok (.invokestatic 120, 3) := by decide +kernel
theorem dX5_wearOut_74 : decode cX5_wearOut 74 = .ok (.iadd, 1) := by decide +kernel
theorem dX5_wearOut_75 : decode cX5_wearOut 75 = .ok (.invokevirtual 117, 3) := by decide +kernel
theorem dX5_wearOut_78 : decode cX5_wearOut 78 = .ok (.return_, 1) := by decide +kernel
theorem wcRX5_117 : Cond.methodLink RX5 117 yX5_wearPart ∈ zTg ∧ Cond.instanceMethod yX5_wearPart ∈ zTg ∧ Cond.selects RX5 yX5_wearPart yX5_wearPart ∈ zTg ∧ Cond.initialized RX5 ∈ zTg ∧ Cond.code yX5_wearPart cX5_wearPart 3 none ∈ zTg := ⟨zm_f 684 (by decide +kernel) rfl, zm_f 686 (by decide +kernel) rfl, zm_f 12 (by decide +kernel) rfl, zm_f 41 (by decide +kernel) rfl, zm_f 687 (by decide +kernel) rfl⟩
theorem wy_yX5_wearPart : yX5_wearPart.cls = RX5 ∧ yX5_wearPart.cls ≠ "java/lang/invoke/MethodHandle" ∧ yX5_wearPart.cls ≠ "java/lang/invoke/VarHandle" ∧ (parseMethodDescriptor yX5_wearPart.desc).map (fun d => d.parameters.length) = some 2 := by decide +kernel
theorem wfRX5_53 : zFl RX5 53 5 9 := ⟨_, rfl, by decide, zm_f 184 (by decide +kernel) rfl⟩
theorem wmRX5_120 : Cond.methodLink RX5 120 Lib.Math.abs.name ∈ zTg := zm_f 689 (by decide +kernel) rfl
theorem wfRX5_34 : zFl RX5 34 5 13 := ⟨_, rfl, by decide, zm_f 193 (by decide +kernel) rfl⟩
theorem wcRX5_123 : Cond.methodLink RX5 123 yX1_put ∈ zTg ∧ Cond.instanceMethod yX1_put ∈ zTg ∧ Cond.selects RX1 yX1_put yX1_put ∈ zTg ∧ Cond.initialized RX1 ∈ zTg ∧ Cond.code yX1_put cX1_put 5 (some .int) ∈ zTg := ⟨zm_f 690 (by decide +kernel) rfl, zm_f 691 (by decide +kernel) rfl, zm_f 692 (by decide +kernel) rfl, zm_f 42 (by decide +kernel) rfl, zm_f 693 (by decide +kernel) rfl⟩
theorem wy_yX1_put : yX1_put.cls = RX1 ∧ yX1_put.cls ≠ "java/lang/invoke/MethodHandle" ∧ yX1_put.cls ≠ "java/lang/invoke/VarHandle" ∧ (parseMethodDescriptor yX1_put.desc).map (fun d => d.parameters.length) = some 1 := by decide +kernel
def fTu_wearOut (i : Nat) (s0 : zM) : Option (zM) :=
  if (s0 7 i 3) = (2 : Int32) then
  Option.bind (if (s0 7 i 8) ≤ (12 : Int32) then
    some (1 : Int32)
  else
    some (2 : Int32)) fun q1 =>
    Option.bind (fTu_wearPart i (0 : Int32) q1 s0) fun q5 =>
    Option.bind (if (zabs ((q5 7 i 8) - (q5 7 i 9))) < (5 : Int32) then
    some (1 : Int32)
  else
    some (3 : Int32)) fun q6 =>
    Option.bind (fTu_wearPart i (1 : Int32) q6 q5) fun q10 =>
    Option.bind (fEx_put i (q10 7 i 8) q10) fun q11 =>
    Option.bind (fTu_wearPart i (2 : Int32) (q11.1 + (zabs (q11.2 7 i 7))) q11.2) fun q12 =>
    some q12
else
  some s0
set_option maxHeartbeats 4000000 in
set_option maxRecDepth 20000 in
theorem bfTu_wearOut {X : zX} (F : zFr X cX5_wearOut 1 RX5 none) (i : Nat) (hi : i < 8) (s0 : zM) {κ : zM → Option zO} (hκ : ∀ a, κ a = some ((fun a => ((.inl ((fun _ => (none : Option zV)) a), (fun q => [q]) a) : zO)) a)) : zZ X [(0, [])] 3 67 1 0 [some (zr 0 7 i)] [] [s0] (Option.bind (fTu_wearOut i s0) κ) := by
  unfold fTu_wearOut
  refine zz_aload_n F (i := 0) dX5_wearOut_0 rfl rfl ?_
  refine zz_getf F dX5_wearOut_1 wfRX5_9 zCl_5 rfl (⟨zlb rfl, zlb rfl, hi⟩) rfl (by decide) rfl rfl ?_
  refine zz_iconst F (v := (2 : Int32)) dX5_wearOut_4 (by decide) ?_
  refine zz_icmp_eq F (tgt := 9) dX5_wearOut_5 (by decide) (fun h => zz_t h ?_) (fun h => zz_f h ?_)
  · refine zz_aload_n F (i := 0) dX5_wearOut_9 rfl rfl ?_
    refine zz_iconst F (v := (0 : Int32)) dX5_wearOut_10 (by decide) ?_
    refine zz_aload_n F (i := 0) dX5_wearOut_11 rfl rfl ?_
    refine zz_getf F dX5_wearOut_12 wfRX5_50 zCl_5 rfl (⟨zlb rfl, zlb rfl, hi⟩) rfl (by decide) rfl rfl ?_
    refine zz_bipush F (v := (12 : Int32)) dX5_wearOut_15 (by decide) ?_
    refine zz_join (pj := 25) (Lj := fun q1 => [some (zr 0 7 i)]) (Sj := fun q1 => [zi q1, zi (0 : Int32), zr 0 7 i]) (Mj := fun q1 => [s0]) (fun q1 => ?_) (fun κ3 hj2 => ?_)
    · refine zz_bind ?_
      refine zz_callVr F (ρ := [0]) (so := fun q5 => []) (Mo := fun q5 => [q5]) (zfTu_wearPart i (0 : Int32) q1 hi s0) dX5_wearOut_25 wcRX5_117 wy_yX5_wearPart rfl ⟨rel3, rfl, rfl, Nat.le_of_ble_eq_true rfl, Nat.le_of_ble_eq_true rfl, Nat.le_of_ble_eq_true rfl⟩ (⟨zlb rfl, zlb rfl, hi⟩) rfl rfl rfl (fun _ => rfl) (fun _ => rfl) fun q5 => ?_
      refine zz_aload_n F (i := 0) dX5_wearOut_28 rfl rfl ?_
      refine zz_iconst F (v := (1 : Int32)) dX5_wearOut_29 (by decide) ?_
      refine zz_aload_n F (i := 0) dX5_wearOut_30 rfl rfl ?_
      refine zz_getf F dX5_wearOut_31 wfRX5_50 zCl_5 rfl (⟨zlb rfl, zlb rfl, hi⟩) rfl (by decide) rfl rfl ?_
      refine zz_aload_n F (i := 0) dX5_wearOut_34 rfl rfl ?_
      refine zz_getf F dX5_wearOut_35 wfRX5_53 zCl_5 rfl (⟨zlb rfl, zlb rfl, hi⟩) rfl (by decide) rfl rfl ?_
      refine zz_isub F dX5_wearOut_38 ?_
      refine zz_abs F dX5_wearOut_39 wmRX5_120 wMath_abs (Nat.le_of_ble_eq_true rfl) (Nat.le_of_ble_eq_true rfl) ?_
      refine zz_iconst F (v := (5 : Int32)) dX5_wearOut_42 (by decide) ?_
      refine zz_join (pj := 51) (Lj := fun q6 => [some (zr 0 7 i)]) (Sj := fun q6 => [zi q6, zi (1 : Int32), zr 0 7 i]) (Mj := fun q6 => [q5]) (fun q6 => ?_) (fun κ8 hj7 => ?_)
      · refine zz_bind ?_
        refine zz_callVr F (ρ := [0]) (so := fun q10 => []) (Mo := fun q10 => [q10]) (zfTu_wearPart i (1 : Int32) q6 hi q5) dX5_wearOut_51 wcRX5_117 wy_yX5_wearPart rfl ⟨rel3, rfl, rfl, Nat.le_of_ble_eq_true rfl, Nat.le_of_ble_eq_true rfl, Nat.le_of_ble_eq_true rfl⟩ (⟨zlb rfl, zlb rfl, hi⟩) rfl rfl rfl (fun _ => rfl) (fun _ => rfl) fun q10 => ?_
        refine zz_aload_n F (i := 0) dX5_wearOut_54 rfl rfl ?_
        refine zz_iconst F (v := (2 : Int32)) dX5_wearOut_55 (by decide) ?_
        refine zz_aload_n F (i := 0) dX5_wearOut_56 rfl rfl ?_
        refine zz_getr F dX5_wearOut_57 wfRX5_34 zCl_5 rfl (⟨zlb rfl, zlb rfl, hi⟩) rfl (by decide) rfl (r' := 0) (by decide) ?_
        refine zz_aload_n F (i := 0) dX5_wearOut_60 rfl rfl ?_
        refine zz_getf F dX5_wearOut_61 wfRX5_50 zCl_5 rfl (⟨zlb rfl, zlb rfl, hi⟩) rfl (by decide) rfl rfl ?_
        refine zz_bind ?_
        refine zz_callVr F (ρ := [0]) (so := fun q11 => [zi q11.1, zi (2 : Int32), zr 0 7 i]) (Mo := fun q11 => [q11.2]) (zfEx_put i (q10 7 i 8) hi q10) dX5_wearOut_64 wcRX5_123 wy_yX1_put rfl ⟨rel3, rfl, rfl, Nat.le_of_ble_eq_true rfl, Nat.le_of_ble_eq_true rfl, Nat.le_of_ble_eq_true rfl⟩ (⟨zlb rfl, zlb rfl, hi⟩) rfl rfl rfl (fun _ => rfl) (fun _ => rfl) fun q11 => ?_
        refine zz_aload_n F (i := 0) dX5_wearOut_67 rfl rfl ?_
        refine zz_getf F dX5_wearOut_68 wfRX5_47 zCl_5 rfl (⟨zlb rfl, zlb rfl, hi⟩) rfl (by decide) rfl rfl ?_
        refine zz_abs F dX5_wearOut_71 wmRX5_120 wMath_abs (Nat.le_of_ble_eq_true rfl) (Nat.le_of_ble_eq_true rfl) ?_
        refine zz_iadd F dX5_wearOut_74 ?_
        refine zz_bind ?_
        refine zz_callVr F (ρ := [0]) (so := fun q12 => []) (Mo := fun q12 => [q12]) (zfTu_wearPart i (2 : Int32) (q11.1 + (zabs (q11.2 7 i 7))) hi q11.2) dX5_wearOut_75 wcRX5_117 wy_yX5_wearPart rfl ⟨rel3, rfl, rfl, Nat.le_of_ble_eq_true rfl, Nat.le_of_ble_eq_true rfl, Nat.le_of_ble_eq_true rfl⟩ (⟨zlb rfl, zlb rfl, hi⟩) rfl rfl rfl (fun _ => rfl) (fun _ => rfl) fun q12 => ?_
        exact zz_return F dX5_wearOut_78 rfl (hκ _)
      · refine zz_icmp_lt F (tgt := 50) dX5_wearOut_43 (by decide) (fun h => zz_t h ?_) (fun h => zz_f h ?_)
        · refine zz_iconst F (v := (1 : Int32)) dX5_wearOut_50 (by decide) ?_
          exact zz_sub (zs_k zs_z) (hj7 (1 : Int32))
        · refine zz_iconst F (v := (3 : Int32)) dX5_wearOut_46 (by decide) ?_
          refine zz_goto F (tgt := 51) dX5_wearOut_47 (by decide) ?_
          exact zz_sub (zs_k zs_z) (hj7 (3 : Int32))
    · refine zz_icmp_le F (tgt := 24) dX5_wearOut_17 (by decide) (fun h => zz_t h ?_) (fun h => zz_f h ?_)
      · refine zz_iconst F (v := (1 : Int32)) dX5_wearOut_24 (by decide) ?_
        exact zz_sub (zs_k zs_z) (hj2 (1 : Int32))
      · refine zz_iconst F (v := (2 : Int32)) dX5_wearOut_20 (by decide) ?_
        refine zz_goto F (tgt := 25) dX5_wearOut_21 (by decide) ?_
        exact zz_sub (zs_k zs_z) (hj2 (2 : Int32))
  · exact zz_return F dX5_wearOut_8 rfl (hκ _)
theorem zfTu_wearOut (i : Nat) (hi : i < 8) (s0 : zM) : ∀ a, fTu_wearOut i s0 = some a → zMet yX5_wearOut cX5_wearOut 1 none 3 67 [(0, [])] [zr 0 7 i] [s0] ((fun a => ((.inl ((fun _ => (none : Option zV)) a), (fun q => [q]) a) : zO)) a) := fun a ha => zMet_of (L0 := [some (zr 0 7 i)]) (φ := Option.bind (fTu_wearOut i s0) (fun a => some ((fun a => ((.inl ((fun _ => (none : Option zV)) a), (fun q => [q]) a) : zO)) a))) (by decide) (fun _ => Nat.le_of_ble_eq_true rfl) (zl0 0 rfl) (fun X F => bfTu_wearOut F i hi s0 (fun _ => rfl)) (by rw [ha]; rfl)

theorem dX6_finishes_0 : decode cX6_finishes 0 = .ok (.aload_n 0, 1) := by decide +kernel
theorem dX6_finishes_1 : decode cX6_finishes 1 = .ok (.getfield 15, 3) := by decide +kernel
theorem dX6_finishes_4 : decode cX6_finishes 4 = .ok (.iconst (-1), 1) := by decide +kernel
theorem dX6_finishes_5 : decode cX6_finishes 5 = .ok (.if_icmp .ne 5, 3) := by decide +kernel
theorem dX6_finishes_8 : decode cX6_finishes 8 = .ok (.iconst 0, 1) := by decide +kernel
theorem dX6_finishes_9 : decode cX6_finishes 9 = .ok (.ireturn, 1) := by decide +kernel
theorem dX6_finishes_10 : decode cX6_finishes 10 = .ok (.aload_n 0, 1) := by decide +kernel
theorem dX6_finishes_11 : decode cX6_finishes 11 = .ok (.dup, 1) := by decide +kernel
theorem dX6_finishes_12 : decode cX6_finishes 12 = .ok (.getfield 25, 3) := by decide +kernel
theorem dX6_finishes_15 : decode cX6_finishes 15 = .ok (.iconst 1, 1) := by decide +kernel
theorem dX6_finishes_16 : decode cX6_finishes 16 = .ok (.isub, 1) := by decide +kernel
theorem dX6_finishes_17 : decode cX6_finishes 17 = .ok (.putfield 25, 3) := by decide +kernel
theorem dX6_finishes_20 : decode cX6_finishes 20 = .ok (.aload_n 0, 1) := by decide +kernel
theorem dX6_finishes_21 : decode cX6_finishes 21 = .ok (.getfield 25, 3) := by decide +kernel
theorem dX6_finishes_24 : decode cX6_finishes 24 = .ok (.ifCond .le 5, 3) := by decide +kernel
theorem dX6_finishes_27 : decode cX6_finishes 27 = .ok (.iconst 0, 1) := by decide +kernel
theorem dX6_finishes_28 : decode cX6_finishes 28 = .ok (.ireturn, 1) := by decide +kernel
theorem dX6_finishes_29 : decode cX6_finishes 29 = .ok (.aload_n 0, 1) := by decide +kernel
theorem dX6_finishes_30 : decode cX6_finishes 30 = .ok (.iconst (-1), 1) := by decide +kernel
theorem dX6_finishes_31 : decode cX6_finishes 31 = .ok (.putfield 15, 3) := by decide +kernel
theorem dX6_finishes_34 : decode cX6_finishes 34 = .ok (.iconst 1, 1) := by decide +kernel
theorem dX6_finishes_35 : decode cX6_finishes 35 = .ok (.ireturn, 1) := by decide +kernel
theorem wfRX6_15 : zFl RX6 15 6 3 := ⟨_, rfl, by decide, zm_f 258 (by decide +kernel) rfl⟩
theorem wfRX6_25 : zFl RX6 25 6 4 := ⟨_, rfl, by decide, zm_f 261 (by decide +kernel) rfl⟩
theorem wpRX6_25 : zFw RX6 25 6 4 .int := ⟨_, rfl, by decide, zm_f 261 (by decide +kernel) rfl, rfl, by decide +kernel⟩
theorem wpRX6_15 : zFw RX6 15 6 3 .int := ⟨_, rfl, by decide, zm_f 258 (by decide +kernel) rfl, rfl, by decide +kernel⟩
def fVe_finishes (i : Nat) (s0 : zM) : Option (Int32 × zM) :=
  if (s0 13 i 3) = (-1 : Int32) then
  some ((0 : Int32), s0)
else
  zlet (zu s0 13 i 4 ((s0 13 i 4) - (1 : Int32))) fun s0_1 =>
    if (s0_1 13 i 4) ≤ 0 then
    zlet (zu s0_1 13 i 3 (-1 : Int32)) fun s0_2 =>
      some ((1 : Int32), s0_2)
  else
    some ((0 : Int32), s0_1)
set_option maxHeartbeats 4000000 in
set_option maxRecDepth 20000 in
theorem bfVe_finishes {X : zX} (F : zFr X cX6_finishes 1 RX6 (some .boolean)) (i : Nat) (hi : i < 3) (s0 : zM) {κ : Int32 × zM → Option zO} (hκ : ∀ a, κ a = some ((fun a => ((.inl ((fun q => some (zi q.1)) a), (fun q => [q.2]) a) : zO)) a)) : zZ X [(0, [])] 0 0 1 0 [some (zr 0 13 i)] [] [s0] (Option.bind (fVe_finishes i s0) κ) := by
  unfold fVe_finishes
  refine zz_aload_n F (i := 0) dX6_finishes_0 rfl rfl ?_
  refine zz_getf F dX6_finishes_1 wfRX6_15 zCl_6 rfl (⟨zlb rfl, zlb rfl, hi⟩) rfl (by decide) rfl rfl ?_
  refine zz_iconst F (v := (-1 : Int32)) dX6_finishes_4 (by decide) ?_
  refine zz_icmp_ne F (tgt := 10) dX6_finishes_5 (by decide) (fun h => zz_f h ?_) (fun h => zz_t h ?_)
  · refine zz_aload_n F (i := 0) dX6_finishes_10 rfl rfl ?_
    refine zz_dup F dX6_finishes_11 rfl ?_
    refine zz_getf F dX6_finishes_12 wfRX6_25 zCl_6 rfl (⟨zlb rfl, zlb rfl, hi⟩) rfl (by decide) rfl rfl ?_
    refine zz_iconst F (v := (1 : Int32)) dX6_finishes_15 (by decide) ?_
    refine zz_isub F dX6_finishes_16 ?_
    refine zz_put F (Ms' := [(zu s0 13 i 4 ((s0 13 i 4) - (1 : Int32)))]) dX6_finishes_17 wpRX6_25 zCl_6 rfl (⟨zlb rfl, zlb rfl, hi⟩) rfl (by decide) rfl rfl rfl ?_
    refine zz_letm (Mf := fun s0_1 => [s0_1]) fun s0_1 => ?_
    refine zz_aload_n F (i := 0) dX6_finishes_20 rfl rfl ?_
    refine zz_getf F dX6_finishes_21 wfRX6_25 zCl_6 rfl (⟨zlb rfl, zlb rfl, hi⟩) rfl (by decide) rfl rfl ?_
    refine zz_if_le F (tgt := 29) dX6_finishes_24 (by decide) (fun h => zz_t h ?_) (fun h => zz_f h ?_)
    · refine zz_aload_n F (i := 0) dX6_finishes_29 rfl rfl ?_
      refine zz_iconst F (v := (-1 : Int32)) dX6_finishes_30 (by decide) ?_
      refine zz_put F (Ms' := [(zu s0_1 13 i 3 (-1 : Int32))]) dX6_finishes_31 wpRX6_15 zCl_6 rfl (⟨zlb rfl, zlb rfl, hi⟩) rfl (by decide) rfl rfl rfl ?_
      refine zz_letm (Mf := fun s0_2 => [s0_2]) fun s0_2 => ?_
      refine zz_iconst F (v := (1 : Int32)) dX6_finishes_34 (by decide) ?_
      exact zz_zreturn F dX6_finishes_35 rfl rfl (hκ _)
    · refine zz_iconst F (v := (0 : Int32)) dX6_finishes_27 (by decide) ?_
      exact zz_zreturn F dX6_finishes_28 rfl rfl (hκ _)
  · refine zz_iconst F (v := (0 : Int32)) dX6_finishes_8 (by decide) ?_
    exact zz_zreturn F dX6_finishes_9 rfl rfl (hκ _)
theorem zfVe_finishes (i : Nat) (hi : i < 3) (s0 : zM) : ∀ a, fVe_finishes i s0 = some a → zMet yX6_finishes cX6_finishes 1 (some .boolean) 0 0 [(0, [])] [zr 0 13 i] [s0] ((fun a => ((.inl ((fun q => some (zi q.1)) a), (fun q => [q.2]) a) : zO)) a) := fun a ha => zMet_of (L0 := [some (zr 0 13 i)]) (φ := Option.bind (fVe_finishes i s0) (fun a => some ((fun a => ((.inl ((fun q => some (zi q.1)) a), (fun q => [q.2]) a) : zO)) a))) (by decide) (fun _ => Nat.le_of_ble_eq_true rfl) (zl0 0 rfl) (fun X F => bfVe_finishes F i hi s0 (fun _ => rfl)) (by rw [ha]; rfl)

theorem dX3_hasTurbine_0 : decode cX3_hasTurbine 0 = .ok (.iload_n 1, 1) := by decide +kernel
theorem dX3_hasTurbine_1 : decode cX3_hasTurbine 1 = .ok (.ifCond .lt 15, 3) := by decide +kernel
theorem dX3_hasTurbine_4 : decode cX3_hasTurbine 4 = .ok (.iload_n 1, 1) := by decide +kernel
theorem dX3_hasTurbine_5 : decode cX3_hasTurbine 5 = .ok (.aload_n 0, 1) := by decide +kernel
theorem dX3_hasTurbine_6 : decode cX3_hasTurbine 6 = .ok (.getfield 56, 3) := by decide +kernel
theorem dX3_hasTurbine_9 : decode cX3_hasTurbine 9 = .ok (.if_icmp .ge 7, 3) := by decide +kernel
theorem dX3_hasTurbine_12 : decode cX3_hasTurbine 12 = .ok (.iconst 1, 1) := by decide +kernel
theorem dX3_hasTurbine_13 : decode cX3_hasTurbine 13 = .ok (.goto 4, 3) := by decide +kernel
theorem dX3_hasTurbine_16 : decode cX3_hasTurbine 16 = .ok (.iconst 0, 1) := by decide +kernel
theorem dX3_hasTurbine_17 : decode cX3_hasTurbine 17 = .ok (.ireturn, 1) := by decide +kernel
def fSe_hasTurbine (a1 : Int32) (s0 : zM) : Option (Int32) :=
  if a1 < 0 then
  some (0 : Int32)
else
  if (s0 0 0 5) ≤ a1 then
    some (0 : Int32)
  else
    some (1 : Int32)
set_option maxHeartbeats 4000000 in
set_option maxRecDepth 20000 in
theorem bfSe_hasTurbine {X : zX} (F : zFr X cX3_hasTurbine 2 RX3 (some .boolean)) (a1 : Int32)  (s0 : zM) {κ : Int32 → Option zO} (hκ : ∀ a, κ a = some ((fun a => ((.inl ((fun q => some (zi q)) a), (fun _ => [s0]) a) : zO)) a)) : zZ X [(0, [])] 0 0 2 0 [some (zr 0 0 0), some (zi a1)] [] [s0] (Option.bind (fSe_hasTurbine a1 s0) κ) := by
  unfold fSe_hasTurbine
  refine zz_iload_n F (i := 1) dX3_hasTurbine_0 rfl rfl ?_
  refine zz_if_lt F (tgt := 16) dX3_hasTurbine_1 (by decide) (fun h => zz_t h ?_) (fun h => zz_f h ?_)
  · refine zz_iconst F (v := (0 : Int32)) dX3_hasTurbine_16 (by decide) ?_
    exact zz_zreturn F dX3_hasTurbine_17 rfl rfl (hκ _)
  · refine zz_iload_n F (i := 1) dX3_hasTurbine_4 rfl rfl ?_
    refine zz_aload_n F (i := 0) dX3_hasTurbine_5 rfl rfl ?_
    refine zz_getf F dX3_hasTurbine_6 wfRX3_56 zCl_3 rfl (⟨zlb rfl, zlb rfl, zlb rfl⟩) rfl (by decide) rfl rfl ?_
    refine zz_icmp_ge F (tgt := 16) dX3_hasTurbine_9 (by decide) (fun h => zz_t h ?_) (fun h => zz_f h ?_)
    · refine zz_iconst F (v := (0 : Int32)) dX3_hasTurbine_16 (by decide) ?_
      exact zz_zreturn F dX3_hasTurbine_17 rfl rfl (hκ _)
    · refine zz_iconst F (v := (1 : Int32)) dX3_hasTurbine_12 (by decide) ?_
      refine zz_goto F (tgt := 17) dX3_hasTurbine_13 (by decide) ?_
      exact zz_zreturn F dX3_hasTurbine_17 rfl rfl (hκ _)
theorem zfSe_hasTurbine (a1 : Int32)  (s0 : zM) : ∀ a, fSe_hasTurbine a1 s0 = some a → zMet yX3_hasTurbine cX3_hasTurbine 2 (some .boolean) 0 0 [(0, [])] [zr 0 0 0, zi a1] [s0] ((fun a => ((.inl ((fun q => some (zi q)) a), (fun _ => [s0]) a) : zO)) a) := fun a ha => zMet_of (L0 := [some (zr 0 0 0), some (zi a1)]) (φ := Option.bind (fSe_hasTurbine a1 s0) (fun a => some ((fun a => ((.inl ((fun q => some (zi q)) a), (fun _ => [s0]) a) : zO)) a))) (by decide) (fun _ => Nat.le_of_ble_eq_true rfl) (zl0 0 rfl) (fun X F => bfSe_hasTurbine F a1 s0 (fun _ => rfl)) (by rw [ha]; rfl)

theorem dX3_work_0 : decode cX3_work 0 = .ok (.aload_n 1, 1) := by decide +kernel
theorem dX3_work_1 : decode cX3_work 1 = .ok (.getfield 199, 3) := by decide +kernel
theorem dX3_work_4 : decode cX3_work 4 = .ok (.ifCond .ne 4, 3) := by decide +kernel
theorem dX3_work_7 : decode cX3_work 7 = .ok (.return_, 1) := by decide +kernel
theorem dX3_work_8 : decode cX3_work 8 = .ok (.aload_n 0, 1) := by decide +kernel
theorem dX3_work_9 : decode cX3_work 9 = .ok (.getfield 32, 3) := by decide +kernel
theorem dX3_work_12 : decode cX3_work 12 = .ok (.getfield 203, 3) := by decide +kernel
theorem dX3_work_15 : decode cX3_work 15 = .ok (.aload_n 1, 1) := by decide +kernel
theorem dX3_work_16 : decode cX3_work 16 = .ok (.getfield 71, 3) := by decide +kernel
theorem dX3_work_19 : decode cX3_work 19 = .ok (.bipush 10, 2) := by decide +kernel
theorem dX3_work_21 : decode cX3_work 21 = .ok (.iadd, 1) := by decide +kernel
theorem dX3_work_22 : decode cX3_work 22 = .ok (.if_icmp .le 13, 3) := by decide +kernel
theorem dX3_work_25 : decode cX3_work 25 = .ok (.aload_n 1, 1) := by decide +kernel
theorem dX3_work_26 : decode cX3_work 26 = .ok (.dup, 1) := by decide +kernel
theorem dX3_work_27 : decode cX3_work 27 = .ok (.getfield 206, 3) := by decide +kernel
theorem dX3_work_30 : decode cX3_work 30 = .ok (.iconst 1, 1) := by decide +kernel
theorem dX3_work_31 : decode cX3_work 31 = .ok (.iadd, 1) := by decide +kernel
theorem dX3_work_32 : decode cX3_work 32 = .ok (.putfield 206, 3) := by decide +kernel
theorem dX3_work_35 : decode cX3_work 35 = .ok (.aload_n 1, 1) := by decide +kernel
theorem dX3_work_36 : decode cX3_work 36 = .ok (.getfield 209, 3) := by decide +kernel
theorem dX3_work_39 : decode cX3_work 39 = .ok (.istore_n 2, 1) := by decide +kernel
theorem dX3_work_40 : decode cX3_work 40 = .ok (.aload_n 1, 1) := by decide +kernel
theorem dX3_work_41 : decode cX3_work 41 = .ok (.invokevirtual 212, 3) := by decide +kernel
theorem dX3_work_44 : decode cX3_work 44 = .ok (.ifCond .eq 48, 3) := by decide +kernel
theorem dX3_work_47 : decode cX3_work 47 = .ok (.aload_n 0, 1) := by decide +kernel
theorem dX3_work_48 : decode cX3_work 48 = .ok (.aload_n 1, 1) := by decide +kernel
theorem dX3_work_49 : decode cX3_work 49 = .ok (.getfield 96, 3) := by decide +kernel
theorem dX3_work_52 : decode cX3_work 52 = .ok (.invokevirtual 216, 3) := by decide +kernel
theorem dX3_work_55 : decode cX3_work 55 = .ok (.ifCond .eq 37, 3) := by decide +kernel
theorem dX3_work_58 : decode cX3_work 58 = .ok (.iload_n 2, 1) := by decide +kernel
theorem dX3_work_59 : decode cX3_work 59 = .ok (.ifCond .lt 33, 3) := by decide +kernel
theorem dX3_work_62 : decode cX3_work 62 = .ok (.iload_n 2, 1) := by decide +kernel
theorem dX3_work_63 : decode cX3_work 63 = .ok (.iconst 3, 1) := by decide +kernel
theorem dX3_work_64 : decode cX3_work 64 = .ok (.if_icmp .ge 28, 3) := by decide +kernel
theorem dX3_work_67 : decode cX3_work 67 = .ok (.aload_n 0, 1) := by decide +kernel
theorem dX3_work_68 : decode cX3_work 68 = .ok (.getfield 11, 3) := by decide +kernel
theorem dX3_work_71 : decode cX3_work 71 = .ok (.aload_n 1, 1) := by decide +kernel
theorem dX3_work_72 : decode cX3_work 72 = .ok (.getfield 96, 3) := by decide +kernel
theorem dX3_work_75 : decode cX3_work 75 = .ok (.aaload, 1) := by decide +kernel
theorem dX3_work_76 : decode cX3_work 76 = .ok (.getfield 220, 3) := by decide +kernel
theorem dX3_work_79 : decode cX3_work 79 = .ok (.iload_n 2, 1) := by decide +kernel
theorem dX3_work_80 : decode cX3_work 80 = .ok (.iconst 0, 1) := by decide +kernel
theorem dX3_work_81 : decode cX3_work 81 = .ok (.iastore, 1) := by decide +kernel
theorem dX3_work_82 : decode cX3_work 82 = .ok (.aload_n 0, 1) := by decide +kernel
theorem dX3_work_83 : decode cX3_work 83 = .ok (.dup, 1) := by decide +kernel
theorem dX3_work_84 : decode cX3_work 84 = .ok (.getfield 77, 3) := by decide +kernel
theorem dX3_work_87 : decode cX3_work 87 = .ok (.iconst 1, 1) := by decide +kernel
theorem dX3_work_88 : decode cX3_work 88 = .ok (.iadd, 1) := by decide +kernel
theorem dX3_work_89 : decode cX3_work 89 = .ok (.putfield 77, 3) := by decide +kernel
theorem dX3_work_92 : decode cX3_work 92 = .ok (.return_, 1) := by decide +kernel
theorem wfRX3_199 : zFl RX3 199 6 2 := ⟨_, rfl, by decide, zm_f 257 (by decide +kernel) rfl⟩
theorem wfRX3_203 : zFl RX3 203 7 2 := ⟨_, rfl, by decide, zm_f 90 (by decide +kernel) rfl⟩
theorem wfRX3_71 : zFl RX3 71 6 0 := ⟨_, rfl, by decide, zm_f 250 (by decide +kernel) rfl⟩
theorem wfRX3_206 : zFl RX3 206 6 5 := ⟨_, rfl, by decide, zm_f 264 (by decide +kernel) rfl⟩
theorem wpRX3_206 : zFw RX3 206 6 5 .int := ⟨_, rfl, by decide, zm_f 264 (by decide +kernel) rfl, rfl, by decide +kernel⟩
theorem wfRX3_209 : zFl RX3 209 6 3 := ⟨_, rfl, by decide, zm_f 259 (by decide +kernel) rfl⟩
theorem wcRX3_212 : Cond.methodLink RX3 212 yX6_finishes ∈ zTg ∧ Cond.instanceMethod yX6_finishes ∈ zTg ∧ Cond.selects RX6 yX6_finishes yX6_finishes ∈ zTg ∧ Cond.initialized RX6 ∈ zTg ∧ Cond.code yX6_finishes cX6_finishes 1 (some .boolean) ∈ zTg := ⟨zm_f 711 (by decide +kernel) rfl, zm_f 712 (by decide +kernel) rfl, zm_f 713 (by decide +kernel) rfl, zm_f 44 (by decide +kernel) rfl, zm_f 714 (by decide +kernel) rfl⟩
theorem wy_yX6_finishes : yX6_finishes.cls = RX6 ∧ yX6_finishes.cls ≠ "java/lang/invoke/MethodHandle" ∧ yX6_finishes.cls ≠ "java/lang/invoke/VarHandle" ∧ (parseMethodDescriptor yX6_finishes.desc).map (fun d => d.parameters.length) = some 0 := by decide +kernel
theorem wfRX3_96 : zFl RX3 96 6 1 := ⟨_, rfl, by decide, zm_f 253 (by decide +kernel) rfl⟩
theorem wcRX3_216 : Cond.methodLink RX3 216 yX3_hasTurbine ∈ zTg ∧ Cond.instanceMethod yX3_hasTurbine ∈ zTg ∧ Cond.selects RX3 yX3_hasTurbine yX3_hasTurbine ∈ zTg ∧ Cond.initialized RX3 ∈ zTg ∧ Cond.code yX3_hasTurbine cX3_hasTurbine 2 (some .boolean) ∈ zTg := ⟨zm_f 715 (by decide +kernel) rfl, zm_f 501 (by decide +kernel) rfl, zm_f 502 (by decide +kernel) rfl, zm_f 38 (by decide +kernel) rfl, zm_f 503 (by decide +kernel) rfl⟩
theorem wy_yX3_hasTurbine : yX3_hasTurbine.cls = RX3 ∧ yX3_hasTurbine.cls ≠ "java/lang/invoke/MethodHandle" ∧ yX3_hasTurbine.cls ≠ "java/lang/invoke/VarHandle" ∧ (parseMethodDescriptor yX3_hasTurbine.desc).map (fun d => d.parameters.length) = some 1 := by decide +kernel
theorem wfRX3_220 : zFl RX3 220 5 11 := ⟨_, rfl, by decide, zm_f 190 (by decide +kernel) rfl⟩
theorem wfRX3_77 : zFl RX3 77 3 10 := ⟨_, rfl, by decide, zm_f 301 (by decide +kernel) rfl⟩
theorem wpRX3_77 : zFw RX3 77 3 10 .int := ⟨_, rfl, by decide, zm_f 301 (by decide +kernel) rfl, rfl, by decide +kernel⟩
def fSe_work (i : Nat) (s0 : zM) : Option (zM) :=
  if (s0 13 i 2 &&& 1) = 0 then
  some s0
else
  Option.bind (if (s0 4 0 2) ≤ ((s0 13 i 0) + (10 : Int32)) then
    some s0
  else
    zlet (zu s0 13 i 5 ((s0 13 i 5) + (1 : Int32))) fun s0_5 =>
      some s0_5) fun q1 =>
    zlet ((q1 13 i 3)) fun v6 =>
    Option.bind (fVe_finishes i q1) fun q7 =>
    if q7.1 = 0 then
    some q7.2
  else
    Option.bind (fSe_hasTurbine (q7.2 13 i 1) q7.2) fun q8 =>
      if q8 = 0 then
      some q7.2
    else
      if v6 < 0 then
        some q7.2
      else
        if (3 : Int32) ≤ v6 then
          some q7.2
        else
          zix (q7.2 13 i 1) 8 fun j9 =>
            zix v6 3 fun j10 =>
            zlet (zu q7.2 8 j9 j10 (0 : Int32)) fun s0_11 =>
            zlet (zu s0_11 0 0 10 ((s0_11 0 0 10) + (1 : Int32))) fun s0_12 =>
            some s0_12
set_option maxHeartbeats 4000000 in
set_option maxRecDepth 20000 in
theorem bfSe_work {X : zX} (F : zFr X cX3_work 3 RX3 none) (i : Nat) (hi : i < 3) (s0 : zM) {κ : zM → Option zO} (hκ : ∀ a, κ a = some ((fun a => ((.inl ((fun _ => (none : Option zV)) a), (fun q => [q]) a) : zO)) a)) : zZ X [(0, [])] 1 21 3 0 [some (zr 0 0 0), some (zr 0 13 i), none] [] [s0] (Option.bind (fSe_work i s0) κ) := by
  unfold fSe_work
  refine zz_aload_n F (i := 1) dX3_work_0 rfl rfl ?_
  refine zz_getb F dX3_work_1 wfRX3_199 zCl_6 rfl (⟨zlb rfl, zlb rfl, hi⟩) rfl (by decide) rfl rfl ?_
  refine zz_if_ne F (tgt := 8) dX3_work_4 (by decide) (fun h => zz_f h ?_) (fun h => zz_t h ?_)
  · refine zz_aload_n F (i := 0) dX3_work_8 rfl rfl ?_
    refine zz_getr F dX3_work_9 wfRX3_32 zCl_3 rfl (⟨zlb rfl, zlb rfl, zlb rfl⟩) rfl (by decide) rfl (r' := 0) (by decide) ?_
    refine zz_getf F dX3_work_12 wfRX3_203 zCl_7 rfl (⟨zlb rfl, zlb rfl, zlb rfl⟩) rfl (by decide) rfl rfl ?_
    refine zz_aload_n F (i := 1) dX3_work_15 rfl rfl ?_
    refine zz_getf F dX3_work_16 wfRX3_71 zCl_6 rfl (⟨zlb rfl, zlb rfl, hi⟩) rfl (by decide) rfl rfl ?_
    refine zz_bipush F (v := (10 : Int32)) dX3_work_19 (by decide) ?_
    refine zz_iadd F dX3_work_21 ?_
    refine zz_join (pj := 35) (Lj := fun q1 => [some (zr 0 0 0), some (zr 0 13 i), none]) (Sj := fun q1 => []) (Mj := fun q1 => [q1]) (fun q1 => ?_) (fun κ3 hj2 => ?_)
    · refine zz_aload_n F (i := 1) dX3_work_35 rfl rfl ?_
      refine zz_getf F dX3_work_36 wfRX3_209 zCl_6 rfl (⟨zlb rfl, zlb rfl, hi⟩) rfl (by decide) rfl rfl ?_
      refine zz_istore_n F (i := 2) (L' := [some (zr 0 0 0), some (zr 0 13 i), some (zi (q1 13 i 3))]) dX3_work_39 rfl (by decide) rfl rfl ?_
      refine zz_letl (Lf := fun v6 => [some (zr 0 0 0), some (zr 0 13 i), some (zi v6)]) fun v6 => ?_
      refine zz_aload_n F (i := 1) dX3_work_40 rfl rfl ?_
      refine zz_bind ?_
      refine zz_callVr F (ρ := [0]) (so := fun q7 => [zi q7.1]) (Mo := fun q7 => [q7.2]) (zfVe_finishes i hi q1) dX3_work_41 wcRX3_212 wy_yX6_finishes rfl ⟨rel3, rfl, rfl, Nat.le_of_ble_eq_true rfl, Nat.le_of_ble_eq_true rfl, Nat.le_of_ble_eq_true rfl⟩ (⟨zlb rfl, zlb rfl, hi⟩) rfl rfl rfl (fun _ => rfl) (fun _ => rfl) fun q7 => ?_
      refine zz_if_eq F (tgt := 92) dX3_work_44 (by decide) (fun h => zz_t h ?_) (fun h => zz_f h ?_)
      · exact zz_return F dX3_work_92 rfl (hκ _)
      · refine zz_aload_n F (i := 0) dX3_work_47 rfl rfl ?_
        refine zz_aload_n F (i := 1) dX3_work_48 rfl rfl ?_
        refine zz_getf F dX3_work_49 wfRX3_96 zCl_6 rfl (⟨zlb rfl, zlb rfl, hi⟩) rfl (by decide) rfl rfl ?_
        refine zz_bind ?_
        refine zz_callVr F (ρ := [0]) (so := fun q8 => [zi q8]) (Mo := fun q8 => [q7.2]) (zfSe_hasTurbine (q7.2 13 i 1) q7.2) dX3_work_52 wcRX3_216 wy_yX3_hasTurbine rfl ⟨rel3, rfl, rfl, Nat.le_of_ble_eq_true rfl, Nat.le_of_ble_eq_true rfl, Nat.le_of_ble_eq_true rfl⟩ (⟨zlb rfl, zlb rfl, zlb rfl⟩) rfl rfl rfl (fun _ => rfl) (fun _ => rfl) fun q8 => ?_
        refine zz_if_eq F (tgt := 92) dX3_work_55 (by decide) (fun h => zz_t h ?_) (fun h => zz_f h ?_)
        · exact zz_return F dX3_work_92 rfl (hκ _)
        · refine zz_iload_n F (i := 2) dX3_work_58 rfl rfl ?_
          refine zz_if_lt F (tgt := 92) dX3_work_59 (by decide) (fun h => zz_t h ?_) (fun h => zz_f h ?_)
          · exact zz_return F dX3_work_92 rfl (hκ _)
          · refine zz_iload_n F (i := 2) dX3_work_62 rfl rfl ?_
            refine zz_iconst F (v := (3 : Int32)) dX3_work_63 (by decide) ?_
            refine zz_icmp_ge F (tgt := 92) dX3_work_64 (by decide) (fun h => zz_t h ?_) (fun h => zz_f h ?_)
            · exact zz_return F dX3_work_92 rfl (hκ _)
            · refine zz_aload_n F (i := 0) dX3_work_67 rfl rfl ?_
              refine zz_getr F dX3_work_68 wfRX3_11 zCl_3 rfl (⟨zlb rfl, zlb rfl, zlb rfl⟩) rfl (by decide) rfl (r' := 0) (by decide) ?_
              refine zz_aload_n F (i := 1) dX3_work_71 rfl rfl ?_
              refine zz_getf F dX3_work_72 wfRX3_96 zCl_6 rfl (⟨zlb rfl, zlb rfl, hi⟩) rfl (by decide) rfl rfl ?_
              refine zz_ix fun j9 hj9 hinj9 hej9 => zz_aal F dX3_work_75 rfl (⟨zlb rfl, zlb rfl, zlb rfl⟩) rfl (by decide) rfl hinj9 hej9 rfl ?_
              refine zz_getr F dX3_work_76 wfRX3_220 zCl_5 rfl (⟨zlb rfl, zlb rfl, hj9⟩) rfl (by decide) rfl (r' := 0) (by decide) ?_
              refine zz_iload_n F (i := 2) dX3_work_79 rfl rfl ?_
              refine zz_iconst F (v := (0 : Int32)) dX3_work_80 (by decide) ?_
              refine zz_ix fun j10 hj10 hinj10 hej10 => zz_ias F (Ms' := [(zu q7.2 8 j9 j10 (0 : Int32))]) dX3_work_81 rfl (⟨zlb rfl, zlb rfl, hj9⟩) rfl hinj10 hej10 rfl ?_
              refine zz_letm (Mf := fun s0_11 => [s0_11]) fun s0_11 => ?_
              refine zz_aload_n F (i := 0) dX3_work_82 rfl rfl ?_
              refine zz_dup F dX3_work_83 rfl ?_
              refine zz_getf F dX3_work_84 wfRX3_77 zCl_3 rfl (⟨zlb rfl, zlb rfl, zlb rfl⟩) rfl (by decide) rfl rfl ?_
              refine zz_iconst F (v := (1 : Int32)) dX3_work_87 (by decide) ?_
              refine zz_iadd F dX3_work_88 ?_
              refine zz_put F (Ms' := [(zu s0_11 0 0 10 ((s0_11 0 0 10) + (1 : Int32)))]) dX3_work_89 wpRX3_77 zCl_3 rfl (⟨zlb rfl, zlb rfl, zlb rfl⟩) rfl (by decide) rfl rfl rfl ?_
              refine zz_letm (Mf := fun s0_12 => [s0_12]) fun s0_12 => ?_
              exact zz_return F dX3_work_92 rfl (hκ _)
    · refine zz_icmp_le F (tgt := 35) dX3_work_22 (by decide) (fun h => zz_t h ?_) (fun h => zz_f h ?_)
      · exact zz_sub (zs_k (zs_k (zs_k zs_z))) (hj2 s0)
      · refine zz_aload_n F (i := 1) dX3_work_25 rfl rfl ?_
        refine zz_dup F dX3_work_26 rfl ?_
        refine zz_getf F dX3_work_27 wfRX3_206 zCl_6 rfl (⟨zlb rfl, zlb rfl, hi⟩) rfl (by decide) rfl rfl ?_
        refine zz_iconst F (v := (1 : Int32)) dX3_work_30 (by decide) ?_
        refine zz_iadd F dX3_work_31 ?_
        refine zz_put F (Ms' := [(zu s0 13 i 5 ((s0 13 i 5) + (1 : Int32)))]) dX3_work_32 wpRX3_206 zCl_6 rfl (⟨zlb rfl, zlb rfl, hi⟩) rfl (by decide) rfl rfl rfl ?_
        refine zz_letm (Mf := fun s0_5 => [s0_5]) fun s0_5 => ?_
        exact zz_sub (zs_k (zs_k (zs_k zs_z))) (hj2 s0_5)
  · exact zz_return F dX3_work_7 rfl (hκ _)
theorem zfSe_work (i : Nat) (hi : i < 3) (s0 : zM) : ∀ a, fSe_work i s0 = some a → zMet yX3_work cX3_work 3 none 1 21 [(0, [])] [zr 0 0 0, zr 0 13 i] [s0] ((fun a => ((.inl ((fun _ => (none : Option zV)) a), (fun q => [q]) a) : zO)) a) := fun a ha => zMet_of (L0 := [some (zr 0 0 0), some (zr 0 13 i), none]) (φ := Option.bind (fSe_work i s0) (fun a => some ((fun a => ((.inl ((fun _ => (none : Option zV)) a), (fun q => [q]) a) : zO)) a))) (by decide) (fun _ => Nat.le_of_ble_eq_true rfl) (zl0 1 rfl) (fun X F => bfSe_work F i hi s0 (fun _ => rfl)) (by rw [ha]; rfl)

theorem dX3_passHour_0 : decode cX3_passHour 0 = .ok (.aload_n 0, 1) := by decide +kernel
theorem dX3_passHour_1 : decode cX3_passHour 1 = .ok (.dup, 1) := by decide +kernel
theorem dX3_passHour_2 : decode cX3_passHour 2 = .ok (.getfield 74, 3) := by decide +kernel
theorem dX3_passHour_5 : decode cX3_passHour 5 = .ok (.iconst 1, 1) := by decide +kernel
theorem dX3_passHour_6 : decode cX3_passHour 6 = .ok (.iadd, 1) := by decide +kernel
theorem dX3_passHour_7 : decode cX3_passHour 7 = .ok (.putfield 74, 3) := by decide +kernel
theorem dX3_passHour_10 : decode cX3_passHour 10 = .ok (.iconst 0, 1) := by decide +kernel
theorem dX3_passHour_11 : decode cX3_passHour 11 = .ok (.istore_n 1, 1) := by decide +kernel
theorem dX3_passHour_12 : decode cX3_passHour 12 = .ok (.iload_n 1, 1) := by decide +kernel
theorem dX3_passHour_13 : decode cX3_passHour 13 = .ok (.aload_n 0, 1) := by decide +kernel
theorem dX3_passHour_14 : decode cX3_passHour 14 = .ok (.getfield 56, 3) := by decide +kernel
theorem dX3_passHour_17 : decode cX3_passHour 17 = .ok (.if_icmp .ge 26, 3) := by decide +kernel
theorem dX3_passHour_20 : decode cX3_passHour 20 = .ok (.aload_n 0, 1) := by decide +kernel
theorem dX3_passHour_21 : decode cX3_passHour 21 = .ok (.getfield 11, 3) := by decide +kernel
theorem dX3_passHour_24 : decode cX3_passHour 24 = .ok (.iload_n 1, 1) := by decide +kernel
theorem dX3_passHour_25 : decode cX3_passHour 25 = .ok (.aaload, 1) := by decide +kernel
theorem dX3_passHour_26 : decode cX3_passHour 26 = .ok (.aload_n 0, 1) := by decide +kernel
theorem dX3_passHour_27 : decode cX3_passHour 27 = .ok (.getfield 32, 3) := by decide +kernel
theorem dX3_passHour_30 : decode cX3_passHour 30 = .ok (.aload_n 0, 1) := by decide +kernel
theorem dX3_passHour_31 : decode cX3_passHour 31 = .ok (.getfield 43, 3) := by decide +kernel
theorem dX3_passHour_34 : decode cX3_passHour 34 = .ok (.invokevirtual 139, 3) := by decide +kernel
theorem dX3_passHour_37 : decode cX3_passHour 37 = .ok (.iinc 1 1, 3) := by decide +kernel
theorem dX3_passHour_40 : decode cX3_passHour 40 = .ok (.goto (-28), 3) := by decide +kernel
theorem dX3_passHour_43 : decode cX3_passHour 43 = .ok (.aload_n 0, 1) := by decide +kernel
theorem dX3_passHour_44 : decode cX3_passHour 44 = .ok (.getfield 32, 3) := by decide +kernel
theorem dX3_passHour_47 : decode cX3_passHour 47 = .ok (.getfield 143, 3) := by decide +kernel
theorem dX3_passHour_50 : decode cX3_passHour 50 = .ok (.invokestatic 146, 3) := by decide +kernel
theorem dX3_passHour_53 : decode cX3_passHour 53 = .ok (.istore_n 1, 1) := by decide +kernel
theorem dX3_passHour_54 : decode cX3_passHour 54 = .ok (.iconst 0, 1) := by decide +kernel
theorem dX3_passHour_55 : decode cX3_passHour 55 = .ok (.istore_n 2, 1) := by decide +kernel
theorem dX3_passHour_56 : decode cX3_passHour 56 = .ok (.iload_n 2, 1) := by decide +kernel
theorem dX3_passHour_57 : decode cX3_passHour 57 = .ok (.aload_n 0, 1) := by decide +kernel
theorem dX3_passHour_58 : decode cX3_passHour 58 = .ok (.getfield 56, 3) := by decide +kernel
theorem dX3_passHour_61 : decode cX3_passHour 61 = .ok (.if_icmp .ge 34, 3) := by decide +kernel
theorem dX3_passHour_64 : decode cX3_passHour 64 = .ok (.aload_n 0, 1) := by decide +kernel
theorem dX3_passHour_65 : decode cX3_passHour 65 = .ok (.getfield 11, 3) := by decide +kernel
theorem dX3_passHour_68 : decode cX3_passHour 68 = .ok (.iload_n 2, 1) := by decide +kernel
theorem dX3_passHour_69 : decode cX3_passHour 69 = .ok (.aaload, 1) := by decide +kernel
theorem dX3_passHour_70 : decode cX3_passHour 70 = .ok (.aload_n 0, 1) := by decide +kernel
theorem dX3_passHour_71 : decode cX3_passHour 71 = .ok (.getfield 32, 3) := by decide +kernel
theorem dX3_passHour_74 : decode cX3_passHour 74 = .ok (.getfield 143, 3) := by decide +kernel
theorem dX3_passHour_77 : decode cX3_passHour 77 = .ok (.aload_n 0, 1) := by decide +kernel
theorem dX3_passHour_78 : decode cX3_passHour 78 = .ok (.iload_n 2, 1) := by decide +kernel
theorem dX3_passHour_79 : decode cX3_passHour 79 = .ok (.invokevirtual 150, 3) := by decide +kernel
theorem dX3_passHour_82 : decode cX3_passHour 82 = .ok (.invokestatic 153, 3) := by decide +kernel
theorem dX3_passHour_85 : decode cX3_passHour 85 = .ok (.iload_n 1, 1) := by decide +kernel
theorem dX3_passHour_86 : decode cX3_passHour 86 = .ok (.invokevirtual 156, 3) := by decide +kernel
theorem dX3_passHour_89 : decode cX3_passHour 89 = .ok (.iinc 2 1, 3) := by decide +kernel
theorem dX3_passHour_92 : decode cX3_passHour 92 = .ok (.goto (-36), 3) := by decide +kernel
theorem dX3_passHour_95 : decode cX3_passHour 95 = .ok (.aload_n 0, 1) := by decide +kernel
theorem dX3_passHour_96 : decode cX3_passHour 96 = .ok (.invokevirtual 160, 3) := by decide +kernel
theorem dX3_passHour_99 : decode cX3_passHour 99 = .ok (.aload_n 0, 1) := by decide +kernel
theorem dX3_passHour_100 : decode cX3_passHour 100 = .ok (.iconst (-1), 1) := by decide +kernel
theorem dX3_passHour_101 : decode cX3_passHour 101 = .ok (.aload_n 0, 1) := by decide +kernel
theorem dX3_passHour_102 : decode cX3_passHour 102 = .ok (.getfield 32, 3) := by decide +kernel
theorem dX3_passHour_105 : decode cX3_passHour 105 = .ok (.getfield 163, 3) := by decide +kernel
theorem dX3_passHour_108 : decode cX3_passHour 108 = .ok (.bipush 7, 2) := by decide +kernel
theorem dX3_passHour_110 : decode cX3_passHour 110 = .ok (.invokevirtual 166, 3) := by decide +kernel
theorem dX3_passHour_113 : decode cX3_passHour 113 = .ok (.istore_n 2, 1) := by decide +kernel
theorem dX3_passHour_114 : decode cX3_passHour 114 = .ok (.aload_n 0, 1) := by decide +kernel
theorem dX3_passHour_115 : decode cX3_passHour 115 = .ok (.getfield 39, 3) := by decide +kernel
theorem dX3_passHour_118 : decode cX3_passHour 118 = .ok (.iload_n 1, 1) := by decide +kernel
theorem dX3_passHour_119 : decode cX3_passHour 119 = .ok (.aload_n 0, 1) := by decide +kernel
theorem dX3_passHour_120 : decode cX3_passHour 120 = .ok (.getfield 56, 3) := by decide +kernel
theorem dX3_passHour_123 : decode cX3_passHour 123 = .ok (.imul, 1) := by decide +kernel
theorem dX3_passHour_124 : decode cX3_passHour 124 = .ok (.iload_n 2, 1) := by decide +kernel
theorem dX3_passHour_125 : decode cX3_passHour 125 = .ok (.aload_n 0, 1) := by decide +kernel
theorem dX3_passHour_126 : decode cX3_passHour 126 = .ok (.getfield 32, 3) := by decide +kernel
theorem dX3_passHour_129 : decode cX3_passHour 129 = .ok (.getfield 170, 3) := by decide +kernel
theorem dX3_passHour_132 : decode cX3_passHour 132 = .ok (.invokevirtual 173, 3) := by decide +kernel
theorem dX3_passHour_135 : decode cX3_passHour 135 = .ok (.iconst 0, 1) := by decide +kernel
theorem dX3_passHour_136 : decode cX3_passHour 136 = .ok (.istore_n 3, 1) := by decide +kernel
theorem dX3_passHour_137 : decode cX3_passHour 137 = .ok (.iload_n 3, 1) := by decide +kernel
theorem dX3_passHour_138 : decode cX3_passHour 138 = .ok (.aload_n 0, 1) := by decide +kernel
theorem dX3_passHour_139 : decode cX3_passHour 139 = .ok (.getfield 56, 3) := by decide +kernel
theorem dX3_passHour_142 : decode cX3_passHour 142 = .ok (.if_icmp .ge 18, 3) := by decide +kernel
theorem dX3_passHour_145 : decode cX3_passHour 145 = .ok (.aload_n 0, 1) := by decide +kernel
theorem dX3_passHour_146 : decode cX3_passHour 146 = .ok (.getfield 11, 3) := by decide +kernel
theorem dX3_passHour_149 : decode cX3_passHour 149 = .ok (.iload_n 3, 1) := by decide +kernel
theorem dX3_passHour_150 : decode cX3_passHour 150 = .ok (.aaload, 1) := by decide +kernel
theorem dX3_passHour_151 : decode cX3_passHour 151 = .ok (.invokevirtual 177, 3) := by decide +kernel
theorem dX3_passHour_154 : decode cX3_passHour 154 = .ok (.iinc 3 1, 3) := by decide +kernel
theorem dX3_passHour_157 : decode cX3_passHour 157 = .ok (.goto (-20), 3) := by decide +kernel
theorem dX3_passHour_160 : decode cX3_passHour 160 = .ok (.iconst 0, 1) := by decide +kernel
theorem dX3_passHour_161 : decode cX3_passHour 161 = .ok (.istore_n 3, 1) := by decide +kernel
theorem dX3_passHour_162 : decode cX3_passHour 162 = .ok (.iload_n 3, 1) := by decide +kernel
theorem dX3_passHour_163 : decode cX3_passHour 163 = .ok (.aload_n 0, 1) := by decide +kernel
theorem dX3_passHour_164 : decode cX3_passHour 164 = .ok (.getfield 68, 3) := by decide +kernel
theorem dX3_passHour_167 : decode cX3_passHour 167 = .ok (.if_icmp .ge 19, 3) := by decide +kernel
theorem dX3_passHour_170 : decode cX3_passHour 170 = .ok (.aload_n 0, 1) := by decide +kernel
theorem dX3_passHour_171 : decode cX3_passHour 171 = .ok (.aload_n 0, 1) := by decide +kernel
theorem dX3_passHour_172 : decode cX3_passHour 172 = .ok (.getfield 25, 3) := by decide +kernel
theorem dX3_passHour_175 : decode cX3_passHour 175 = .ok (.iload_n 3, 1) := by decide +kernel
theorem dX3_passHour_176 : decode cX3_passHour 176 = .ok (.aaload, 1) := by decide +kernel
theorem dX3_passHour_177 : decode cX3_passHour 177 = .ok (.invokevirtual 180, 3) := by decide +kernel
theorem dX3_passHour_180 : decode cX3_passHour 180 = .ok (.iinc 3 1, 3) := by decide +kernel
theorem dX3_passHour_183 : decode cX3_passHour 183 = .ok (.goto (-21), 3) := by decide +kernel
theorem dX3_passHour_186 : decode cX3_passHour 186 = .ok (.iload_n 2, 1) := by decide +kernel
theorem dX3_passHour_187 : decode cX3_passHour 187 = .ok (.ireturn, 1) := by decide +kernel
theorem wfRX3_74 : zFl RX3 74 3 8 := ⟨_, rfl, by decide, zm_f 298 (by decide +kernel) rfl⟩
theorem wpRX3_74 : zFw RX3 74 3 8 .int := ⟨_, rfl, by decide, zm_f 298 (by decide +kernel) rfl, rfl, by decide +kernel⟩
theorem wfRX3_43 : zFl RX3 43 3 9 := ⟨_, rfl, by decide, zm_f 299 (by decide +kernel) rfl⟩
theorem wcRX3_139 : Cond.methodLink RX3 139 yX5_settle ∈ zTg ∧ Cond.instanceMethod yX5_settle ∈ zTg ∧ Cond.selects RX5 yX5_settle yX5_settle ∈ zTg ∧ Cond.initialized RX5 ∈ zTg ∧ Cond.code yX5_settle cX5_settle 5 none ∈ zTg := ⟨zm_f 605 (by decide +kernel) rfl, zm_f 606 (by decide +kernel) rfl, zm_f 607 (by decide +kernel) rfl, zm_f 41 (by decide +kernel) rfl, zm_f 608 (by decide +kernel) rfl⟩
theorem wy_yX5_settle : yX5_settle.cls = RX5 ∧ yX5_settle.cls ≠ "java/lang/invoke/MethodHandle" ∧ yX5_settle.cls ≠ "java/lang/invoke/VarHandle" ∧ (parseMethodDescriptor yX5_settle.desc).map (fun d => d.parameters.length) = some 2 := by decide +kernel
theorem wfRX3_143 : zFl RX3 143 7 1 := ⟨_, rfl, by decide, zm_f 87 (by decide +kernel) rfl⟩
theorem wcRX3_146 : Cond.methodLink RX3 146 yX7_power ∈ zTg ∧ Cond.static yX7_power ∈ zTg ∧ Cond.initialized yX7_power.cls ∈ zTg ∧ Cond.code yX7_power cX7_power 1 (some .int) ∈ zTg := ⟨zm_f 631 (by decide +kernel) rfl, zm_f 396 (by decide +kernel) rfl, zm_f 55 (by decide +kernel) rfl, zm_f 397 (by decide +kernel) rfl⟩
theorem wcRX3_150 : Cond.methodLink RX3 150 yX3_deficitOf ∈ zTg ∧ Cond.instanceMethod yX3_deficitOf ∈ zTg ∧ Cond.selects RX3 yX3_deficitOf yX3_deficitOf ∈ zTg ∧ Cond.initialized RX3 ∈ zTg ∧ Cond.code yX3_deficitOf cX3_deficitOf 6 (some .int) ∈ zTg := ⟨zm_f 632 (by decide +kernel) rfl, zm_f 521 (by decide +kernel) rfl, zm_f 522 (by decide +kernel) rfl, zm_f 38 (by decide +kernel) rfl, zm_f 523 (by decide +kernel) rfl⟩
theorem wy_yX3_deficitOf : yX3_deficitOf.cls = RX3 ∧ yX3_deficitOf.cls ≠ "java/lang/invoke/MethodHandle" ∧ yX3_deficitOf.cls ≠ "java/lang/invoke/VarHandle" ∧ (parseMethodDescriptor yX3_deficitOf.desc).map (fun d => d.parameters.length) = some 1 := by decide +kernel
theorem wcRX3_153 : Cond.methodLink RX3 153 yX7_wind ∈ zTg ∧ Cond.static yX7_wind ∈ zTg ∧ Cond.initialized yX7_wind.cls ∈ zTg ∧ Cond.code yX7_wind cX7_wind 2 (some .int) ∈ zTg := ⟨zm_f 633 (by decide +kernel) rfl, zm_f 393 (by decide +kernel) rfl, zm_f 55 (by decide +kernel) rfl, zm_f 394 (by decide +kernel) rfl⟩
theorem wy_yX7_wind : yX7_wind.cls ≠ "java/lang/invoke/MethodHandle" ∧ yX7_wind.cls ≠ "java/lang/invoke/VarHandle" ∧ (parseMethodDescriptor yX7_wind.desc).map (fun d => d.parameters.length) = some 2 := by decide +kernel
theorem wcRX3_156 : Cond.methodLink RX3 156 yX5_take ∈ zTg ∧ Cond.instanceMethod yX5_take ∈ zTg ∧ Cond.selects RX5 yX5_take yX5_take ∈ zTg ∧ Cond.initialized RX5 ∈ zTg ∧ Cond.code yX5_take cX5_take 3 none ∈ zTg := ⟨zm_f 634 (by decide +kernel) rfl, zm_f 635 (by decide +kernel) rfl, zm_f 636 (by decide +kernel) rfl, zm_f 41 (by decide +kernel) rfl, zm_f 637 (by decide +kernel) rfl⟩
theorem wy_yX5_take : yX5_take.cls = RX5 ∧ yX5_take.cls ≠ "java/lang/invoke/MethodHandle" ∧ yX5_take.cls ≠ "java/lang/invoke/VarHandle" ∧ (parseMethodDescriptor yX5_take.desc).map (fun d => d.parameters.length) = some 2 := by decide +kernel
theorem wcRX3_160 : Cond.methodLink RX3 160 yX3_loadStrings ∈ zTg ∧ Cond.instanceMethod yX3_loadStrings ∈ zTg ∧ Cond.selects RX3 yX3_loadStrings yX3_loadStrings ∈ zTg ∧ Cond.initialized RX3 ∈ zTg ∧ Cond.code yX3_loadStrings cX3_loadStrings 2 none ∈ zTg := ⟨zm_f 648 (by decide +kernel) rfl, zm_f 650 (by decide +kernel) rfl, zm_f 8 (by decide +kernel) rfl, zm_f 38 (by decide +kernel) rfl, zm_f 651 (by decide +kernel) rfl⟩
theorem wy_yX3_loadStrings : yX3_loadStrings.cls = RX3 ∧ yX3_loadStrings.cls ≠ "java/lang/invoke/MethodHandle" ∧ yX3_loadStrings.cls ≠ "java/lang/invoke/VarHandle" ∧ (parseMethodDescriptor yX3_loadStrings.desc).map (fun d => d.parameters.length) = some 0 := by decide +kernel
theorem wfRX3_163 : zFl RX3 163 7 4 := ⟨_, rfl, by decide, zm_f 95 (by decide +kernel) rfl⟩
theorem wfRX3_39 : zFl RX3 39 3 4 := ⟨_, rfl, by decide, zm_f 288 (by decide +kernel) rfl⟩
theorem wfRX3_170 : zFl RX3 170 7 3 := ⟨_, rfl, by decide, zm_f 93 (by decide +kernel) rfl⟩
theorem wcRX3_173 : Cond.methodLink RX3 173 yX2_book ∈ zTg ∧ Cond.instanceMethod yX2_book ∈ zTg ∧ Cond.selects RX2 yX2_book yX2_book ∈ zTg ∧ Cond.initialized RX2 ∈ zTg ∧ Cond.code yX2_book cX2_book 5 none ∈ zTg := ⟨zm_f 669 (by decide +kernel) rfl, zm_f 670 (by decide +kernel) rfl, zm_f 671 (by decide +kernel) rfl, zm_f 40 (by decide +kernel) rfl, zm_f 672 (by decide +kernel) rfl⟩
theorem wy_yX2_book : yX2_book.cls = RX2 ∧ yX2_book.cls ≠ "java/lang/invoke/MethodHandle" ∧ yX2_book.cls ≠ "java/lang/invoke/VarHandle" ∧ (parseMethodDescriptor yX2_book.desc).map (fun d => d.parameters.length) = some 3 := by decide +kernel
theorem wcRX3_177 : Cond.methodLink RX3 177 yX5_wearOut ∈ zTg ∧ Cond.instanceMethod yX5_wearOut ∈ zTg ∧ Cond.selects RX5 yX5_wearOut yX5_wearOut ∈ zTg ∧ Cond.initialized RX5 ∈ zTg ∧ Cond.code yX5_wearOut cX5_wearOut 1 none ∈ zTg := ⟨zm_f 680 (by decide +kernel) rfl, zm_f 681 (by decide +kernel) rfl, zm_f 682 (by decide +kernel) rfl, zm_f 41 (by decide +kernel) rfl, zm_f 683 (by decide +kernel) rfl⟩
theorem wy_yX5_wearOut : yX5_wearOut.cls = RX5 ∧ yX5_wearOut.cls ≠ "java/lang/invoke/MethodHandle" ∧ yX5_wearOut.cls ≠ "java/lang/invoke/VarHandle" ∧ (parseMethodDescriptor yX5_wearOut.desc).map (fun d => d.parameters.length) = some 0 := by decide +kernel
theorem wcRX3_180 : Cond.methodLink RX3 180 yX3_work ∈ zTg ∧ Cond.instanceMethod yX3_work ∈ zTg ∧ Cond.selects RX3 yX3_work yX3_work ∈ zTg ∧ Cond.initialized RX3 ∈ zTg ∧ Cond.code yX3_work cX3_work 3 none ∈ zTg := ⟨zm_f 707 (by decide +kernel) rfl, zm_f 709 (by decide +kernel) rfl, zm_f 16 (by decide +kernel) rfl, zm_f 38 (by decide +kernel) rfl, zm_f 710 (by decide +kernel) rfl⟩
theorem wy_yX3_work : yX3_work.cls = RX3 ∧ yX3_work.cls ≠ "java/lang/invoke/MethodHandle" ∧ yX3_work.cls ≠ "java/lang/invoke/VarHandle" ∧ (parseMethodDescriptor yX3_work.desc).map (fun d => d.parameters.length) = some 1 := by decide +kernel
def fSe_passHour_l12  (q2 : Int32 × zM) : Option ((Int32 × zM) ⊕ ((zM))) :=
  if (q2.2 0 0 5) ≤ q2.1 then
  some (.inr q2.2)
else
  zix q2.1 8 fun j4 =>
    Option.bind (fTu_settle j4 (q2.2 0 0 9) q2.2) fun q5 =>
    zlet (q2.1 + 1) fun v6 =>
    some (.inl (v6, q5))
def fSe_passHour_l56 (q7 : (Int32)) (q8 : Int32 × zM) : Option ((Int32 × zM) ⊕ ((zM))) :=
  if (q8.2 0 0 5) ≤ q8.1 then
  some (.inr q8.2)
else
  zix q8.1 8 fun j10 =>
    Option.bind (fSe_deficitOf q8.1 q8.2) fun q11 =>
    Option.bind (fWa_wind (q8.2 4 0 1) q11) fun q12 =>
    Option.bind (fTu_take j10 q12 q7 q8.2) fun q13 =>
    zlet (q8.1 + 1) fun v14 =>
    some (.inl (v14, q13))
def fSe_passHour_l137  (q18 : Int32 × zM) : Option ((Int32 × zM) ⊕ ((zM))) :=
  if (q18.2 0 0 5) ≤ q18.1 then
  some (.inr q18.2)
else
  zix q18.1 8 fun j20 =>
    Option.bind (fTu_wearOut j20 q18.2) fun q21 =>
    zlet (q18.1 + 1) fun v22 =>
    some (.inl (v22, q21))
def fSe_passHour_l162  (q23 : Int32 × zM) : Option ((Int32 × zM) ⊕ ((zM))) :=
  if (q23.2 0 0 7) ≤ q23.1 then
  some (.inr q23.2)
else
  zix q23.1 3 fun j25 =>
    Option.bind (fSe_work j25 q23.2) fun q26 =>
    zlet (q23.1 + 1) fun v27 =>
    some (.inl (v27, q26))
def fSe_passHour  (s0 : zM) : Option (Int32 × zM) :=
  zlet (zu s0 0 0 8 ((s0 0 0 8) + (1 : Int32))) fun s0_1 =>
  Option.bind (ziter (fSe_passHour_l12 ) 1000 ((0 : Int32), s0_1)) fun q3 =>
  Option.bind (fWa_power (q3 4 0 1)) fun q7 =>
  Option.bind (ziter (fSe_passHour_l56 q7) 1000 ((0 : Int32), q3)) fun q9 =>
  Option.bind (fSe_loadStrings q9) fun q15 =>
  Option.bind (fSe_giveUp (-1 : Int32) (q15 4 0 4) (7 : Int32) q15) fun q16 =>
  Option.bind (fLe_book (q7 * (q16.2 0 0 5)) q16.1 (q16.2 4 0 3) q16.2) fun q17 =>
  Option.bind (ziter (fSe_passHour_l137 ) 1000 ((0 : Int32), q17)) fun q19 =>
  Option.bind (ziter (fSe_passHour_l162 ) 1000 ((0 : Int32), q19)) fun q24 =>
  some (q16.1, q24)
set_option maxHeartbeats 4000000 in
set_option maxRecDepth 20000 in
theorem bfSe_passHour_l12 {X : zX} (F : zFr X cX3_passHour 4 RX3 (some .int))   {ψ : (Int32 × zM) ⊕ ((zM)) → Option zO} (h1 : ∀ q2 : Int32 × zM, zZ X [(0, [])] 4 87 4 12 [some (zr 0 0 0), some (zi q2.1), none, none] [] [q2.2] (ψ (.inl q2))) (h2 : ∀ q3 : zM, zZ X [(0, [])] 4 87 4 43 [some (zr 0 0 0), none, none, none] [] [q3] (ψ (.inr q3))) (q2 : Int32 × zM) : zZ X [(0, [])] 4 87 4 12 [some (zr 0 0 0), some (zi q2.1), none, none] [] [q2.2] (Option.bind (fSe_passHour_l12  q2) ψ) := by
  unfold fSe_passHour_l12
  refine zz_iload_n F (i := 1) dX3_passHour_12 rfl rfl ?_
  refine zz_aload_n F (i := 0) dX3_passHour_13 rfl rfl ?_
  refine zz_getf F dX3_passHour_14 wfRX3_56 zCl_3 rfl (⟨zlb rfl, zlb rfl, zlb rfl⟩) rfl (by decide) rfl rfl ?_
  refine zz_icmp_ge F (tgt := 43) dX3_passHour_17 (by decide) (fun h => zz_t h ?_) (fun h => zz_f h ?_)
  · exact zz_sub (zs_k (zs_n (zs_k (zs_k zs_z)))) (h2 q2.2)
  · refine zz_aload_n F (i := 0) dX3_passHour_20 rfl rfl ?_
    refine zz_getr F dX3_passHour_21 wfRX3_11 zCl_3 rfl (⟨zlb rfl, zlb rfl, zlb rfl⟩) rfl (by decide) rfl (r' := 0) (by decide) ?_
    refine zz_iload_n F (i := 1) dX3_passHour_24 rfl rfl ?_
    refine zz_ix fun j4 hj4 hinj4 hej4 => zz_aal F dX3_passHour_25 rfl (⟨zlb rfl, zlb rfl, zlb rfl⟩) rfl (by decide) rfl hinj4 hej4 rfl ?_
    refine zz_aload_n F (i := 0) dX3_passHour_26 rfl rfl ?_
    refine zz_getr F dX3_passHour_27 wfRX3_32 zCl_3 rfl (⟨zlb rfl, zlb rfl, zlb rfl⟩) rfl (by decide) rfl (r' := 0) (by decide) ?_
    refine zz_aload_n F (i := 0) dX3_passHour_30 rfl rfl ?_
    refine zz_getf F dX3_passHour_31 wfRX3_43 zCl_3 rfl (⟨zlb rfl, zlb rfl, zlb rfl⟩) rfl (by decide) rfl rfl ?_
    refine zz_bind ?_
    refine zz_callVr F (ρ := [0]) (so := fun q5 => []) (Mo := fun q5 => [q5]) (zfTu_settle j4 (q2.2 0 0 9) hj4 q2.2) dX3_passHour_34 wcRX3_139 wy_yX5_settle rfl ⟨rel3, rfl, rfl, Nat.le_of_ble_eq_true rfl, Nat.le_of_ble_eq_true rfl, Nat.le_of_ble_eq_true rfl⟩ (⟨zlb rfl, zlb rfl, hj4⟩) rfl rfl rfl (fun _ => rfl) (fun _ => rfl) fun q5 => ?_
    refine zz_iinc F (i := 1) (v := q2.1 + 1) (L' := [some (zr 0 0 0), some (zi (q2.1 + 1)), none, none]) dX3_passHour_37 rfl (by first | rfl | decide) (by decide) rfl rfl ?_
    refine zz_letl (Lf := fun v6 => [some (zr 0 0 0), some (zi v6), none, none]) fun v6 => ?_
    refine zz_goto F (tgt := 12) dX3_passHour_40 (by decide) ?_
    exact zz_sub (zs_k (zs_k (zs_k (zs_k zs_z)))) (h1 (v6, q5))
set_option maxHeartbeats 4000000 in
set_option maxRecDepth 20000 in
theorem bfSe_passHour_l56 {X : zX} (F : zFr X cX3_passHour 4 RX3 (some .int)) (q7 : (Int32))  {ψ : (Int32 × zM) ⊕ ((zM)) → Option zO} (h1 : ∀ q8 : Int32 × zM, zZ X [(0, [])] 4 87 4 56 [some (zr 0 0 0), some (zi q7), some (zi q8.1), none] [] [q8.2] (ψ (.inl q8))) (h2 : ∀ q9 : zM, zZ X [(0, [])] 4 87 4 95 [some (zr 0 0 0), some (zi q7), none, none] [] [q9] (ψ (.inr q9))) (q8 : Int32 × zM) : zZ X [(0, [])] 4 87 4 56 [some (zr 0 0 0), some (zi q7), some (zi q8.1), none] [] [q8.2] (Option.bind (fSe_passHour_l56 q7 q8) ψ) := by
  unfold fSe_passHour_l56
  refine zz_iload_n F (i := 2) dX3_passHour_56 rfl rfl ?_
  refine zz_aload_n F (i := 0) dX3_passHour_57 rfl rfl ?_
  refine zz_getf F dX3_passHour_58 wfRX3_56 zCl_3 rfl (⟨zlb rfl, zlb rfl, zlb rfl⟩) rfl (by decide) rfl rfl ?_
  refine zz_icmp_ge F (tgt := 95) dX3_passHour_61 (by decide) (fun h => zz_t h ?_) (fun h => zz_f h ?_)
  · exact zz_sub (zs_k (zs_k (zs_n (zs_k zs_z)))) (h2 q8.2)
  · refine zz_aload_n F (i := 0) dX3_passHour_64 rfl rfl ?_
    refine zz_getr F dX3_passHour_65 wfRX3_11 zCl_3 rfl (⟨zlb rfl, zlb rfl, zlb rfl⟩) rfl (by decide) rfl (r' := 0) (by decide) ?_
    refine zz_iload_n F (i := 2) dX3_passHour_68 rfl rfl ?_
    refine zz_ix fun j10 hj10 hinj10 hej10 => zz_aal F dX3_passHour_69 rfl (⟨zlb rfl, zlb rfl, zlb rfl⟩) rfl (by decide) rfl hinj10 hej10 rfl ?_
    refine zz_aload_n F (i := 0) dX3_passHour_70 rfl rfl ?_
    refine zz_getr F dX3_passHour_71 wfRX3_32 zCl_3 rfl (⟨zlb rfl, zlb rfl, zlb rfl⟩) rfl (by decide) rfl (r' := 0) (by decide) ?_
    refine zz_getf F dX3_passHour_74 wfRX3_143 zCl_7 rfl (⟨zlb rfl, zlb rfl, zlb rfl⟩) rfl (by decide) rfl rfl ?_
    refine zz_aload_n F (i := 0) dX3_passHour_77 rfl rfl ?_
    refine zz_iload_n F (i := 2) dX3_passHour_78 rfl rfl ?_
    refine zz_bind ?_
    refine zz_callVr F (ρ := [0]) (so := fun q11 => [zi q11, zi (q8.2 4 0 1), zr 0 7 j10]) (Mo := fun q11 => [q8.2]) (zfSe_deficitOf q8.1 q8.2) dX3_passHour_79 wcRX3_150 wy_yX3_deficitOf rfl ⟨rel3, rfl, rfl, Nat.le_of_ble_eq_true rfl, Nat.le_of_ble_eq_true rfl, Nat.le_of_ble_eq_true rfl⟩ (⟨zlb rfl, zlb rfl, zlb rfl⟩) rfl rfl rfl (fun _ => rfl) (fun _ => rfl) fun q11 => ?_
    refine zz_bind ?_
    refine zz_callSr F (ρ := []) (so := fun q12 => [zi q12, zr 0 7 j10]) (Mo := fun q12 => [q8.2]) (zfWa_wind (q8.2 4 0 1) q11) dX3_passHour_82 wcRX3_153 wy_yX7_wind rfl ⟨rel4, rfl, rfl, Nat.le_of_ble_eq_true rfl, Nat.le_of_ble_eq_true rfl, Nat.le_of_ble_eq_true rfl⟩ rfl (fun _ => rfl) (fun _ => rfl) fun q12 => ?_
    refine zz_iload_n F (i := 1) dX3_passHour_85 rfl rfl ?_
    refine zz_bind ?_
    refine zz_callVr F (ρ := [0]) (so := fun q13 => []) (Mo := fun q13 => [q13]) (zfTu_take j10 q12 q7 hj10 q8.2) dX3_passHour_86 wcRX3_156 wy_yX5_take rfl ⟨rel3, rfl, rfl, Nat.le_of_ble_eq_true rfl, Nat.le_of_ble_eq_true rfl, Nat.le_of_ble_eq_true rfl⟩ (⟨zlb rfl, zlb rfl, hj10⟩) rfl rfl rfl (fun _ => rfl) (fun _ => rfl) fun q13 => ?_
    refine zz_iinc F (i := 2) (v := q8.1 + 1) (L' := [some (zr 0 0 0), some (zi q7), some (zi (q8.1 + 1)), none]) dX3_passHour_89 rfl (by first | rfl | decide) (by decide) rfl rfl ?_
    refine zz_letl (Lf := fun v14 => [some (zr 0 0 0), some (zi q7), some (zi v14), none]) fun v14 => ?_
    refine zz_goto F (tgt := 56) dX3_passHour_92 (by decide) ?_
    exact zz_sub (zs_k (zs_k (zs_k (zs_k zs_z)))) (h1 (v14, q13))
set_option maxHeartbeats 4000000 in
set_option maxRecDepth 20000 in
theorem bfSe_passHour_l137 {X : zX} (F : zFr X cX3_passHour 4 RX3 (some .int)) (q16 : (Int32 × zM))  {ψ : (Int32 × zM) ⊕ ((zM)) → Option zO} (h1 : ∀ q18 : Int32 × zM, zZ X [(0, [])] 4 87 4 137 [some (zr 0 0 0), none, some (zi q16.1), some (zi q18.1)] [] [q18.2] (ψ (.inl q18))) (h2 : ∀ q19 : zM, zZ X [(0, [])] 4 87 4 160 [some (zr 0 0 0), none, some (zi q16.1), none] [] [q19] (ψ (.inr q19))) (q18 : Int32 × zM) : zZ X [(0, [])] 4 87 4 137 [some (zr 0 0 0), none, some (zi q16.1), some (zi q18.1)] [] [q18.2] (Option.bind (fSe_passHour_l137  q18) ψ) := by
  unfold fSe_passHour_l137
  refine zz_iload_n F (i := 3) dX3_passHour_137 rfl rfl ?_
  refine zz_aload_n F (i := 0) dX3_passHour_138 rfl rfl ?_
  refine zz_getf F dX3_passHour_139 wfRX3_56 zCl_3 rfl (⟨zlb rfl, zlb rfl, zlb rfl⟩) rfl (by decide) rfl rfl ?_
  refine zz_icmp_ge F (tgt := 160) dX3_passHour_142 (by decide) (fun h => zz_t h ?_) (fun h => zz_f h ?_)
  · exact zz_sub (zs_k (zs_k (zs_k (zs_n zs_z)))) (h2 q18.2)
  · refine zz_aload_n F (i := 0) dX3_passHour_145 rfl rfl ?_
    refine zz_getr F dX3_passHour_146 wfRX3_11 zCl_3 rfl (⟨zlb rfl, zlb rfl, zlb rfl⟩) rfl (by decide) rfl (r' := 0) (by decide) ?_
    refine zz_iload_n F (i := 3) dX3_passHour_149 rfl rfl ?_
    refine zz_ix fun j20 hj20 hinj20 hej20 => zz_aal F dX3_passHour_150 rfl (⟨zlb rfl, zlb rfl, zlb rfl⟩) rfl (by decide) rfl hinj20 hej20 rfl ?_
    refine zz_bind ?_
    refine zz_callVr F (ρ := [0]) (so := fun q21 => []) (Mo := fun q21 => [q21]) (zfTu_wearOut j20 hj20 q18.2) dX3_passHour_151 wcRX3_177 wy_yX5_wearOut rfl ⟨rel3, rfl, rfl, Nat.le_of_ble_eq_true rfl, Nat.le_of_ble_eq_true rfl, Nat.le_of_ble_eq_true rfl⟩ (⟨zlb rfl, zlb rfl, hj20⟩) rfl rfl rfl (fun _ => rfl) (fun _ => rfl) fun q21 => ?_
    refine zz_iinc F (i := 3) (v := q18.1 + 1) (L' := [some (zr 0 0 0), none, some (zi q16.1), some (zi (q18.1 + 1))]) dX3_passHour_154 rfl (by first | rfl | decide) (by decide) rfl rfl ?_
    refine zz_letl (Lf := fun v22 => [some (zr 0 0 0), none, some (zi q16.1), some (zi v22)]) fun v22 => ?_
    refine zz_goto F (tgt := 137) dX3_passHour_157 (by decide) ?_
    exact zz_sub (zs_k (zs_k (zs_k (zs_k zs_z)))) (h1 (v22, q21))
set_option maxHeartbeats 4000000 in
set_option maxRecDepth 20000 in
theorem bfSe_passHour_l162 {X : zX} (F : zFr X cX3_passHour 4 RX3 (some .int)) (q16 : (Int32 × zM))  {ψ : (Int32 × zM) ⊕ ((zM)) → Option zO} (h1 : ∀ q23 : Int32 × zM, zZ X [(0, [])] 4 87 4 162 [some (zr 0 0 0), none, some (zi q16.1), some (zi q23.1)] [] [q23.2] (ψ (.inl q23))) (h2 : ∀ q24 : zM, zZ X [(0, [])] 4 87 4 186 [none, none, some (zi q16.1), none] [] [q24] (ψ (.inr q24))) (q23 : Int32 × zM) : zZ X [(0, [])] 4 87 4 162 [some (zr 0 0 0), none, some (zi q16.1), some (zi q23.1)] [] [q23.2] (Option.bind (fSe_passHour_l162  q23) ψ) := by
  unfold fSe_passHour_l162
  refine zz_iload_n F (i := 3) dX3_passHour_162 rfl rfl ?_
  refine zz_aload_n F (i := 0) dX3_passHour_163 rfl rfl ?_
  refine zz_getf F dX3_passHour_164 wfRX3_68 zCl_3 rfl (⟨zlb rfl, zlb rfl, zlb rfl⟩) rfl (by decide) rfl rfl ?_
  refine zz_icmp_ge F (tgt := 186) dX3_passHour_167 (by decide) (fun h => zz_t h ?_) (fun h => zz_f h ?_)
  · exact zz_sub (zs_n (zs_k (zs_k (zs_n zs_z)))) (h2 q23.2)
  · refine zz_aload_n F (i := 0) dX3_passHour_170 rfl rfl ?_
    refine zz_aload_n F (i := 0) dX3_passHour_171 rfl rfl ?_
    refine zz_getr F dX3_passHour_172 wfRX3_25 zCl_3 rfl (⟨zlb rfl, zlb rfl, zlb rfl⟩) rfl (by decide) rfl (r' := 0) (by decide) ?_
    refine zz_iload_n F (i := 3) dX3_passHour_175 rfl rfl ?_
    refine zz_ix fun j25 hj25 hinj25 hej25 => zz_aal F dX3_passHour_176 rfl (⟨zlb rfl, zlb rfl, zlb rfl⟩) rfl (by decide) rfl hinj25 hej25 rfl ?_
    refine zz_bind ?_
    refine zz_callVr F (ρ := [0]) (so := fun q26 => []) (Mo := fun q26 => [q26]) (zfSe_work j25 hj25 q23.2) dX3_passHour_177 wcRX3_180 wy_yX3_work rfl ⟨rel3, rfl, rfl, Nat.le_of_ble_eq_true rfl, Nat.le_of_ble_eq_true rfl, Nat.le_of_ble_eq_true rfl⟩ (⟨zlb rfl, zlb rfl, zlb rfl⟩) rfl rfl rfl (fun _ => rfl) (fun _ => rfl) fun q26 => ?_
    refine zz_iinc F (i := 3) (v := q23.1 + 1) (L' := [some (zr 0 0 0), none, some (zi q16.1), some (zi (q23.1 + 1))]) dX3_passHour_180 rfl (by first | rfl | decide) (by decide) rfl rfl ?_
    refine zz_letl (Lf := fun v27 => [some (zr 0 0 0), none, some (zi q16.1), some (zi v27)]) fun v27 => ?_
    refine zz_goto F (tgt := 162) dX3_passHour_183 (by decide) ?_
    exact zz_sub (zs_k (zs_k (zs_k (zs_k zs_z)))) (h1 (v27, q26))
set_option maxHeartbeats 4000000 in
set_option maxRecDepth 20000 in
theorem bfSe_passHour {X : zX} (F : zFr X cX3_passHour 4 RX3 (some .int))   (s0 : zM) {κ : Int32 × zM → Option zO} (hκ : ∀ a, κ a = some ((fun a => ((.inl ((fun q => some (zi q.1)) a), (fun q => [q.2]) a) : zO)) a)) : zZ X [(0, [])] 4 87 4 0 [some (zr 0 0 0), none, none, none] [] [s0] (Option.bind (fSe_passHour s0) κ) := by
  unfold fSe_passHour
  refine zz_aload_n F (i := 0) dX3_passHour_0 rfl rfl ?_
  refine zz_dup F dX3_passHour_1 rfl ?_
  refine zz_getf F dX3_passHour_2 wfRX3_74 zCl_3 rfl (⟨zlb rfl, zlb rfl, zlb rfl⟩) rfl (by decide) rfl rfl ?_
  refine zz_iconst F (v := (1 : Int32)) dX3_passHour_5 (by decide) ?_
  refine zz_iadd F dX3_passHour_6 ?_
  refine zz_put F (Ms' := [(zu s0 0 0 8 ((s0 0 0 8) + (1 : Int32)))]) dX3_passHour_7 wpRX3_74 zCl_3 rfl (⟨zlb rfl, zlb rfl, zlb rfl⟩) rfl (by decide) rfl rfl rfl ?_
  refine zz_letm (Mf := fun s0_1 => [s0_1]) fun s0_1 => ?_
  refine zz_iconst F (v := (0 : Int32)) dX3_passHour_10 (by decide) ?_
  refine zz_istore_n F (i := 1) (L' := [some (zr 0 0 0), some (zi (0 : Int32)), none, none]) dX3_passHour_11 rfl (by decide) rfl rfl ?_
  refine zz_sub (zs_k (zs_k (zs_k (zs_k zs_z)))) ?_
  refine zz_bind ?_
  refine zz_iter (Lf := fun q2 => [some (zr 0 0 0), some (zi q2.1), none, none]) (Mf := fun q2 => [q2.2]) (fun q2 ψ h1 h2 => bfSe_passHour_l12 F   h1 (fun q3 => ?_)  q2) 1000 ((0 : Int32), s0_1)
  rw [h2]
  refine zz_aload_n F (i := 0) dX3_passHour_43 rfl rfl ?_
  refine zz_getr F dX3_passHour_44 wfRX3_32 zCl_3 rfl (⟨zlb rfl, zlb rfl, zlb rfl⟩) rfl (by decide) rfl (r' := 0) (by decide) ?_
  refine zz_getf F dX3_passHour_47 wfRX3_143 zCl_7 rfl (⟨zlb rfl, zlb rfl, zlb rfl⟩) rfl (by decide) rfl rfl ?_
  refine zz_bind ?_
  refine zz_callSr F (ρ := []) (so := fun q7 => [zi q7]) (Mo := fun q7 => [q3]) (zfWa_power (q3 4 0 1)) dX3_passHour_50 wcRX3_146 wy_yX7_power rfl ⟨rel4, rfl, rfl, Nat.le_of_ble_eq_true rfl, Nat.le_of_ble_eq_true rfl, Nat.le_of_ble_eq_true rfl⟩ rfl (fun _ => rfl) (fun _ => rfl) fun q7 => ?_
  refine zz_istore_n F (i := 1) (L' := [some (zr 0 0 0), some (zi q7), none, none]) dX3_passHour_53 rfl (by decide) rfl rfl ?_
  refine zz_iconst F (v := (0 : Int32)) dX3_passHour_54 (by decide) ?_
  refine zz_istore_n F (i := 2) (L' := [some (zr 0 0 0), some (zi q7), some (zi (0 : Int32)), none]) dX3_passHour_55 rfl (by decide) rfl rfl ?_
  refine zz_sub (zs_k (zs_k (zs_k (zs_k zs_z)))) ?_
  refine zz_bind ?_
  refine zz_iter (Lf := fun q8 => [some (zr 0 0 0), some (zi q7), some (zi q8.1), none]) (Mf := fun q8 => [q8.2]) (fun q8 ψ h1 h2 => bfSe_passHour_l56 F q7  h1 (fun q9 => ?_)  q8) 1000 ((0 : Int32), q3)
  rw [h2]
  refine zz_aload_n F (i := 0) dX3_passHour_95 rfl rfl ?_
  refine zz_bind ?_
  refine zz_callVr F (ρ := [0]) (so := fun q15 => []) (Mo := fun q15 => [q15]) (zfSe_loadStrings q9) dX3_passHour_96 wcRX3_160 wy_yX3_loadStrings rfl ⟨rel3, rfl, rfl, Nat.le_of_ble_eq_true rfl, Nat.le_of_ble_eq_true rfl, Nat.le_of_ble_eq_true rfl⟩ (⟨zlb rfl, zlb rfl, zlb rfl⟩) rfl rfl rfl (fun _ => rfl) (fun _ => rfl) fun q15 => ?_
  refine zz_aload_n F (i := 0) dX3_passHour_99 rfl rfl ?_
  refine zz_iconst F (v := (-1 : Int32)) dX3_passHour_100 (by decide) ?_
  refine zz_aload_n F (i := 0) dX3_passHour_101 rfl rfl ?_
  refine zz_getr F dX3_passHour_102 wfRX3_32 zCl_3 rfl (⟨zlb rfl, zlb rfl, zlb rfl⟩) rfl (by decide) rfl (r' := 0) (by decide) ?_
  refine zz_getf F dX3_passHour_105 wfRX3_163 zCl_7 rfl (⟨zlb rfl, zlb rfl, zlb rfl⟩) rfl (by decide) rfl rfl ?_
  refine zz_bipush F (v := (7 : Int32)) dX3_passHour_108 (by decide) ?_
  refine zz_bind ?_
  refine zz_callVr F (ρ := [0]) (so := fun q16 => [zi q16.1]) (Mo := fun q16 => [q16.2]) (zfSe_giveUp (-1 : Int32) (q15 4 0 4) (7 : Int32) q15) dX3_passHour_110 wcRX3_166 wy_yX3_giveUp rfl ⟨rel3, rfl, rfl, Nat.le_of_ble_eq_true rfl, Nat.le_of_ble_eq_true rfl, Nat.le_of_ble_eq_true rfl⟩ (⟨zlb rfl, zlb rfl, zlb rfl⟩) rfl rfl rfl (fun _ => rfl) (fun _ => rfl) fun q16 => ?_
  refine zz_istore_n F (i := 2) (L' := [some (zr 0 0 0), some (zi q7), some (zi q16.1), none]) dX3_passHour_113 rfl (by decide) rfl rfl ?_
  refine zz_aload_n F (i := 0) dX3_passHour_114 rfl rfl ?_
  refine zz_getr F dX3_passHour_115 wfRX3_39 zCl_3 rfl (⟨zlb rfl, zlb rfl, zlb rfl⟩) rfl (by decide) rfl (r' := 0) (by decide) ?_
  refine zz_iload_n F (i := 1) dX3_passHour_118 rfl rfl ?_
  refine zz_aload_n F (i := 0) dX3_passHour_119 rfl rfl ?_
  refine zz_getf F dX3_passHour_120 wfRX3_56 zCl_3 rfl (⟨zlb rfl, zlb rfl, zlb rfl⟩) rfl (by decide) rfl rfl ?_
  refine zz_imul F dX3_passHour_123 ?_
  refine zz_iload_n F (i := 2) dX3_passHour_124 rfl rfl ?_
  refine zz_aload_n F (i := 0) dX3_passHour_125 rfl rfl ?_
  refine zz_getr F dX3_passHour_126 wfRX3_32 zCl_3 rfl (⟨zlb rfl, zlb rfl, zlb rfl⟩) rfl (by decide) rfl (r' := 0) (by decide) ?_
  refine zz_getf F dX3_passHour_129 wfRX3_170 zCl_7 rfl (⟨zlb rfl, zlb rfl, zlb rfl⟩) rfl (by decide) rfl rfl ?_
  refine zz_bind ?_
  refine zz_callVr F (ρ := [0]) (so := fun q17 => []) (Mo := fun q17 => [q17]) (zfLe_book (q7 * (q16.2 0 0 5)) q16.1 (q16.2 4 0 3) q16.2) dX3_passHour_132 wcRX3_173 wy_yX2_book rfl ⟨rel3, rfl, rfl, Nat.le_of_ble_eq_true rfl, Nat.le_of_ble_eq_true rfl, Nat.le_of_ble_eq_true rfl⟩ (⟨zlb rfl, zlb rfl, zlb rfl⟩) rfl rfl rfl (fun _ => rfl) (fun _ => rfl) fun q17 => ?_
  refine zz_iconst F (v := (0 : Int32)) dX3_passHour_135 (by decide) ?_
  refine zz_istore_n F (i := 3) (L' := [some (zr 0 0 0), some (zi q7), some (zi q16.1), some (zi (0 : Int32))]) dX3_passHour_136 rfl (by decide) rfl rfl ?_
  refine zz_sub (zs_k (zs_n (zs_k (zs_k zs_z)))) ?_
  refine zz_bind ?_
  refine zz_iter (Lf := fun q18 => [some (zr 0 0 0), none, some (zi q16.1), some (zi q18.1)]) (Mf := fun q18 => [q18.2]) (fun q18 ψ h1 h2 => bfSe_passHour_l137 F q16  h1 (fun q19 => ?_)  q18) 1000 ((0 : Int32), q17)
  rw [h2]
  refine zz_iconst F (v := (0 : Int32)) dX3_passHour_160 (by decide) ?_
  refine zz_istore_n F (i := 3) (L' := [some (zr 0 0 0), none, some (zi q16.1), some (zi (0 : Int32))]) dX3_passHour_161 rfl (by decide) rfl rfl ?_
  refine zz_sub (zs_k (zs_k (zs_k (zs_k zs_z)))) ?_
  refine zz_bind ?_
  refine zz_iter (Lf := fun q23 => [some (zr 0 0 0), none, some (zi q16.1), some (zi q23.1)]) (Mf := fun q23 => [q23.2]) (fun q23 ψ h1 h2 => bfSe_passHour_l162 F q16  h1 (fun q24 => ?_)  q23) 1000 ((0 : Int32), q19)
  rw [h2]
  refine zz_iload_n F (i := 2) dX3_passHour_186 rfl rfl ?_
  exact zz_ireturn F dX3_passHour_187 rfl (hκ _)
theorem zfSe_passHour   (s0 : zM) : ∀ a, fSe_passHour s0 = some a → zMet yX3_passHour cX3_passHour 4 (some .int) 4 87 [(0, [])] [zr 0 0 0] [s0] ((fun a => ((.inl ((fun q => some (zi q.1)) a), (fun q => [q.2]) a) : zO)) a) := fun a ha => zMet_of (L0 := [some (zr 0 0 0), none, none, none]) (φ := Option.bind (fSe_passHour s0) (fun a => some ((fun a => ((.inl ((fun q => some (zi q.1)) a), (fun q => [q.2]) a) : zO)) a))) (by decide) (fun _ => Nat.le_of_ble_eq_true rfl) (zl0 3 rfl) (fun X F => bfSe_passHour F s0 (fun _ => rfl)) (by rw [ha]; rfl)

theorem dX3_passHours_0 : decode cX3_passHours 0 = .ok (.iconst 0, 1) := by decide +kernel
theorem dX3_passHours_1 : decode cX3_passHours 1 = .ok (.istore_n 2, 1) := by decide +kernel
theorem dX3_passHours_2 : decode cX3_passHours 2 = .ok (.iconst 0, 1) := by decide +kernel
theorem dX3_passHours_3 : decode cX3_passHours 3 = .ok (.istore_n 3, 1) := by decide +kernel
theorem dX3_passHours_4 : decode cX3_passHours 4 = .ok (.iload_n 3, 1) := by decide +kernel
theorem dX3_passHours_5 : decode cX3_passHours 5 = .ok (.iload_n 1, 1) := by decide +kernel
theorem dX3_passHours_6 : decode cX3_passHours 6 = .ok (.if_icmp .ge 16, 3) := by decide +kernel
theorem dX3_passHours_9 : decode cX3_passHours 9 = .ok (.iload_n 2, 1) := by decide +kernel
theorem dX3_passHours_10 : decode cX3_passHours 10 = .ok (.aload_n 0, 1) := by decide +kernel
theorem dX3_passHours_11 : decode cX3_passHours 11 = .ok (.invokevirtual 135, 3) := by decide +kernel
theorem dX3_passHours_14 : decode cX3_passHours 14 = .ok (.iadd, 1) := by decide +kernel
theorem dX3_passHours_15 : decode cX3_passHours 15 = .ok (.istore_n 2, 1) := by decide +kernel
theorem dX3_passHours_16 : decode cX3_passHours 16 = .ok (.iinc 3 1, 3) := by decide +kernel
theorem dX3_passHours_19 : decode cX3_passHours 19 = .ok (.goto (-15), 3) := by decide +kernel
theorem dX3_passHours_22 : decode cX3_passHours 22 = .ok (.iload_n 2, 1) := by decide +kernel
theorem dX3_passHours_23 : decode cX3_passHours 23 = .ok (.ireturn, 1) := by decide +kernel
theorem wcRX3_135 : Cond.methodLink RX3 135 yX3_passHour ∈ zTg ∧ Cond.instanceMethod yX3_passHour ∈ zTg ∧ Cond.selects RX3 yX3_passHour yX3_passHour ∈ zTg ∧ Cond.initialized RX3 ∈ zTg ∧ Cond.code yX3_passHour cX3_passHour 4 (some .int) ∈ zTg := ⟨zm_f 746 (by decide +kernel) rfl, zm_f 602 (by decide +kernel) rfl, zm_f 603 (by decide +kernel) rfl, zm_f 38 (by decide +kernel) rfl, zm_f 604 (by decide +kernel) rfl⟩
theorem wy_yX3_passHour : yX3_passHour.cls = RX3 ∧ yX3_passHour.cls ≠ "java/lang/invoke/MethodHandle" ∧ yX3_passHour.cls ≠ "java/lang/invoke/VarHandle" ∧ (parseMethodDescriptor yX3_passHour.desc).map (fun d => d.parameters.length) = some 0 := by decide +kernel
def fSe_passHours_l4 (a1 : Int32) (q1 : Int32 × Int32 × zM) : Option ((Int32 × Int32 × zM) ⊕ ((Int32 × zM))) :=
  if a1 ≤ q1.2.1 then
  some (.inr (q1.1, q1.2.2))
else
  Option.bind (fSe_passHour q1.2.2) fun q3 =>
    zlet ((q1.1 + q3.1)) fun v4 =>
    zlet (q1.2.1 + 1) fun v5 =>
    some (.inl (v4, v5, q3.2))
def fSe_passHours (a1 : Int32) (s0 : zM) : Option (Int32 × zM) :=
  Option.bind (ziter (fSe_passHours_l4 a1) 1000 ((0 : Int32), (0 : Int32), s0)) fun q2 =>
  some (q2.1, q2.2)
set_option maxHeartbeats 4000000 in
set_option maxRecDepth 20000 in
theorem bfSe_passHours_l4 {X : zX} (F : zFr X cX3_passHours 4 RX3 (some .int)) (a1 : Int32)  {ψ : (Int32 × Int32 × zM) ⊕ ((Int32 × zM)) → Option zO} (h1 : ∀ q1 : Int32 × Int32 × zM, zZ X [(0, [])] 5 110 4 4 [some (zr 0 0 0), some (zi a1), some (zi q1.1), some (zi q1.2.1)] [] [q1.2.2] (ψ (.inl q1))) (h2 : ∀ q2 : Int32 × zM, zZ X [(0, [])] 5 110 4 22 [none, none, some (zi q2.1), none] [] [q2.2] (ψ (.inr q2))) (q1 : Int32 × Int32 × zM) : zZ X [(0, [])] 5 110 4 4 [some (zr 0 0 0), some (zi a1), some (zi q1.1), some (zi q1.2.1)] [] [q1.2.2] (Option.bind (fSe_passHours_l4 a1 q1) ψ) := by
  unfold fSe_passHours_l4
  refine zz_iload_n F (i := 3) dX3_passHours_4 rfl rfl ?_
  refine zz_iload_n F (i := 1) dX3_passHours_5 rfl rfl ?_
  refine zz_icmp_ge F (tgt := 22) dX3_passHours_6 (by decide) (fun h => zz_t h ?_) (fun h => zz_f h ?_)
  · exact zz_sub (zs_n (zs_n (zs_k (zs_n zs_z)))) (h2 (q1.1, q1.2.2))
  · refine zz_iload_n F (i := 2) dX3_passHours_9 rfl rfl ?_
    refine zz_aload_n F (i := 0) dX3_passHours_10 rfl rfl ?_
    refine zz_bind ?_
    refine zz_callVr F (ρ := [0]) (so := fun q3 => [zi q3.1, zi q1.1]) (Mo := fun q3 => [q3.2]) (zfSe_passHour q1.2.2) dX3_passHours_11 wcRX3_135 wy_yX3_passHour rfl ⟨rel3, rfl, rfl, Nat.le_of_ble_eq_true rfl, Nat.le_of_ble_eq_true rfl, Nat.le_of_ble_eq_true rfl⟩ (⟨zlb rfl, zlb rfl, zlb rfl⟩) rfl rfl rfl (fun _ => rfl) (fun _ => rfl) fun q3 => ?_
    refine zz_iadd F dX3_passHours_14 ?_
    refine zz_istore_n F (i := 2) (L' := [some (zr 0 0 0), some (zi a1), some (zi (q1.1 + q3.1)), some (zi q1.2.1)]) dX3_passHours_15 rfl (by decide) rfl rfl ?_
    refine zz_letl (Lf := fun v4 => [some (zr 0 0 0), some (zi a1), some (zi v4), some (zi q1.2.1)]) fun v4 => ?_
    refine zz_iinc F (i := 3) (v := q1.2.1 + 1) (L' := [some (zr 0 0 0), some (zi a1), some (zi v4), some (zi (q1.2.1 + 1))]) dX3_passHours_16 rfl (by first | rfl | decide) (by decide) rfl rfl ?_
    refine zz_letl (Lf := fun v5 => [some (zr 0 0 0), some (zi a1), some (zi v4), some (zi v5)]) fun v5 => ?_
    refine zz_goto F (tgt := 4) dX3_passHours_19 (by decide) ?_
    exact zz_sub (zs_k (zs_k (zs_k (zs_k zs_z)))) (h1 (v4, v5, q3.2))
set_option maxHeartbeats 4000000 in
set_option maxRecDepth 20000 in
theorem bfSe_passHours {X : zX} (F : zFr X cX3_passHours 4 RX3 (some .int)) (a1 : Int32)  (s0 : zM) {κ : Int32 × zM → Option zO} (hκ : ∀ a, κ a = some ((fun a => ((.inl ((fun q => some (zi q.1)) a), (fun q => [q.2]) a) : zO)) a)) : zZ X [(0, [])] 5 110 4 0 [some (zr 0 0 0), some (zi a1), none, none] [] [s0] (Option.bind (fSe_passHours a1 s0) κ) := by
  unfold fSe_passHours
  refine zz_iconst F (v := (0 : Int32)) dX3_passHours_0 (by decide) ?_
  refine zz_istore_n F (i := 2) (L' := [some (zr 0 0 0), some (zi a1), some (zi (0 : Int32)), none]) dX3_passHours_1 rfl (by decide) rfl rfl ?_
  refine zz_iconst F (v := (0 : Int32)) dX3_passHours_2 (by decide) ?_
  refine zz_istore_n F (i := 3) (L' := [some (zr 0 0 0), some (zi a1), some (zi (0 : Int32)), some (zi (0 : Int32))]) dX3_passHours_3 rfl (by decide) rfl rfl ?_
  refine zz_sub (zs_k (zs_k (zs_k (zs_k zs_z)))) ?_
  refine zz_bind ?_
  refine zz_iter (Lf := fun q1 => [some (zr 0 0 0), some (zi a1), some (zi q1.1), some (zi q1.2.1)]) (Mf := fun q1 => [q1.2.2]) (fun q1 ψ h1 h2 => bfSe_passHours_l4 F a1  h1 (fun q2 => ?_)  q1) 1000 ((0 : Int32), (0 : Int32), s0)
  rw [h2]
  refine zz_iload_n F (i := 2) dX3_passHours_22 rfl rfl ?_
  exact zz_ireturn F dX3_passHours_23 rfl (hκ _)
theorem zfSe_passHours (a1 : Int32)  (s0 : zM) : ∀ a, fSe_passHours a1 s0 = some a → zMet yX3_passHours cX3_passHours 4 (some .int) 5 110 [(0, [])] [zr 0 0 0, zi a1] [s0] ((fun a => ((.inl ((fun q => some (zi q.1)) a), (fun q => [q.2]) a) : zO)) a) := fun a ha => zMet_of (L0 := [some (zr 0 0 0), some (zi a1), none, none]) (φ := Option.bind (fSe_passHours a1 s0) (fun a => some ((fun a => ((.inl ((fun q => some (zi q.1)) a), (fun q => [q.2]) a) : zO)) a))) (by decide) (fun _ => Nat.le_of_ble_eq_true rfl) (zl0 2 rfl) (fun X F => bfSe_passHours F a1 s0 (fun _ => rfl)) (by rw [ha]; rfl)

theorem dX9_blow_0 : decode cX9_blow 0 = .ok (.iload_n 1, 1) := by decide +kernel
theorem dX9_blow_1 : decode cX9_blow 1 = .ok (.iconst 1, 1) := by decide +kernel
theorem dX9_blow_2 : decode cX9_blow 2 = .ok (.bipush 24, 2) := by decide +kernel
theorem dX9_blow_4 : decode cX9_blow 4 = .ok (.invokestatic 26, 3) := by decide +kernel
theorem dX9_blow_7 : decode cX9_blow 7 = .ok (.ifCond .ne 59, 3) := by decide +kernel
theorem dX9_blow_10 : decode cX9_blow 10 = .ok (.iload_n 2, 1) := by decide +kernel
theorem dX9_blow_11 : decode cX9_blow 11 = .ok (.iconst 0, 1) := by decide +kernel
theorem dX9_blow_12 : decode cX9_blow 12 = .ok (.bipush 7, 2) := by decide +kernel
theorem dX9_blow_14 : decode cX9_blow 14 = .ok (.invokestatic 26, 3) := by decide +kernel
theorem dX9_blow_17 : decode cX9_blow 17 = .ok (.ifCond .ne 49, 3) := by decide +kernel
theorem dX9_blow_20 : decode cX9_blow 20 = .ok (.iload_n 3, 1) := by decide +kernel
theorem dX9_blow_21 : decode cX9_blow 21 = .ok (.iconst 0, 1) := by decide +kernel
theorem dX9_blow_22 : decode cX9_blow 22 = .ok (.bipush 30, 2) := by decide +kernel
theorem dX9_blow_24 : decode cX9_blow 24 = .ok (.invokestatic 26, 3) := by decide +kernel
theorem dX9_blow_27 : decode cX9_blow 27 = .ok (.ifCond .ne 39, 3) := by decide +kernel
theorem dX9_blow_30 : decode cX9_blow 30 = .ok (.iload 4, 2) := by decide +kernel
theorem dX9_blow_32 : decode cX9_blow 32 = .ok (.iconst 0, 1) := by decide +kernel
theorem dX9_blow_33 : decode cX9_blow 33 = .ok (.bipush 60, 2) := by decide +kernel
theorem dX9_blow_35 : decode cX9_blow 35 = .ok (.invokestatic 26, 3) := by decide +kernel
theorem dX9_blow_38 : decode cX9_blow 38 = .ok (.ifCond .ne 28, 3) := by decide +kernel
theorem dX9_blow_41 : decode cX9_blow 41 = .ok (.iload 5, 2) := by decide +kernel
theorem dX9_blow_43 : decode cX9_blow 43 = .ok (.bipush (-50), 2) := by decide +kernel
theorem dX9_blow_45 : decode cX9_blow 45 = .ok (.sipush 200, 3) := by decide +kernel
theorem dX9_blow_48 : decode cX9_blow 48 = .ok (.invokestatic 26, 3) := by decide +kernel
theorem dX9_blow_51 : decode cX9_blow 51 = .ok (.ifCond .ne 15, 3) := by decide +kernel
theorem dX9_blow_54 : decode cX9_blow 54 = .ok (.iload 6, 2) := by decide +kernel
theorem dX9_blow_56 : decode cX9_blow 56 = .ok (.iconst 0, 1) := by decide +kernel
theorem dX9_blow_57 : decode cX9_blow 57 = .ok (.sipush 20000, 3) := by decide +kernel
theorem dX9_blow_60 : decode cX9_blow 60 = .ok (.invokestatic 26, 3) := by decide +kernel
theorem dX9_blow_63 : decode cX9_blow 63 = .ok (.ifCond .eq 13, 3) := by decide +kernel
theorem dX9_blow_66 : decode cX9_blow 66 = .ok (.new 30, 3) := by decide +kernel
theorem dX9_blow_69 : decode cX9_blow 69 = .ok (.dup, 1) := by decide +kernel
theorem dX9_blow_70 : decode cX9_blow 70 = .ok (.ldc 98, 2) := by decide +kernel
theorem dX9_blow_72 : decode cX9_blow 72 = .ok (.invokespecial 34, 3) := by decide +kernel
theorem dX9_blow_75 : decode cX9_blow 75 = .ok (.athrow, 1) := by decide +kernel
theorem dX9_blow_76 : decode cX9_blow 76 = .ok (.aload_n 0, 1) := by decide +kernel
theorem dX9_blow_77 : decode cX9_blow 77 = .ok (.getfield 10, 3) := by decide +kernel
theorem dX9_blow_80 : decode cX9_blow 80 = .ok (.getfield 100, 3) := by decide +kernel
theorem dX9_blow_83 : decode cX9_blow 83 = .ok (.iload_n 2, 1) := by decide +kernel
theorem dX9_blow_84 : decode cX9_blow 84 = .ok (.iload_n 3, 1) := by decide +kernel
theorem dX9_blow_85 : decode cX9_blow 85 = .ok (.iload 4, 2) := by decide +kernel
theorem dX9_blow_87 : decode cX9_blow 87 = .ok (.iload 5, 2) := by decide +kernel
theorem dX9_blow_89 : decode cX9_blow 89 = .ok (.iload 6, 2) := by decide +kernel
theorem dX9_blow_91 : decode cX9_blow 91 = .ok (.invokevirtual 104, 3) := by decide +kernel
theorem dX9_blow_94 : decode cX9_blow 94 = .ok (.aload_n 0, 1) := by decide +kernel
theorem dX9_blow_95 : decode cX9_blow 95 = .ok (.getfield 10, 3) := by decide +kernel
theorem dX9_blow_98 : decode cX9_blow 98 = .ok (.iload_n 1, 1) := by decide +kernel
theorem dX9_blow_99 : decode cX9_blow 99 = .ok (.invokevirtual 110, 3) := by decide +kernel
theorem dX9_blow_102 : decode cX9_blow 102 = .ok (.ireturn, 1) := by decide +kernel
theorem wsRX9_98 : (RX9, 98, "no such HOURS") ∈ zstr := by decide +kernel
theorem wfRX9_100 : zFl RX9 100 3 3 := ⟨_, rfl, by decide, zm_f 287 (by decide +kernel) rfl⟩
theorem wcRX9_104 : Cond.methodLink RX9 104 yX8_set ∈ zTg ∧ Cond.instanceMethod yX8_set ∈ zTg ∧ Cond.selects RX8 yX8_set yX8_set ∈ zTg ∧ Cond.initialized RX8 ∈ zTg ∧ Cond.code yX8_set cX8_set 6 none ∈ zTg := ⟨zm_f 825 (by decide +kernel) rfl, zm_f 573 (by decide +kernel) rfl, zm_f 574 (by decide +kernel) rfl, zm_f 39 (by decide +kernel) rfl, zm_f 575 (by decide +kernel) rfl⟩
theorem wy_yX8_set : yX8_set.cls = RX8 ∧ yX8_set.cls ≠ "java/lang/invoke/MethodHandle" ∧ yX8_set.cls ≠ "java/lang/invoke/VarHandle" ∧ (parseMethodDescriptor yX8_set.desc).map (fun d => d.parameters.length) = some 5 := by decide +kernel
theorem wcRX9_110 : Cond.methodLink RX9 110 yX3_passHours ∈ zTg ∧ Cond.instanceMethod yX3_passHours ∈ zTg ∧ Cond.selects RX3 yX3_passHours yX3_passHours ∈ zTg ∧ Cond.initialized RX3 ∈ zTg ∧ Cond.code yX3_passHours cX3_passHours 4 (some .int) ∈ zTg := ⟨zm_f 742 (by decide +kernel) rfl, zm_f 743 (by decide +kernel) rfl, zm_f 744 (by decide +kernel) rfl, zm_f 38 (by decide +kernel) rfl, zm_f 745 (by decide +kernel) rfl⟩
theorem wy_yX3_passHours : yX3_passHours.cls = RX3 ∧ yX3_passHours.cls ≠ "java/lang/invoke/MethodHandle" ∧ yX3_passHours.cls ≠ "java/lang/invoke/VarHandle" ∧ (parseMethodDescriptor yX3_passHours.desc).map (fun d => d.parameters.length) = some 1 := by decide +kernel
def fWB_blow (a1 : Int32) (a2 : Int32) (a3 : Int32) (a4 : Int32) (a5 : Int32) (a6 : Int32) (s0 : zM) (s1 : zM) (s2 : zM) (s3 : zM) : Option ((Int32 × zM) ⊕ (String × zM)) :=
  Option.bind (fWB_outside a1 (1 : Int32) (24 : Int32)) fun q1 =>
  if q1 = 0 then
  Option.bind (fWB_outside a2 (0 : Int32) (7 : Int32)) fun q2 =>
    if q2 = 0 then
    Option.bind (fWB_outside a3 (0 : Int32) (30 : Int32)) fun q3 =>
      if q3 = 0 then
      Option.bind (fWB_outside a4 (0 : Int32) (60 : Int32)) fun q4 =>
        if q4 = 0 then
        Option.bind (fWB_outside a5 (-50 : Int32) (200 : Int32)) fun q5 =>
          if q5 = 0 then
          Option.bind (fWB_outside a6 (0 : Int32) (20000 : Int32)) fun q6 =>
            if q6 = 0 then
            Option.bind (fWe_set a2 a3 a4 a5 a6 s1) fun q7 =>
              Option.bind (fSe_passHours a1 q7) fun q8 =>
              some (.inl (q8.1, q8.2))
          else
            some (.inr ("java/lang/IllegalArgumentException", s1))
        else
          some (.inr ("java/lang/IllegalArgumentException", s1))
      else
        some (.inr ("java/lang/IllegalArgumentException", s1))
    else
      some (.inr ("java/lang/IllegalArgumentException", s1))
  else
    some (.inr ("java/lang/IllegalArgumentException", s1))
else
  some (.inr ("java/lang/IllegalArgumentException", s1))
set_option maxHeartbeats 4000000 in
set_option maxRecDepth 20000 in
theorem bfWB_blow {X : zX} (F : zFr X cX9_blow 7 RX9 (some .int)) (a1 : Int32) (a2 : Int32) (a3 : Int32) (a4 : Int32) (a5 : Int32) (a6 : Int32)  (s0 : zM) (s1 : zM) (s2 : zM) (s3 : zM) {κ : (Int32 × zM) ⊕ (String × zM) → Option zO} (hκ : ∀ a, κ a = some ((zts (fun q => some (zi q.1)) (fun q => [s0, q.2, s2, s3]) (fun b => b.1) (fun b => [s0, b.2, s2, s3])) a)) : zZ X [(2, [1, 2, 3]), (0, []), (0, []), (1, [])] 6 133 7 0 [some (zr 0 0 0), some (zi a1), some (zi a2), some (zi a3), some (zi a4), some (zi a5), some (zi a6)] [] [s0, s1, s2, s3] (Option.bind (fWB_blow a1 a2 a3 a4 a5 a6 s0 s1 s2 s3) κ) := by
  unfold fWB_blow
  refine zz_iload_n F (i := 1) dX9_blow_0 rfl rfl ?_
  refine zz_iconst F (v := (1 : Int32)) dX9_blow_1 (by decide) ?_
  refine zz_bipush F (v := (24 : Int32)) dX9_blow_2 (by decide) ?_
  refine zz_bind ?_
  refine zz_callSr F (ρ := []) (so := fun q1 => [zi q1]) (Mo := fun q1 => [s0, s1, s2, s3]) (zfWB_outside a1 (1 : Int32) (24 : Int32)) dX9_blow_4 wcRX9_26 wy_yX9_outside rfl ⟨rel0, rfl, rfl, Nat.le_of_ble_eq_true rfl, Nat.le_of_ble_eq_true rfl, Nat.le_of_ble_eq_true rfl⟩ rfl (fun _ => rfl) (fun _ => rfl) fun q1 => ?_
  refine zz_if_ne F (tgt := 66) dX9_blow_7 (by decide) (fun h => zz_f h ?_) (fun h => zz_t h ?_)
  · exact zz_throw F (cls := "java/lang/IllegalArgumentException") dX9_blow_66 dX9_blow_69 dX9_blow_70 dX9_blow_72 dX9_blow_75 (by decide) wtRX9_30_34k wsRX9_98 wtRX9_30_34g wtRX9_30_34n wtRX9_30_34o (Nat.le_of_ble_eq_true rfl) (Nat.le_of_ble_eq_true rfl) (hκ _)
  · refine zz_iload_n F (i := 2) dX9_blow_10 rfl rfl ?_
    refine zz_iconst F (v := (0 : Int32)) dX9_blow_11 (by decide) ?_
    refine zz_bipush F (v := (7 : Int32)) dX9_blow_12 (by decide) ?_
    refine zz_bind ?_
    refine zz_callSr F (ρ := []) (so := fun q2 => [zi q2]) (Mo := fun q2 => [s0, s1, s2, s3]) (zfWB_outside a2 (0 : Int32) (7 : Int32)) dX9_blow_14 wcRX9_26 wy_yX9_outside rfl ⟨rel0, rfl, rfl, Nat.le_of_ble_eq_true rfl, Nat.le_of_ble_eq_true rfl, Nat.le_of_ble_eq_true rfl⟩ rfl (fun _ => rfl) (fun _ => rfl) fun q2 => ?_
    refine zz_if_ne F (tgt := 66) dX9_blow_17 (by decide) (fun h => zz_f h ?_) (fun h => zz_t h ?_)
    · exact zz_throw F (cls := "java/lang/IllegalArgumentException") dX9_blow_66 dX9_blow_69 dX9_blow_70 dX9_blow_72 dX9_blow_75 (by decide) wtRX9_30_34k wsRX9_98 wtRX9_30_34g wtRX9_30_34n wtRX9_30_34o (Nat.le_of_ble_eq_true rfl) (Nat.le_of_ble_eq_true rfl) (hκ _)
    · refine zz_iload_n F (i := 3) dX9_blow_20 rfl rfl ?_
      refine zz_iconst F (v := (0 : Int32)) dX9_blow_21 (by decide) ?_
      refine zz_bipush F (v := (30 : Int32)) dX9_blow_22 (by decide) ?_
      refine zz_bind ?_
      refine zz_callSr F (ρ := []) (so := fun q3 => [zi q3]) (Mo := fun q3 => [s0, s1, s2, s3]) (zfWB_outside a3 (0 : Int32) (30 : Int32)) dX9_blow_24 wcRX9_26 wy_yX9_outside rfl ⟨rel0, rfl, rfl, Nat.le_of_ble_eq_true rfl, Nat.le_of_ble_eq_true rfl, Nat.le_of_ble_eq_true rfl⟩ rfl (fun _ => rfl) (fun _ => rfl) fun q3 => ?_
      refine zz_if_ne F (tgt := 66) dX9_blow_27 (by decide) (fun h => zz_f h ?_) (fun h => zz_t h ?_)
      · exact zz_throw F (cls := "java/lang/IllegalArgumentException") dX9_blow_66 dX9_blow_69 dX9_blow_70 dX9_blow_72 dX9_blow_75 (by decide) wtRX9_30_34k wsRX9_98 wtRX9_30_34g wtRX9_30_34n wtRX9_30_34o (Nat.le_of_ble_eq_true rfl) (Nat.le_of_ble_eq_true rfl) (hκ _)
      · refine zz_iload F (i := 4) dX9_blow_30 rfl ?_
        refine zz_iconst F (v := (0 : Int32)) dX9_blow_32 (by decide) ?_
        refine zz_bipush F (v := (60 : Int32)) dX9_blow_33 (by decide) ?_
        refine zz_bind ?_
        refine zz_callSr F (ρ := []) (so := fun q4 => [zi q4]) (Mo := fun q4 => [s0, s1, s2, s3]) (zfWB_outside a4 (0 : Int32) (60 : Int32)) dX9_blow_35 wcRX9_26 wy_yX9_outside rfl ⟨rel0, rfl, rfl, Nat.le_of_ble_eq_true rfl, Nat.le_of_ble_eq_true rfl, Nat.le_of_ble_eq_true rfl⟩ rfl (fun _ => rfl) (fun _ => rfl) fun q4 => ?_
        refine zz_if_ne F (tgt := 66) dX9_blow_38 (by decide) (fun h => zz_f h ?_) (fun h => zz_t h ?_)
        · exact zz_throw F (cls := "java/lang/IllegalArgumentException") dX9_blow_66 dX9_blow_69 dX9_blow_70 dX9_blow_72 dX9_blow_75 (by decide) wtRX9_30_34k wsRX9_98 wtRX9_30_34g wtRX9_30_34n wtRX9_30_34o (Nat.le_of_ble_eq_true rfl) (Nat.le_of_ble_eq_true rfl) (hκ _)
        · refine zz_iload F (i := 5) dX9_blow_41 rfl ?_
          refine zz_bipush F (v := (-50 : Int32)) dX9_blow_43 (by decide) ?_
          refine zz_sipush F (v := (200 : Int32)) dX9_blow_45 (by decide) ?_
          refine zz_bind ?_
          refine zz_callSr F (ρ := []) (so := fun q5 => [zi q5]) (Mo := fun q5 => [s0, s1, s2, s3]) (zfWB_outside a5 (-50 : Int32) (200 : Int32)) dX9_blow_48 wcRX9_26 wy_yX9_outside rfl ⟨rel0, rfl, rfl, Nat.le_of_ble_eq_true rfl, Nat.le_of_ble_eq_true rfl, Nat.le_of_ble_eq_true rfl⟩ rfl (fun _ => rfl) (fun _ => rfl) fun q5 => ?_
          refine zz_if_ne F (tgt := 66) dX9_blow_51 (by decide) (fun h => zz_f h ?_) (fun h => zz_t h ?_)
          · exact zz_throw F (cls := "java/lang/IllegalArgumentException") dX9_blow_66 dX9_blow_69 dX9_blow_70 dX9_blow_72 dX9_blow_75 (by decide) wtRX9_30_34k wsRX9_98 wtRX9_30_34g wtRX9_30_34n wtRX9_30_34o (Nat.le_of_ble_eq_true rfl) (Nat.le_of_ble_eq_true rfl) (hκ _)
          · refine zz_iload F (i := 6) dX9_blow_54 rfl ?_
            refine zz_iconst F (v := (0 : Int32)) dX9_blow_56 (by decide) ?_
            refine zz_sipush F (v := (20000 : Int32)) dX9_blow_57 (by decide) ?_
            refine zz_bind ?_
            refine zz_callSr F (ρ := []) (so := fun q6 => [zi q6]) (Mo := fun q6 => [s0, s1, s2, s3]) (zfWB_outside a6 (0 : Int32) (20000 : Int32)) dX9_blow_60 wcRX9_26 wy_yX9_outside rfl ⟨rel0, rfl, rfl, Nat.le_of_ble_eq_true rfl, Nat.le_of_ble_eq_true rfl, Nat.le_of_ble_eq_true rfl⟩ rfl (fun _ => rfl) (fun _ => rfl) fun q6 => ?_
            refine zz_if_eq F (tgt := 76) dX9_blow_63 (by decide) (fun h => zz_t h ?_) (fun h => zz_f h ?_)
            · refine zz_aload_n F (i := 0) dX9_blow_76 rfl rfl ?_
              refine zz_getr F dX9_blow_77 wfRX9_10 zCl_8 rfl (⟨zlb rfl, zlb rfl, zlb rfl⟩) rfl (by decide) rfl (r' := 1) (by decide) ?_
              refine zz_getr F dX9_blow_80 wfRX9_100 zCl_3 rfl (⟨zlb rfl, zlb rfl, zlb rfl⟩) rfl (by decide) rfl (r' := 1) (by decide) ?_
              refine zz_iload_n F (i := 2) dX9_blow_83 rfl rfl ?_
              refine zz_iload_n F (i := 3) dX9_blow_84 rfl rfl ?_
              refine zz_iload F (i := 4) dX9_blow_85 rfl ?_
              refine zz_iload F (i := 5) dX9_blow_87 rfl ?_
              refine zz_iload F (i := 6) dX9_blow_89 rfl ?_
              refine zz_bind ?_
              refine zz_callVr F (ρ := [1]) (so := fun q7 => []) (Mo := fun q7 => [s0, q7, s2, s3]) (zfWe_set a2 a3 a4 a5 a6 s1) dX9_blow_91 wcRX9_104 wy_yX8_set rfl ⟨rel1, rfl, rfl, Nat.le_of_ble_eq_true rfl, Nat.le_of_ble_eq_true rfl, Nat.le_of_ble_eq_true rfl⟩ (⟨zlb rfl, zlb rfl, zlb rfl⟩) rfl rfl rfl (fun _ => rfl) (fun _ => rfl) fun q7 => ?_
              refine zz_aload_n F (i := 0) dX9_blow_94 rfl rfl ?_
              refine zz_getr F dX9_blow_95 wfRX9_10 zCl_8 rfl (⟨zlb rfl, zlb rfl, zlb rfl⟩) rfl (by decide) rfl (r' := 1) (by decide) ?_
              refine zz_iload_n F (i := 1) dX9_blow_98 rfl rfl ?_
              refine zz_bind ?_
              refine zz_callVr F (ρ := [1]) (so := fun q8 => [zi q8.1]) (Mo := fun q8 => [s0, q8.2, s2, s3]) (zfSe_passHours a1 q7) dX9_blow_99 wcRX9_110 wy_yX3_passHours rfl ⟨rel1, rfl, rfl, Nat.le_of_ble_eq_true rfl, Nat.le_of_ble_eq_true rfl, Nat.le_of_ble_eq_true rfl⟩ (⟨zlb rfl, zlb rfl, zlb rfl⟩) rfl rfl rfl (fun _ => rfl) (fun _ => rfl) fun q8 => ?_
              exact zz_ireturn F dX9_blow_102 rfl (hκ _)
            · exact zz_throw F (cls := "java/lang/IllegalArgumentException") dX9_blow_66 dX9_blow_69 dX9_blow_70 dX9_blow_72 dX9_blow_75 (by decide) wtRX9_30_34k wsRX9_98 wtRX9_30_34g wtRX9_30_34n wtRX9_30_34o (Nat.le_of_ble_eq_true rfl) (Nat.le_of_ble_eq_true rfl) (hκ _)
theorem zfWB_blow (a1 : Int32) (a2 : Int32) (a3 : Int32) (a4 : Int32) (a5 : Int32) (a6 : Int32)  (s0 : zM) (s1 : zM) (s2 : zM) (s3 : zM) : ∀ a, fWB_blow a1 a2 a3 a4 a5 a6 s0 s1 s2 s3 = some a → zMet yX9_blow cX9_blow 7 (some .int) 6 133 [(2, [1, 2, 3]), (0, []), (0, []), (1, [])] [zr 0 0 0, zi a1, zi a2, zi a3, zi a4, zi a5, zi a6] [s0, s1, s2, s3] ((zts (fun q => some (zi q.1)) (fun q => [s0, q.2, s2, s3]) (fun b => b.1) (fun b => [s0, b.2, s2, s3])) a) := fun a ha => zMet_of (L0 := [some (zr 0 0 0), some (zi a1), some (zi a2), some (zi a3), some (zi a4), some (zi a5), some (zi a6)]) (φ := Option.bind (fWB_blow a1 a2 a3 a4 a5 a6 s0 s1 s2 s3) (fun a => some ((zts (fun q => some (zi q.1)) (fun q => [s0, q.2, s2, s3]) (fun b => b.1) (fun b => [s0, b.2, s2, s3])) a))) (by decide) (fun _ => Nat.le_of_ble_eq_true rfl) (zl0 0 rfl) (fun X F => bfWB_blow F a1 a2 a3 a4 a5 a6 s0 s1 s2 s3 (fun _ => rfl)) (by rw [ha]; rfl)
end
