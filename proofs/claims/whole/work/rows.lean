section
-- ===== PART A: goes FIRST, ahead of the names: the tables' words, and 'selects' of the private methods out of them =====
/-- a private method of a class that the tables say can be made, by its rows of tables_1 -/
def lw_okq (q : MethodName × Nat) : Prop := (q.1.cls ≠ "java/lang/invoke/MethodHandle" ∧ q.1.cls ≠ "java/lang/invoke/VarHandle") ∧ Cond.instantiable q.1.cls q.2 ∈ tables_1 ∧ Cond.privateMethod q.1 ∈ tables_1 ∧ Cond.instanceMethod q.1 ∈ tables_1
theorem lw_p0 : lw_okq (⟨"WakeBanks$Siting", "takeDeficits", "(LWakeBanks$Sea;I)V"⟩, 2) := ⟨⟨by decide +kernel, by decide +kernel⟩, List.mem_of_getElem? (i := 291) (by decide +kernel), List.mem_of_getElem? (i := 326) (by decide +kernel), List.mem_of_getElem? (i := 327) (by decide +kernel)⟩
theorem lw_p1 : lw_okq (⟨"WakeBanks$Siting", "powerWith", "(LWakeBanks$Sea;II)I"⟩, 2) := ⟨⟨by decide +kernel, by decide +kernel⟩, List.mem_of_getElem? (i := 291) (by decide +kernel), List.mem_of_getElem? (i := 344) (by decide +kernel), List.mem_of_getElem? (i := 345) (by decide +kernel)⟩
theorem lw_p2 : lw_okq (⟨"java/lang/Throwable", "fillInStackTrace", "(I)Ljava/lang/Throwable;"⟩, 6) := ⟨⟨by decide +kernel, by decide +kernel⟩, List.mem_of_getElem? (i := 423) (by decide +kernel), List.mem_of_getElem? (i := 421) (by decide +kernel), List.mem_of_getElem? (i := 422) (by decide +kernel)⟩
theorem lw_p3 : lw_okq (⟨"WakeBanks", "digestTurbine", "(JI)J"⟩, 3) := ⟨⟨by decide +kernel, by decide +kernel⟩, List.mem_of_getElem? (i := 22) (by decide +kernel), List.mem_of_getElem? (i := 453) (by decide +kernel), List.mem_of_getElem? (i := 454) (by decide +kernel)⟩
theorem lw_p4 : lw_okq (⟨"WakeBanks", "checkTurbine", "(I)V"⟩, 3) := ⟨⟨by decide +kernel, by decide +kernel⟩, List.mem_of_getElem? (i := 22) (by decide +kernel), List.mem_of_getElem? (i := 461) (by decide +kernel), List.mem_of_getElem? (i := 462) (by decide +kernel)⟩
theorem lw_p5 : lw_okq (⟨"WakeBanks$Turbine", "wornPart", "()I"⟩, 14) := ⟨⟨by decide +kernel, by decide +kernel⟩, List.mem_of_getElem? (i := 98) (by decide +kernel), List.mem_of_getElem? (i := 582) (by decide +kernel), List.mem_of_getElem? (i := 583) (by decide +kernel)⟩
theorem lw_p6 : lw_okq (⟨"WakeBanks$Turbine", "mayStart", "(IZ)Z"⟩, 14) := ⟨⟨by decide +kernel, by decide +kernel⟩, List.mem_of_getElem? (i := 98) (by decide +kernel), List.mem_of_getElem? (i := 592) (by decide +kernel), List.mem_of_getElem? (i := 593) (by decide +kernel)⟩
theorem lw_p7 : lw_okq (⟨"WakeBanks$Turbine", "causeOfStanding", "()I"⟩, 14) := ⟨⟨by decide +kernel, by decide +kernel⟩, List.mem_of_getElem? (i := 98) (by decide +kernel), List.mem_of_getElem? (i := 609) (by decide +kernel), List.mem_of_getElem? (i := 610) (by decide +kernel)⟩
theorem lw_p8 : lw_okq (⟨"WakeBanks$Sea", "loadStrings", "()V"⟩, 11) := ⟨⟨by decide +kernel, by decide +kernel⟩, List.mem_of_getElem? (i := 30) (by decide +kernel), List.mem_of_getElem? (i := 613) (by decide +kernel), List.mem_of_getElem? (i := 614) (by decide +kernel)⟩
theorem lw_p9 : lw_okq (⟨"WakeBanks$Sea", "giveUp", "(III)I"⟩, 11) := ⟨⟨by decide +kernel, by decide +kernel⟩, List.mem_of_getElem? (i := 30) (by decide +kernel), List.mem_of_getElem? (i := 621) (by decide +kernel), List.mem_of_getElem? (i := 622) (by decide +kernel)⟩
theorem lw_p10 : lw_okq (⟨"WakeBanks$Sea", "isOn", "(II)Z"⟩, 11) := ⟨⟨by decide +kernel, by decide +kernel⟩, List.mem_of_getElem? (i := 30) (by decide +kernel), List.mem_of_getElem? (i := 625) (by decide +kernel), List.mem_of_getElem? (i := 626) (by decide +kernel)⟩
theorem lw_p11 : lw_okq (⟨"WakeBanks$Ledger", "takeNominated", "()I"⟩, 5) := ⟨⟨by decide +kernel, by decide +kernel⟩, List.mem_of_getElem? (i := 72) (by decide +kernel), List.mem_of_getElem? (i := 638) (by decide +kernel), List.mem_of_getElem? (i := 639) (by decide +kernel)⟩
theorem lw_p12 : lw_okq (⟨"WakeBanks$Turbine", "wearPart", "(II)V"⟩, 14) := ⟨⟨by decide +kernel, by decide +kernel⟩, List.mem_of_getElem? (i := 98) (by decide +kernel), List.mem_of_getElem? (i := 649) (by decide +kernel), List.mem_of_getElem? (i := 650) (by decide +kernel)⟩
theorem lw_p13 : lw_okq (⟨"WakeBanks$Extremes", "goesOn", "(I)Z"⟩, 4) := ⟨⟨by decide +kernel, by decide +kernel⟩, List.mem_of_getElem? (i := 104) (by decide +kernel), List.mem_of_getElem? (i := 659) (by decide +kernel), List.mem_of_getElem? (i := 660) (by decide +kernel)⟩
theorem lw_p14 : lw_okq (⟨"WakeBanks$Extremes", "takeOut", "(II)V"⟩, 4) := ⟨⟨by decide +kernel, by decide +kernel⟩, List.mem_of_getElem? (i := 104) (by decide +kernel), List.mem_of_getElem? (i := 663) (by decide +kernel), List.mem_of_getElem? (i := 664) (by decide +kernel)⟩
theorem lw_p15 : lw_okq (⟨"WakeBanks$Extremes", "hasCycle", "()Z"⟩, 4) := ⟨⟨by decide +kernel, by decide +kernel⟩, List.mem_of_getElem? (i := 104) (by decide +kernel), List.mem_of_getElem? (i := 667) (by decide +kernel), List.mem_of_getElem? (i := 668) (by decide +kernel)⟩
def lw_privs_1 : List (MethodName × Nat) := [(⟨"WakeBanks$Siting", "takeDeficits", "(LWakeBanks$Sea;I)V"⟩, 2), (⟨"WakeBanks$Siting", "powerWith", "(LWakeBanks$Sea;II)I"⟩, 2), (⟨"java/lang/Throwable", "fillInStackTrace", "(I)Ljava/lang/Throwable;"⟩, 6), (⟨"WakeBanks", "digestTurbine", "(JI)J"⟩, 3), (⟨"WakeBanks", "checkTurbine", "(I)V"⟩, 3), (⟨"WakeBanks$Turbine", "wornPart", "()I"⟩, 14), (⟨"WakeBanks$Turbine", "mayStart", "(IZ)Z"⟩, 14), (⟨"WakeBanks$Turbine", "causeOfStanding", "()I"⟩, 14), (⟨"WakeBanks$Sea", "loadStrings", "()V"⟩, 11), (⟨"WakeBanks$Sea", "giveUp", "(III)I"⟩, 11), (⟨"WakeBanks$Sea", "isOn", "(II)Z"⟩, 11), (⟨"WakeBanks$Ledger", "takeNominated", "()I"⟩, 5), (⟨"WakeBanks$Turbine", "wearPart", "(II)V"⟩, 14), (⟨"WakeBanks$Extremes", "goesOn", "(I)Z"⟩, 4), (⟨"WakeBanks$Extremes", "takeOut", "(II)V"⟩, 4), (⟨"WakeBanks$Extremes", "hasCycle", "()Z"⟩, 4)]
theorem lw_r1 : ∀ q ∈ lw_privs_1, lw_okq q := List.forall_mem_cons.mpr ⟨lw_p0, List.forall_mem_cons.mpr ⟨lw_p1, List.forall_mem_cons.mpr ⟨lw_p2, List.forall_mem_cons.mpr ⟨lw_p3, List.forall_mem_cons.mpr ⟨lw_p4, List.forall_mem_cons.mpr ⟨lw_p5, List.forall_mem_cons.mpr ⟨lw_p6, List.forall_mem_cons.mpr ⟨lw_p7, List.forall_mem_cons.mpr ⟨lw_p8, List.forall_mem_cons.mpr ⟨lw_p9, List.forall_mem_cons.mpr ⟨lw_p10, List.forall_mem_cons.mpr ⟨lw_p11, List.forall_mem_cons.mpr ⟨lw_p12, List.forall_mem_cons.mpr ⟨lw_p13, List.forall_mem_cons.mpr ⟨lw_p14, List.forall_mem_cons.mpr ⟨lw_p15, fun _ h => absurd h List.not_mem_nil⟩⟩⟩⟩⟩⟩⟩⟩⟩⟩⟩⟩⟩⟩⟩⟩
theorem lw_p16 : lw_okq (⟨"WakeBanks$Sea", "work", "(LWakeBanks$Vessel;)V"⟩, 11) := ⟨⟨by decide +kernel, by decide +kernel⟩, List.mem_of_getElem? (i := 30) (by decide +kernel), List.mem_of_getElem? (i := 672) (by decide +kernel), List.mem_of_getElem? (i := 673) (by decide +kernel)⟩
theorem lw_p17 : lw_okq (⟨"WakeBanks", "checkString", "(I)V"⟩, 3) := ⟨⟨by decide +kernel, by decide +kernel⟩, List.mem_of_getElem? (i := 22) (by decide +kernel), List.mem_of_getElem? (i := 685) (by decide +kernel), List.mem_of_getElem? (i := 686) (by decide +kernel)⟩
theorem lw_p18 : lw_okq (⟨"WakeBanks", "checkVessel", "(I)V"⟩, 3) := ⟨⟨by decide +kernel, by decide +kernel⟩, List.mem_of_getElem? (i := 22) (by decide +kernel), List.mem_of_getElem? (i := 696) (by decide +kernel), List.mem_of_getElem? (i := 697) (by decide +kernel)⟩
theorem lw_p19 : lw_okq (⟨"WakeBanksModel", "no", "(I)I"⟩, 2) := ⟨⟨by decide +kernel, by decide +kernel⟩, List.mem_of_getElem? (i := 919) (by decide +kernel), List.mem_of_getElem? (i := 1043) (by decide +kernel), List.mem_of_getElem? (i := 1044) (by decide +kernel)⟩
theorem lw_p20 : lw_okq (⟨"WakeBanksModel", "isTaken", "(II)Z"⟩, 2) := ⟨⟨by decide +kernel, by decide +kernel⟩, List.mem_of_getElem? (i := 919) (by decide +kernel), List.mem_of_getElem? (i := 1051) (by decide +kernel), List.mem_of_getElem? (i := 1052) (by decide +kernel)⟩
theorem lw_p21 : lw_okq (⟨"WakeBanksModel$Sea", "turn", "([I)V"⟩, 23) := ⟨⟨by decide +kernel, by decide +kernel⟩, List.mem_of_getElem? (i := 925) (by decide +kernel), List.mem_of_getElem? (i := 1080) (by decide +kernel), List.mem_of_getElem? (i := 1081) (by decide +kernel)⟩
theorem lw_p22 : lw_okq (⟨"WakeBanksModel$Sea", "make", "([II)I"⟩, 23) := ⟨⟨by decide +kernel, by decide +kernel⟩, List.mem_of_getElem? (i := 925) (by decide +kernel), List.mem_of_getElem? (i := 1108) (by decide +kernel), List.mem_of_getElem? (i := 1109) (by decide +kernel)⟩
theorem lw_p23 : lw_okq (⟨"WakeBanksModel$Sea", "fit", "(III)I"⟩, 23) := ⟨⟨by decide +kernel, by decide +kernel⟩, List.mem_of_getElem? (i := 925) (by decide +kernel), List.mem_of_getElem? (i := 1116) (by decide +kernel), List.mem_of_getElem? (i := 1117) (by decide +kernel)⟩
theorem lw_p24 : lw_okq (⟨"WakeBanksModel$Sea", "isOn", "(II)Z"⟩, 23) := ⟨⟨by decide +kernel, by decide +kernel⟩, List.mem_of_getElem? (i := 925) (by decide +kernel), List.mem_of_getElem? (i := 1120) (by decide +kernel), List.mem_of_getElem? (i := 1121) (by decide +kernel)⟩
theorem lw_p25 : lw_okq (⟨"WakeBanksModel$Sea", "give", "(III)I"⟩, 23) := ⟨⟨by decide +kernel, by decide +kernel⟩, List.mem_of_getElem? (i := 925) (by decide +kernel), List.mem_of_getElem? (i := 1124) (by decide +kernel), List.mem_of_getElem? (i := 1125) (by decide +kernel)⟩
theorem lw_p26 : lw_okq (⟨"WakeBanksModel$Sea", "wear", "(I[I)V"⟩, 23) := ⟨⟨by decide +kernel, by decide +kernel⟩, List.mem_of_getElem? (i := 925) (by decide +kernel), List.mem_of_getElem? (i := 1128) (by decide +kernel), List.mem_of_getElem? (i := 1129) (by decide +kernel)⟩
theorem lw_p27 : lw_okq (⟨"WakeBanksModel$Sea", "load", "([I[I)I"⟩, 23) := ⟨⟨by decide +kernel, by decide +kernel⟩, List.mem_of_getElem? (i := 925) (by decide +kernel), List.mem_of_getElem? (i := 1135) (by decide +kernel), List.mem_of_getElem? (i := 1136) (by decide +kernel)⟩
theorem lw_p28 : lw_okq (⟨"WakeBanksModel$Sea", "work", "([I)V"⟩, 23) := ⟨⟨by decide +kernel, by decide +kernel⟩, List.mem_of_getElem? (i := 925) (by decide +kernel), List.mem_of_getElem? (i := 1143) (by decide +kernel), List.mem_of_getElem? (i := 1144) (by decide +kernel)⟩
theorem lw_p29 : lw_okq (⟨"WakeBanksModel", "isTurbine", "(I)Z"⟩, 2) := ⟨⟨by decide +kernel, by decide +kernel⟩, List.mem_of_getElem? (i := 919) (by decide +kernel), List.mem_of_getElem? (i := 1151) (by decide +kernel), List.mem_of_getElem? (i := 1152) (by decide +kernel)⟩
theorem lw_p30 : lw_okq (⟨"WakeBanksModel", "isVessel", "(I)Z"⟩, 2) := ⟨⟨by decide +kernel, by decide +kernel⟩, List.mem_of_getElem? (i := 919) (by decide +kernel), List.mem_of_getElem? (i := 1169) (by decide +kernel), List.mem_of_getElem? (i := 1170) (by decide +kernel)⟩
theorem lw_p31 : lw_okq (⟨"WakeBanksModel", "turbineNow", "(II)I"⟩, 2) := ⟨⟨by decide +kernel, by decide +kernel⟩, List.mem_of_getElem? (i := 919) (by decide +kernel), List.mem_of_getElem? (i := 1189) (by decide +kernel), List.mem_of_getElem? (i := 1190) (by decide +kernel)⟩
def lw_privs_2 : List (MethodName × Nat) := [(⟨"WakeBanks$Sea", "work", "(LWakeBanks$Vessel;)V"⟩, 11), (⟨"WakeBanks", "checkString", "(I)V"⟩, 3), (⟨"WakeBanks", "checkVessel", "(I)V"⟩, 3), (⟨"WakeBanksModel", "no", "(I)I"⟩, 2), (⟨"WakeBanksModel", "isTaken", "(II)Z"⟩, 2), (⟨"WakeBanksModel$Sea", "turn", "([I)V"⟩, 23), (⟨"WakeBanksModel$Sea", "make", "([II)I"⟩, 23), (⟨"WakeBanksModel$Sea", "fit", "(III)I"⟩, 23), (⟨"WakeBanksModel$Sea", "isOn", "(II)Z"⟩, 23), (⟨"WakeBanksModel$Sea", "give", "(III)I"⟩, 23), (⟨"WakeBanksModel$Sea", "wear", "(I[I)V"⟩, 23), (⟨"WakeBanksModel$Sea", "load", "([I[I)I"⟩, 23), (⟨"WakeBanksModel$Sea", "work", "([I)V"⟩, 23), (⟨"WakeBanksModel", "isTurbine", "(I)Z"⟩, 2), (⟨"WakeBanksModel", "isVessel", "(I)Z"⟩, 2), (⟨"WakeBanksModel", "turbineNow", "(II)I"⟩, 2)]
theorem lw_r2 : ∀ q ∈ lw_privs_2, lw_okq q := List.forall_mem_cons.mpr ⟨lw_p16, List.forall_mem_cons.mpr ⟨lw_p17, List.forall_mem_cons.mpr ⟨lw_p18, List.forall_mem_cons.mpr ⟨lw_p19, List.forall_mem_cons.mpr ⟨lw_p20, List.forall_mem_cons.mpr ⟨lw_p21, List.forall_mem_cons.mpr ⟨lw_p22, List.forall_mem_cons.mpr ⟨lw_p23, List.forall_mem_cons.mpr ⟨lw_p24, List.forall_mem_cons.mpr ⟨lw_p25, List.forall_mem_cons.mpr ⟨lw_p26, List.forall_mem_cons.mpr ⟨lw_p27, List.forall_mem_cons.mpr ⟨lw_p28, List.forall_mem_cons.mpr ⟨lw_p29, List.forall_mem_cons.mpr ⟨lw_p30, List.forall_mem_cons.mpr ⟨lw_p31, fun _ h => absurd h List.not_mem_nil⟩⟩⟩⟩⟩⟩⟩⟩⟩⟩⟩⟩⟩⟩⟩⟩
theorem lw_p32 : lw_okq (⟨"WakeBanksModel", "stringNow", "(II)I"⟩, 2) := ⟨⟨by decide +kernel, by decide +kernel⟩, List.mem_of_getElem? (i := 919) (by decide +kernel), List.mem_of_getElem? (i := 1216) (by decide +kernel), List.mem_of_getElem? (i := 1217) (by decide +kernel)⟩
theorem lw_p33 : lw_okq (⟨"WakeBanksModel", "manyNow", "(I)I"⟩, 2) := ⟨⟨by decide +kernel, by decide +kernel⟩, List.mem_of_getElem? (i := 919) (by decide +kernel), List.mem_of_getElem? (i := 1228) (by decide +kernel), List.mem_of_getElem? (i := 1229) (by decide +kernel)⟩
theorem lw_p34 : lw_okq (⟨"WakeBanksModel", "inState", "(I)I"⟩, 2) := ⟨⟨by decide +kernel, by decide +kernel⟩, List.mem_of_getElem? (i := 919) (by decide +kernel), List.mem_of_getElem? (i := 1232) (by decide +kernel), List.mem_of_getElem? (i := 1233) (by decide +kernel)⟩
theorem lw_p35 : lw_okq (⟨"WakeBanksModel", "bestNow", "(I)I"⟩, 2) := ⟨⟨by decide +kernel, by decide +kernel⟩, List.mem_of_getElem? (i := 919) (by decide +kernel), List.mem_of_getElem? (i := 1254) (by decide +kernel), List.mem_of_getElem? (i := 1255) (by decide +kernel)⟩
def lw_privs_3 : List (MethodName × Nat) := [(⟨"WakeBanksModel", "stringNow", "(II)I"⟩, 2), (⟨"WakeBanksModel", "manyNow", "(I)I"⟩, 2), (⟨"WakeBanksModel", "inState", "(I)I"⟩, 2), (⟨"WakeBanksModel", "bestNow", "(I)I"⟩, 2)]
theorem lw_r3 : ∀ q ∈ lw_privs_3, lw_okq q := List.forall_mem_cons.mpr ⟨lw_p32, List.forall_mem_cons.mpr ⟨lw_p33, List.forall_mem_cons.mpr ⟨lw_p34, List.forall_mem_cons.mpr ⟨lw_p35, fun _ h => absurd h List.not_mem_nil⟩⟩⟩⟩
def lw_privs : List (MethodName × Nat) := lw_privs_1 ++ (lw_privs_2 ++ (lw_privs_3))
def lw_tbl : List Cond := k2_sels lw_privs ++ tables_1
theorem lw_privs_ok : ∀ q ∈ lw_privs, lw_okq q := by
  show ∀ q ∈ lw_privs_1 ++ (lw_privs_2 ++ (lw_privs_3)), lw_okq q
  exact List.forall_mem_append.mpr ⟨lw_r1, List.forall_mem_append.mpr ⟨lw_r2, lw_r3⟩⟩
/-- the streams that the claim lets the run draw from -/
abbrev lw_cs : List Choice := [Jvm.Choice.named "NaN.bits"]
theorem lw_bits : nanBits ∈ lw_cs := by first | decide | exact List.mem_cons_self | simp [lw_cs, nanBits]
end
section
/-- the kit's names speak of va_AOA (arrays over arrays), which it does not hold: made here as va_AO is -/
def va_AOA (ty : FieldType) (U : State) : Prop := (Cond.arrayOver (.array ty)).before #[] U = true
theorem va_AOA.of {ty : FieldType} {A : Array Value} {U : State} (h : (Cond.arrayOver (.array ty)).before A U = true) : va_AOA ty U := h
theorem va_AOA.use {ty : FieldType} {A : Array Value} {U : State} (h : va_AOA ty U) : (Cond.arrayOver (.array ty)).before A U = true := h
/-! ===== BEGIN words of one list among another's, by their places ===== -/
theorem goodIn_r {big : List Cond} (ws : List Cond) (ps : List Nat) (hp : ws = ps.filterMap (fun i => big[i]?)) (h : ws.all goodWord = true) : GoodIn big ws := by
  intro w hw
  have h1 := List.all_eq_true.mp h w hw
  rw [hp] at hw
  obtain ⟨i, -, hi⟩ := List.mem_filterMap.mp hw
  have hm : w ∈ big := by first | exact List.mem_of_getElem? hi | exact List.getElem?_mem hi
  exact ⟨hm, good_of_word h1⟩
theorem goodIn_app {big a b : List Cond} (ha : GoodIn big a) (hb : GoodIn big b) : GoodIn big (a ++ b) := fun w h => (List.mem_append.mp h).elim (ha w) (hb w)
theorem goodIn_ca {big a b : List Cond} {c : Cond} (ha : GoodIn big (c :: a)) (hb : GoodIn big b) : GoodIn big (c :: (a ++ b)) := fun w h => (List.mem_cons.mp h).elim (fun e => ha w (List.mem_cons.mpr (Or.inl e))) (fun h => (List.mem_append.mp h).elim (fun h => ha w (List.mem_cons.mpr (Or.inr h))) (hb w))
theorem goodIn_sub {big ws : List Cond} (hm : ∀ w ∈ ws, w ∈ big) (h : ws.all goodWord = true) : GoodIn big ws := fun w hw => ⟨hm w hw, good_of_word (List.all_eq_true.mp h w hw)⟩
/-! ===== END ===== -/

/-! ===== BEGIN new T[n][m]: the outer array a place, the inner ones among the pooled ===== -/
/-- f, but v at every address of l -/
def vr_up {α : Type} (f : Nat → α) (l : List Nat) (v : α) : Nat → α := fun a => if a ∈ l then v else f a
theorem vr_up_in {α : Type} {f : Nat → α} {l : List Nat} {v : α} {a : Nat} (h : a ∈ l) : vr_up f l v a = v := if_pos h
theorem vr_up_ne {α : Type} {f : Nat → α} {l : List Nat} {v : α} {a : Nat} (h : a ∉ l) : vr_up f l v a = f a := if_neg h
theorem vr_rows {L l : List Nat} {f : Nat → va_E} {e : va_E} (h : ∀ a, a ∈ l → a ∉ L) : va_pl L f ++ l.map (fun a => (a, e)) = va_pl (L ++ l) (vr_up f l e) := by
  unfold va_pl
  rw [List.map_append]
  congr 1
  · apply List.map_congr_left
    intro a ha
    rw [vr_up_ne (fun q => h a q ha)]
  · apply List.map_congr_left
    intro a ha
    rw [vr_up_in ha]
theorem vr_lay {X rows : va_W} {x : Nat × va_E} {pl : va_W} {D : va_G} {cl : List vw_C} {H : Heap} (hP : va_P D cl (((X ++ pl) ++ [x]) ++ rows) H) : va_P D cl ((X ++ [x]) ++ (pl ++ rows)) H := by
  rw [List.append_assoc (X ++ pl)] at hP
  have h := va_P.swap hP
  rw [← List.append_assoc X] at h
  have h2 := va_P.swap h
  rw [List.append_assoc (X ++ [x])] at h2
  exact h2
theorem vr_layD {X rows : va_W} {x : Nat × va_E} {pl : va_W} {A : Nat → Prop} (hD : va_D A (((X ++ pl) ++ [x]) ++ rows)) : va_D A ((X ++ [x]) ++ (pl ++ rows)) := by
  rw [List.append_assoc (X ++ pl)] at hD
  have h := va_D.swap hD
  rw [← List.append_assoc X] at h
  have h2 := va_D.swap h
  rw [List.append_assoc (X ++ [x])] at h2
  exact h2
theorem vr_outer (c : ClassId) (N h0 : Nat) : ∀ i : Nat, Jvm.Free.Multi.outerC c N h0 i = arrV c N (fun j => va_rf (if j < i then some (h0 + 1 + j) else none))
  | 0 => by
    show ({ cls := c, slots := Array.replicate N .null, vm := .none } : Cell) = _
    rw [arrV_new]
    refine congrArg (arrV c N) (funext fun j => ?_)
    simp [va_rf]
  | i + 1 => by
    show (Jvm.Free.Multi.outerC c N h0 i).setSlot i (.ref (h0 + 1 + i)) = _
    rw [vr_outer c N h0 i, arrV_store]
    refine congrArg (arrV c N) (funext fun j => ?_)
    by_cases e : j = i
    · subst e
      simp [updV, va_rf]
    · by_cases h : j < i
      · simp [updV, e, h, Nat.lt_succ_of_lt h]
      · simp [updV, e, h, show ¬ j < i + 1 by omega]
section VGM
variable {p : Program} {l : Launch} {e : Env} {R : Room} {s : State} {m : MethodId} {args : Array Value} {below : List Frame} {meth : Method} {c : Code} {H : Heap} {locs : List Loc} {cells slots : Nat} {Q : State → Prop}
variable {cc : ByteArray} {pc : Nat} {ls : Array Slot} {rest : List Value} {D : va_G} {cl : List vw_C} {A : Nat → Prop} {a : Nat} {tys : List (ClassId × FieldType)} {ws : va_W} {H0 : Heap}
theorem va_mna {X : va_W} {L : List Nat} {f : Nat → va_E} {cc : ByteArray} (hexec : p.tables.exec = Jvm.exec) (hb : c.code = cc) {own : String} {index : Nat} {ty : FieldType} {cy : ClassId} (hown : s.vm.findClass own = some m.cls) (hclink : (Cond.classLink own index ("[" ++ (FieldType.array ty).toString)).before args s = true) (hover : va_AOA ty s) (harr : (Cond.arrayClass ty).before args s = true) (hcy : s.vm.findClass (FieldType.array ty).toString = some cy)
    (hK : va_K D cl tys s) (hP : va_P D cl (X ++ va_pl L f) H) (hD : va_D A (X ++ va_pl L f)) (hS : va_S A H0 H locs) (hA : ∀ q, H0.size ≤ q → A q) {n k : Int32} {N' K' : Nat} {z : vp_A} (hn : ¬ n < 0) (hk : ¬ k < 0) (hN : n.toNatClampNeg = N') (hM : k.toNatClampNeg = K')
    (hb1 : N' * 4 ≤ 536870912) (hb2 : K' * componentBytes ty ≤ 536870912) (hb3 : K' ≤ 536870912) (hdf : fits ty (defaultValue ty) = true) (hdd : (defaultValue ty).isDefault = true) (hcells : cells + (1 + N') ≤ R.cells) (hslots : slots + (N' + N' * K') ≤ R.slots) (hz : ∀ c : ClassId, Jvm.Free.Multi.innerC c K' (defaultValue ty) = vp_cell c z) (hdg : decode cc pc = .ok (.multianewarray index 2, 4))
    (kk : ∀ (q : Nat) (r : Nat → Nat) (cA : ClassId) (H1 : Heap), (∀ i j : Nat, i < N' → j < N' → r i = r j → i = j) → (∀ i : Nat, i < N' → r i ∉ L) → va_K D cl (tys ++ [(cA, .array ty)]) s →
      va_P D cl ((X ++ [(q, .inl (cA, N', .inr (.inr (.inr (.inr (fun i => if i < N' then some (r i) else none))))))]) ++ va_pl (L ++ (List.range N').map r) (vr_up f ((List.range N').map r) (.inl (cy, z)))) H1 → va_D A ((X ++ [(q, .inl (cA, N', .inr (.inr (.inr (.inr (fun i => if i < N' then some (r i) else none))))))]) ++ va_pl (L ++ (List.range N').map r) (vr_up f ((List.range N').map r) (.inl (cy, z)))) → va_S A H0 H1 locs →
      W p l e R s m args below meth c H1 locs (cells + 1 + N') (slots + N' + N' * K') Q (F0 m (pc + 4) ls (.ref q :: rest))) : W p l e R s m args below meth c H locs cells slots Q (F0 m pc ls (.int k :: .int n :: rest)) := by
  subst hN
  subst hM
  intro T hT Xs
  obtain ⟨vm₁, cA, comp, -, fA, fC, hO, -, X', step⟩ := Xs.multianewarray2F hexec hown hclink (va_AOA.use hover) harr (g := F0 m pc ls (.int k :: .int n :: rest)) rfl (by rw [hb]; exact hdg) rfl hn hk hb1 hb2 hb3 hdf hdd hcells hslots
  have ec : some cy = some comp := hcy.symm.trans fC
  cases ec
  generalize hF : Jvm.Free.Multi.fill (T.setVm vm₁) cA cy n.toNatClampNeg k.toNatClampNeg (defaultValue ty) n.toNatClampNeg = F at X' step
  have hTh : (T.setVm vm₁).heap = H := hT
  obtain ⟨f1, f2, -, -⟩ := Jvm.Free.Multi.fill_facts (T.setVm vm₁) cA cy n.toNatClampNeg k.toNatClampNeg (defaultValue ty) n.toNatClampNeg
  rw [hF, hTh] at f1 f2
  have hold : ∀ x : Nat, x < H.size → F.heap[x]? = H[x]? := fun x hx => by
    have := Jvm.Free.Multi.fill_old (T.setVm vm₁) cA cy n.toNatClampNeg k.toNatClampNeg (defaultValue ty) (a := x) (by rw [hTh]; exact hx) n.toNatClampNeg
    rw [hF, hTh] at this
    exact this
  have hrow : ∀ j : Nat, j < n.toNatClampNeg → F.heap[H.size + 1 + j]? = some (vp_cell cy z) := fun j hj => by
    have := Jvm.Free.Multi.fill_inner (T.setVm vm₁) cA cy n.toNatClampNeg k.toNatClampNeg (defaultValue ty) n.toNatClampNeg j hj
    rw [hF, hTh, hz] at this
    exact this
  have hout : Jvm.Free.Multi.outerC cA n.toNatClampNeg H.size n.toNatClampNeg = vp_cell cA (n.toNatClampNeg, .inr (.inr (.inr (.inr (fun i => if i < n.toNatClampNeg then some (H.size + 1 + i) else none))))) := by
    rw [vp_cell_q]
    exact vr_outer cA n.toNatClampNeg H.size n.toNatClampNeg
  rw [hout] at f2
  have hlt : ∀ a, a ∈ L → a < H.size := fun a ha => by
    obtain ⟨k9, hk9⟩ := va_pl_get (X := X) (f := f) ha
    exact (hP k9 _ hk9).lt
  have hnl : ∀ i : Nat, i < n.toNatClampNeg → H.size + 1 + i ∉ L := fun i _ h => by
    have := hlt _ h
    omega
  have hnm : ∀ a, a ∈ (List.range n.toNatClampNeg).map (fun i => H.size + 1 + i) → a ∉ L := fun a ha h => by
    obtain ⟨i, -, rfl⟩ := List.mem_map.mp ha
    have := hlt _ h
    omega
  have hP0 : va_P D cl (X ++ va_pl L f) F.heap := hP.kept (fun k9 x hx => hold x.1 ((hP k9 x hx).lt))
  have hP1 : va_P D cl ((X ++ va_pl L f) ++ [(H.size, .inl (cA, n.toNatClampNeg, .inr (.inr (.inr (.inr (fun i => if i < n.toNatClampNeg then some (H.size + 1 + i) else none))))))]) F.heap := hP0.app (fun k9 x hx => by
    have h0 : k9 < 1 := (List.getElem?_eq_some_iff.mp hx).1
    rw [show k9 = 0 by omega] at hx
    cases hx
    exact f2)
  have hP2 : va_P D cl (((X ++ va_pl L f) ++ [(H.size, .inl (cA, n.toNatClampNeg, .inr (.inr (.inr (.inr (fun i => if i < n.toNatClampNeg then some (H.size + 1 + i) else none))))))]) ++ ((List.range n.toNatClampNeg).map (fun i => H.size + 1 + i)).map (fun a => (a, .inl (cy, z)))) F.heap := hP1.app (fun k9 x hx => by
    obtain ⟨a, ha, rfl⟩ := List.mem_map.mp (List.mem_of_getElem? hx)
    obtain ⟨i, hi, rfl⟩ := List.mem_map.mp ha
    exact hrow i (List.mem_range.mp hi))
  have hD2 : va_D A (((X ++ va_pl L f) ++ [(H.size, .inl (cA, n.toNatClampNeg, .inr (.inr (.inr (.inr (fun i => if i < n.toNatClampNeg then some (H.size + 1 + i) else none))))))]) ++ ((List.range n.toNatClampNeg).map (fun i => H.size + 1 + i)).map (fun a => (a, .inl (cy, z)))) := by
    have hD1 := hD.push (e := .inl (cA, n.toNatClampNeg, .inr (.inr (.inr (.inr (fun i => if i < n.toNatClampNeg then some (H.size + 1 + i) else none)))))) hP rfl (hA _ hS.1)
    generalize hW1 : (X ++ va_pl L f) ++ [(H.size, .inl (cA, n.toNatClampNeg, .inr (.inr (.inr (.inr (fun i => if i < n.toNatClampNeg then some (H.size + 1 + i) else none))))))] = W1 at hD1 hP1 ⊢
    have hle : ∀ (k9 : Nat) (x : Nat × va_E), W1[k9]? = some x → x.1 ≤ H.size := fun k9 x hx => by
      rw [← hW1] at hx
      by_cases hl : k9 < (X ++ va_pl L f).length
      · rw [List.getElem?_append_left hl] at hx
        exact Nat.le_of_lt ((hP k9 x hx).lt)
      · rw [List.getElem?_append_right (by omega)] at hx
        have h0 : k9 - (X ++ va_pl L f).length < 1 := (List.getElem?_eq_some_iff.mp hx).1
        rw [show k9 - (X ++ va_pl L f).length = 0 by omega] at hx
        cases hx
        exact Nat.le_refl _
    have hr : ∀ (k9 : Nat) (x : Nat × va_E), (((List.range n.toNatClampNeg).map (fun i => H.size + 1 + i)).map (fun a => ((a, .inl (cy, z)) : Nat × va_E)))[k9]? = some x → x.1 = H.size + 1 + k9 := fun k9 x hx => by
      rw [List.getElem?_map, List.getElem?_map] at hx
      by_cases h9 : k9 < n.toNatClampNeg
      · rw [List.getElem?_range h9] at hx
        cases hx
        rfl
      · have hn0 : (List.range n.toNatClampNeg)[k9]? = none := List.getElem?_eq_none (by rw [List.length_range]; omega)
        rw [hn0] at hx
        cases hx
    refine ⟨fun i j x y hi hj hxy => ?_, fun k9 x hx => ?_⟩
    · by_cases h1 : i < W1.length <;> by_cases h2 : j < W1.length
      · rw [List.getElem?_append_left h1] at hi
        rw [List.getElem?_append_left h2] at hj
        exact hD1.1 i j x y hi hj hxy
      · rw [List.getElem?_append_left h1] at hi
        rw [List.getElem?_append_right (by omega)] at hj
        have := hle _ _ hi
        have := hr _ _ hj
        omega
      · rw [List.getElem?_append_right (by omega)] at hi
        rw [List.getElem?_append_left h2] at hj
        have := hle _ _ hj
        have := hr _ _ hi
        omega
      · rw [List.getElem?_append_right (by omega)] at hi hj
        have := hr _ _ hi
        have := hr _ _ hj
        omega
    · by_cases h1 : k9 < W1.length
      · rw [List.getElem?_append_left h1] at hx
        exact hD1.2 k9 x hx
      · rw [List.getElem?_append_right (by omega)] at hx
        have := hr _ _ hx
        exact hA _ (by have := hS.1; omega)
  have hAr : ArrOfT s cA (.array ty) := fun N9 z9 => by
    obtain ⟨-, k9, hk9, cm9, hkk9⟩ := (hO 0 0 0).1
    exact ⟨(fun q hq => by cases hq), k9, hk9, cm9, hkk9⟩
  have hK2 : va_K D cl (tys ++ [(cA, .array ty)]) s := ⟨hK.1, fun k9 x hx => by
    by_cases hl : k9 < tys.length
    · rw [List.getElem?_append_left hl] at hx
      exact hK.2 k9 x hx
    · rw [List.getElem?_append_right (by omega)] at hx
      have h0 : k9 - tys.length < 1 := (List.getElem?_eq_some_iff.mp hx).1
      rw [show k9 - tys.length = 0 by omega] at hx
      cases hx
      exact ⟨hAr, fA⟩⟩
  obtain ⟨t, a1, b1⟩ := kk H.size (fun i => H.size + 1 + i) cA F.heap (fun i j _ _ h => by have h9 : H.size + 1 + i = H.size + 1 + j := h; omega) hnl hK2 (by rw [← vr_rows hnm]; exact vr_lay hP2) (by rw [← vr_rows hnm]; exact vr_layD hD2) ⟨by rw [f1]; have := hS.1; omega, fun x h1 h2 => (hold x (Nat.lt_of_lt_of_le h1 hS.1)).trans (hS.2.1 x h1 h2), hS.2.2⟩ F rfl X'
  refine ⟨t, step t ?_, b1⟩
  have e : T.heap.size = H.size := by rw [hT]
  rw [e]
  exact a1
end VGM
/-! ===== END ===== -/

/-! ===== BEGIN exceptions that leave a method, and their catching by the caller (launches without stack traces) ===== -/
section VXA
/-! The laws vx_back, vx_callV, vx_callS, vx_callSW, vx_throw0, vx_throwS follow proofs of the library, with one case more: JvmDerived/Free/Laws.lean (Back.of_free), Shelf42/LK1.lean (callV, callS), Shelf/KitTraced.lean (throwNew0V, throwNewS). -/
/-- where a method has thrown q: the class by its name, the cell, what was written, the world -/
def vx_T (XC : String → State → State → Prop) (st : State) (q : Addr) (t : State) (mc ms : Nat) (free : Addr → Prop) : Prop :=
  ∃ (E : String) (ce : Cell) (L : List Loc), XC E st t ∧ t.heap[q]? = some ce ∧ ce.vm = .none ∧ st.vm.findClass E = some ce.cls ∧ st.WarmedH t.vm ∧ st.sameButNew ({ t with vm := st.vm } : State) L mc ms ∧ ∀ z ∈ L, free z.base
def vx_Q (Qc : Array Value → State → Outcome → State → Prop) (XC : String → State → State → Prop) (mc ms : Nat) (free : Addr → Prop) : Array Value → State → Outcome → State → Prop := fun a st o t =>
  (Qc a st o t ∧ ∃ L, FrameEnd st o t L mc ms ∧ ∀ q ∈ L, free q.base) ∨ ∃ q, o = .threw q ∧ vx_T XC st q t mc ms free
/-- a callee that returns or throws -/
def vx_Met (l : Launch) (y : MethodName) (ws : List Cond) (rm : Room) (Pc : Array Value → State → Prop) (Qc : Array Value → State → Outcome → State → Prop) (XC : String → State → State → Prop) (mc ms : Nat) (free : Addr → Prop) : Prop :=
  MetFree l y (headSpec ws rm) Pc (fun _ _ _ _ _ => True) (vx_Q Qc XC mc ms free)
def vx_Post (XC : String → State → State → Prop) (mc ms : Nat) (free : Addr → Prop) : Pt → Array Value → Addr → Pt → Prop := fun A a q B =>
  ∃ (g : JFrame) (mk : MethodId) (t : State) (L : List Loc) (E : String) (ce : Cell), B.U.heap = t.heap ∧ B.U.vm = t.vm ∧ XC E (A.U.calling g mk a) t ∧ t.heap[q]? = some ce ∧ ce.vm = .none ∧ A.U.vm.findClass E = some ce.cls ∧ B.locs = A.locs ++ L ∧ (∀ z ∈ L, free z.base) ∧ B.cells = A.cells + mc ∧ B.slots = A.slots + ms
def vx_Back (l : Launch) (R : Room) (p : Program) (e : Env) (below : List Frame) (s : State) (sargs : Array Value) (y : MethodName) (len W9 : Nat)
    (Pre : Pt → Array Value → Prop) (Post : Pt → Array Value → Option Value → Pt → Prop) (PostX : Pt → Array Value → Addr → Pt → Prop) : Prop :=
  ∀ (m : MethodId) (meth : Method) (c : Code) (A : Pt) (g : JFrame) (ig : Instr) (mk : MethodId) (a : Array Value),
    Stand p l e R s m sargs below meth c A.U A.locs A.cells A.slots → g.method = m → g.locals.size = c.maxLocals → decode c.code g.pc = .ok (ig, len) →
    2 * g.monitorRoom + (g.stack.map fun v => v.category).sum ≤ W9 → A.U.methodNamed? y = some mk → Pre A a →
    (∃ (v : Option Value) (B : Pt), Stand p l e R s m sargs below meth c B.U B.locs B.cells B.slots ∧ Post A a v B ∧
      Steps p.tables e below (doInvoke e (A.U.setTop g) [] mk a).1 (B.U.setTop { g with pc := g.pc + len, stack := v.toList ++ g.stack })) ∨
    (∃ (q : Addr) (B : Pt), Stand p l e R s m sargs below meth c B.U B.locs B.cells B.slots ∧ PostX A a q B ∧
      Steps p.tables e below (doInvoke e (A.U.setTop g) [] mk a).1 ((B.U.setTop g).pushFrame (.throwing q)))
section Payer
variable {l : Launch} {R : Room} {p : Program} {e : Env} {below : List Frame} {s : State} {sargs : Array Value} {y : MethodName} {len W9 : Nat}
theorem vx_back {ws : List Cond} {rm : Room} {Pc : Array Value → State → Prop} {Qc : Array Value → State → Outcome → State → Prop} {XC : String → State → State → Prop} {mc ms : Nat} {free : Addr → Prop} {bytes : ByteArray} {maxL : Nat} {ret : Option FieldType}
    (hM : vx_Met l y ws rm Pc Qc XC mc ms free) (hblind : FrameBlind Pc) (hrc : rm.cells = mc) (hrs : rm.slots = ms)
    (hframes : rm.frames + 1 ≤ R.frames) (hlocals : W9 + (maxL + 11) + rm.locals ≤ R.locals)
    (hws : ∀ w ∈ ws, ∀ a' U, s.WarmedH U.vm → w.before a' U = true) (hcode : Cond.code y bytes maxL ret ∈ ws) (hinit : ∀ a' U, s.WarmedH U.vm → (Cond.initialized y.cls).before a' U = true) :
    vx_Back l R p e below s sargs y len W9 (PreOf R mc ms Pc) (PostOf Qc mc ms free) (vx_Post XC mc ms free) := by
  intro m meth c A g ig mk a X hg hsize hdg hW hn hp
  have h1 : (headSpec ws rm).pre.before a A.U = true := atoms_intro fun w hw => hws w hw _ _ X.warmed
  have h2 : (Cond.code y bytes maxL ret).before a A.U = true := hws _ hcode _ _ X.warmed
  have h3 : (Cond.initialized y.cls).before a A.U = true := hinit _ _ X.warmed
  have h4 : A.cells + (headSpec ws rm).room.cells ≤ R.cells := by rw [show (headSpec ws rm).room.cells = mc from hrc]; exact hp.1
  have h5 : A.slots + (headSpec ws rm).room.slots ≤ R.slots := by rw [show (headSpec ws rm).room.slots = ms from hrs]; exact hp.2.1
  have hPc : Pc a (A.U.calling g mk a) := hblind _ _ _ _ hp.2.2
  obtain ⟨U, Ls, c0, s0⟩ := A
  dsimp only [Pt.U, Pt.locs, Pt.cells, Pt.slots] at h1 h2 h3 h4 h5 X hn hPc ⊢
  obtain ⟨methY, cY, hmY, hcY, -, hlY, -, -, -, -⟩ := Cond.code_spec hn h2
  obtain ⟨kY, hkY, -⟩ := className_of_methodNamed hn
  have hinitY : kY.init = .initialized := Cond.initialized_spec (findClass_of_methodNamed hn) hkY h3
  have h : At U g.method c below := by rw [hg]; exact X.here
  have hlocals9 : W9 + (maxL + 11) + (headSpec ws rm).room.locals ≤ R.locals := hlocals
  have happ : (headSpec ws rm).appliesLoose y e.platform (U.calling g mk a) = true :=
    Spec.appliesLoose_calling (g := g) h hdg hn hkY hinitY
      (X.room_calling (g := g) (R' := (headSpec ws rm).room) hsize hmY hcY hframes (by rw [hlY]; omega) h4 h5) h1
  obtain ⟨mid, hmid⟩ := h.above
  have hfr : (U.setTop g).frames = (.java g :: mid) ++ below := by rw [State.frames_setTop' g h.top, hmid]; rfl
  obtain ⟨o, s₂, hsteps, -, hend, hq⟩ := Steps.callFree hM p X.admits X.cas X.clock (acts := []) hfr happ hPc trivial
  have hq' : vx_Q Qc XC mc ms free a (U.calling g mk a) o s₂ := hq
  rw [State.frames_setTop' g h.top] at hend
  obtain ⟨g₀, hg0⟩ := Option.isSome_iff_exists.mp h.top
  obtain ⟨r, hr⟩ := State.topJava?_eq_some.mp hg0
  have hr' : (({ U with heap := s₂.heap, slotsUsed := s₂.slotsUsed } : State).setVm s₂.vm).frames = .java g₀ :: r := hr
  rcases hq' with ⟨hqc, L, hfe, hL⟩ | ⟨q, rfl, E, ce, L, hx, hce, hcv, hcl, hW₂, hsm, hL⟩
  · obtain ⟨⟨v, rfl⟩, hW₂, e2, q2, q3, q4, q5, q6⟩ := id hfe
    have e3 : s₂ = ({ (U.calling g mk a).setFrames s₂.frames with heap := s₂.heap, slotsUsed := s₂.slotsUsed } : State).setVm s₂.vm := by
      have : s₂ = ({ s₂ with vm := (U.calling g mk a).vm } : State).setVm s₂.vm := rfl
      rw [e2] at this
      exact this
    obtain ⟨c₂, i₂, len₂, hc₂, hd₂, hf₂⟩ := hend
    have hW' : U.WarmedH s₂.vm := hW₂
    have hcc : c₂ = c := by
      have h1 : s₂.code? g.method = U.code? g.method := by
        rw [State.code?_eq, State.code?_eq, hW'.alike.method?]
      exact Option.some.inj (hc₂.symm.trans (h1.trans h.code))
    subst hcc
    have hlen : len₂ = len := by rw [hdg] at hd₂; cases hd₂; rfl
    subst hlen
    have hs₂ : s₂ = (({ U with heap := s₂.heap, slotsUsed := s₂.slotsUsed } : State).setVm s₂.vm).setTop { g with pc := g.pc + len₂, stack := v.toList ++ g.stack } := by
      refine e3.trans ?_
      rw [hf₂, State.calling_eq h.top, State.setFrames_setFrames, State.setTop_of_frames _ hr', hr]
      rfl
    have hsame : U.sameButNew ({ U with heap := s₂.heap, slotsUsed := s₂.slotsUsed } : State) L mc ms := by
      refine ⟨?_, q2, q3, q4, q5, q6⟩
      obtain ⟨t, ht, -⟩ := State.frames_cons hr
      show ({ U with heap := s₂.heap, slotsUsed := s₂.slotsUsed } : State) = { U.setFrames U.frames with heap := s₂.heap, slotsUsed := s₂.slotsUsed }
      rw [State.setFrames_self ht]
    subst hg
    refine Or.inl ⟨v, ⟨(({ U with heap := s₂.heap, slotsUsed := s₂.slotsUsed } : State).setVm s₂.vm), Ls ++ L, c0 + mc, s0 + ms⟩,
      ⟨X.admits, X.cas, X.clock, X.frames, X.room, X.hears, X.method, X.code, (X.here.setHeapUsed s₂.heap s₂.slotsUsed).setVm hW'.alike, X.tail, State.WarmedH.trans X.warmed hW', X.limits, X.bytes, X.same.trans (hsame.setVm s.vm)⟩,
      ⟨g, mk, s₂, L, rfl, rfl, hqc, rfl, hL, rfl, rfl⟩, ?_⟩
    show Steps p.tables e below _ ((({ U with heap := s₂.heap, slotsUsed := s₂.slotsUsed } : State).setVm s₂.vm).setTop { g with pc := g.pc + len₂, stack := v.toList ++ g.stack })
    rw [← hs₂]
    exact hsteps
  · obtain ⟨e2, q2, q3, q4, q5, q6⟩ := id hsm
    have e3 : s₂ = ({ (U.calling g mk a).setFrames s₂.frames with heap := s₂.heap, slotsUsed := s₂.slotsUsed } : State).setVm s₂.vm := by
      have : s₂ = ({ s₂ with vm := (U.calling g mk a).vm } : State).setVm s₂.vm := rfl
      rw [e2] at this
      exact this
    have hf₂ : s₂.frames = .throwing q :: .java g :: U.frames.tail := hend
    have hW' : U.WarmedH s₂.vm := hW₂
    have hs₂ : s₂ = ((({ U with heap := s₂.heap, slotsUsed := s₂.slotsUsed } : State).setVm s₂.vm).setTop g).pushFrame (.throwing q) := by
      refine e3.trans ?_
      rw [hf₂, State.calling_eq h.top, State.setFrames_setFrames, State.pushFrame, State.frames_setTop _ hr', State.setTop_of_frames _ hr', State.setFrames_setFrames, hr]
      rfl
    have hsame : U.sameButNew ({ U with heap := s₂.heap, slotsUsed := s₂.slotsUsed } : State) L mc ms := by
      refine ⟨?_, q2, q3, q4, q5, q6⟩
      obtain ⟨t, ht, -⟩ := State.frames_cons hr
      show ({ U with heap := s₂.heap, slotsUsed := s₂.slotsUsed } : State) = { U.setFrames U.frames with heap := s₂.heap, slotsUsed := s₂.slotsUsed }
      rw [State.setFrames_self ht]
    subst hg
    refine Or.inr ⟨q, ⟨(({ U with heap := s₂.heap, slotsUsed := s₂.slotsUsed } : State).setVm s₂.vm), Ls ++ L, c0 + mc, s0 + ms⟩,
      ⟨X.admits, X.cas, X.clock, X.frames, X.room, X.hears, X.method, X.code, (X.here.setHeapUsed s₂.heap s₂.slotsUsed).setVm hW'.alike, X.tail, State.WarmedH.trans X.warmed hW', X.limits, X.bytes, X.same.trans (hsame.setVm s.vm)⟩,
      ⟨g, mk, s₂, L, E, ce, rfl, rfl, hx, hce, hcv, hcl, rfl, hL, rfl, rfl⟩, ?_⟩
    show Steps p.tables e below _ (((({ U with heap := s₂.heap, slotsUsed := s₂.slotsUsed } : State).setVm s₂.vm).setTop g).pushFrame (.throwing q))
    rw [← hs₂]
    exact hsteps
end Payer
section Calls
variable {p : Program} {l : Launch} {e : Env} {R : Room} {s : State} {m : MethodId} {args : Array Value} {below : List Frame} {meth : Method} {c : Code} {T : State} {locs : List Loc} {cells slots : Nat}
theorem vx_callV (X : Stand p l e R s m args below meth c T locs cells slots) (hexec : p.tables.exec = Jvm.exec) {own C : String} {index : Nat} {y : MethodName} {bytes : ByteArray} {maxL : Nat} {ret : Option FieldType}
    (hown : s.vm.findClass own = some m.cls) (hlink : (Cond.methodLink own index y).before args s = true) (hinst : (Cond.instanceMethod y).before args s = true) (hsel : (Cond.selects C y y).before args s = true)
    (hcode : (Cond.code y bytes maxL ret).before args s = true) (hy : y.cls ≠ "java/lang/invoke/MethodHandle" ∧ y.cls ≠ "java/lang/invoke/VarHandle")
    {W9 : Nat} {Pre : Pt → Array Value → Prop} {Post : Pt → Array Value → Option Value → Pt → Prop} {PostX : Pt → Array Value → Addr → Pt → Prop} (hK : vx_Back l R p e below s args y 3 W9 Pre Post PostX)
    {b : Addr} {cellB : Cell} (hcell : T.heap[b]? = some cellB) (hobj : cellB.vm.isStatics = false) (hcls : s.vm.findClass C = some cellB.cls)
    {g : JFrame} (hg : g.method = m) (hsize : g.locals.size = c.maxLocals) {argsL rest : List Value} (hlen : ∀ sig, parseMethodDescriptor y.desc = some sig → argsL.length = sig.parameters.length)
    (hstack : g.stack = argsL.reverse ++ .ref b :: rest) (hW : 2 * g.monitorRoom + (rest.map fun v => v.category).sum ≤ W9) (hdg : decode c.code g.pc = .ok (.invokevirtual index, 3))
    (hpre : ∀ vm₁, s.WarmedH vm₁ → Pre ⟨T.setVm vm₁, locs, cells, slots⟩ (Value.ref b :: argsL).toArray) :
    (∃ (v : Option Value) (vm₁ : Vm) (B : Pt), s.WarmedH vm₁ ∧ Stand p l e R s m args below meth c B.U B.locs B.cells B.slots ∧ Post ⟨T.setVm vm₁, locs, cells, slots⟩ (Value.ref b :: argsL).toArray v B ∧
      ∀ target, Steps p.tables e below (B.U.setTop { g with pc := g.pc + 3, stack := v.toList ++ rest }) target → Steps p.tables e below (T.setTop g) target) ∨
    (∃ (q : Addr) (vm₁ : Vm) (B : Pt), s.WarmedH vm₁ ∧ Stand p l e R s m args below meth c B.U B.locs B.cells B.slots ∧ PostX ⟨T.setVm vm₁, locs, cells, slots⟩ (Value.ref b :: argsL).toArray q B ∧
      Steps p.tables e below (T.setTop g) ((B.U.setTop { g with stack := rest }).pushFrame (.throwing q))) := by
  obtain ⟨mk, methM, hnamed, hmethM, hstM, habM⟩ := Cond.instanceMethod_spec hinst
  obtain ⟨methM', cM, hmethM', -, -, -, -, -, -, hsigM⟩ := Cond.code_spec hnamed hcode
  cases hmethM.symm.trans hmethM'
  obtain ⟨c2, r2, m2, q1, q2, q3, q4, kP, hkP, hkPi⟩ := Cond.selects_spec hsel
  cases hcls.symm.trans q1
  cases (State.methodFound?_of_named hnamed hy).symm.trans q2
  cases hnamed.symm.trans q3
  have hselP : selectMethod e.platform s.vm cellB.cls mk = .method mk := by rw [Launch.admits_selectMethod X.admits]; exact q4
  obtain ⟨vm₁, X₁, hstep₁⟩ := X.invokevirtual hexec hown hlink hnamed hmethM hstM hkP hkPi hy (a := b) (cell := cellB) hcell
    (fun z h => by rw [h] at hobj; cases hobj) hselP hmethM habM hkP hkPi (g := g) hg (argsL := argsL) (rest := rest) (hlen _ hsigM) hstack hdg
  rcases hK m meth c ⟨T.setVm vm₁, locs, cells, slots⟩ { g with stack := rest } (.invokevirtual index) mk (Value.ref b :: argsL).toArray X₁ hg hsize hdg hW (X₁.named hnamed) (hpre vm₁ X₁.warmed) with ⟨v, B, X', hpost, hsteps⟩ | ⟨q, B, X', hpost, hsteps⟩
  · exact Or.inl ⟨v, vm₁, B, X₁.warmed, X', hpost, fun target h => hstep₁ _ fun acts => by rw [doInvoke_state]; exact hsteps.trans h⟩
  · exact Or.inr ⟨q, vm₁, B, X₁.warmed, X', hpost, hstep₁ _ fun acts => by rw [doInvoke_state]; exact hsteps⟩
theorem vx_callS (X : Stand p l e R s m args below meth c T locs cells slots) (hexec : p.tables.exec = Jvm.exec) {own : String} {index : Nat} {y : MethodName} {bytes : ByteArray} {maxL : Nat} {ret : Option FieldType}
    (hown : s.vm.findClass own = some m.cls) (hlink : (Cond.methodLink own index y).before args s = true) (hstat : (Cond.static y).before args s = true) (hinit : (Cond.initialized y.cls).before args s = true)
    (hcode : (Cond.code y bytes maxL ret).before args s = true) (hy : y.cls ≠ "java/lang/invoke/MethodHandle" ∧ y.cls ≠ "java/lang/invoke/VarHandle")
    {W9 : Nat} {Pre : Pt → Array Value → Prop} {Post : Pt → Array Value → Option Value → Pt → Prop} {PostX : Pt → Array Value → Addr → Pt → Prop} (hK : vx_Back l R p e below s args y 3 W9 Pre Post PostX)
    {g : JFrame} (hg : g.method = m) (hsize : g.locals.size = c.maxLocals) {argsL rest : List Value} (hlen : ∀ sig, parseMethodDescriptor y.desc = some sig → argsL.length = sig.parameters.length)
    (hstack : g.stack = argsL.reverse ++ rest) (hW : 2 * g.monitorRoom + (rest.map fun v => v.category).sum ≤ W9) (hdg : decode c.code g.pc = .ok (.invokestatic index, 3))
    (hpre : ∀ vm₁, s.WarmedH vm₁ → Pre ⟨T.setVm vm₁, locs, cells, slots⟩ argsL.toArray) :
    (∃ (v : Option Value) (vm₁ : Vm) (B : Pt), s.WarmedH vm₁ ∧ Stand p l e R s m args below meth c B.U B.locs B.cells B.slots ∧ Post ⟨T.setVm vm₁, locs, cells, slots⟩ argsL.toArray v B ∧
      ∀ target, Steps p.tables e below (B.U.setTop { g with pc := g.pc + 3, stack := v.toList ++ rest }) target → Steps p.tables e below (T.setTop g) target) ∨
    (∃ (q : Addr) (vm₁ : Vm) (B : Pt), s.WarmedH vm₁ ∧ Stand p l e R s m args below meth c B.U B.locs B.cells B.slots ∧ PostX ⟨T.setVm vm₁, locs, cells, slots⟩ argsL.toArray q B ∧
      Steps p.tables e below (T.setTop g) ((B.U.setTop { g with stack := rest }).pushFrame (.throwing q))) := by
  obtain ⟨mk, hnamed⟩ := Cond.code_named hcode
  obtain ⟨methM, cM, hmethM, -, -, -, -, -, -, hsigM⟩ := Cond.code_spec hnamed hcode
  have hstatic : methM.isStatic = true := Cond.static_spec hnamed hmethM hstat
  obtain ⟨kP, hkP, -⟩ := className_of_methodNamed hnamed
  have hinitP : kP.init = .initialized := Cond.initialized_spec (findClass_of_methodNamed hnamed) hkP hinit
  obtain ⟨vm₁, X₁, hstep₁⟩ := X.invokestatic hexec hown hlink hnamed hmethM hstatic hkP hinitP hy (g := g) hg (argsL := argsL) (rest := rest) (hlen _ hsigM) hstack hdg
  rcases hK m meth c ⟨T.setVm vm₁, locs, cells, slots⟩ { g with stack := rest } (.invokestatic index) mk argsL.toArray X₁ hg hsize hdg hW (X₁.named hnamed) (hpre vm₁ X₁.warmed) with ⟨v, B, X', hpost, hsteps⟩ | ⟨q, B, X', hpost, hsteps⟩
  · exact Or.inl ⟨v, vm₁, B, X₁.warmed, X', hpost, fun target h => hstep₁ _ fun acts => by rw [doInvoke_state]; exact hsteps.trans h⟩
  · exact Or.inr ⟨q, vm₁, B, X₁.warmed, X', hpost, hstep₁ _ fun acts => by rw [doInvoke_state]; exact hsteps⟩
end Calls
theorem vx_cls {s : State} {T : State} {vm₁ : Vm} {E : String} {k : ClassId} (hW : s.WarmedH vm₁) (h : (T.setVm vm₁).vm.findClass E = some k) : s.vm.findClass E = some k := by
  have h1 : vm₁.findClass E = some k := h
  rw [hW.alike.findClass] at h1
  exact h1
/-- the method's frame g, with q thrown over it -/
def vx_W (p : Program) (l : Launch) (e : Env) (R : Room) (s : State) (m : MethodId) (args : Array Value) (below : List Frame) (meth : Method) (c : Code) (H : Heap) (locs : List Loc) (cells slots : Nat) (Q : State → Prop) (g : JFrame) (q : Addr) : Prop :=
  ∀ T : State, T.heap = H → Stand p l e R s m args below meth c T locs cells slots → ∃ t, Steps p.tables e below ((T.setTop g).pushFrame (.throwing q)) t ∧ Q t
def vx_Run (p : Program) (l : Launch) (e : Env) (R : Room) (s : State) (m : MethodId) (args : Array Value) (below : List Frame) (meth : Method) (c : Code) (H : Heap) (locs : List Loc) (cells slots mc ms : Nat) (g : JFrame) (rest : List Value) (Qa : State → Outcome → State → Prop) (XC : String → State → State → Prop) (free : Addr → Prop) : Prop :=
  ∀ T : State, T.heap = H → Stand p l e R s m args below meth c T locs cells slots →
    (∃ (v : Option Value) (st₀ t T' : State) (L : List Loc), st₀.heap = H ∧ Stand p l e R s m args below meth c T' (locs ++ L) (cells + mc) (slots + ms) ∧ (∀ q ∈ L, free q.base) ∧ T'.heap = t.heap ∧ T'.vm = t.vm ∧ Qa st₀ (.returned v) t ∧
      Goes p e below T g T' { g with pc := g.pc + 3, stack := v.toList ++ rest }) ∨
    (∃ (q : Addr) (st₀ t T' : State) (L : List Loc) (E : String) (ce : Cell), st₀.heap = H ∧ Stand p l e R s m args below meth c T' (locs ++ L) (cells + mc) (slots + ms) ∧ (∀ z ∈ L, free z.base) ∧ T'.heap = t.heap ∧ T'.vm = t.vm ∧ XC E st₀ t ∧ t.heap[q]? = some ce ∧ ce.vm = .none ∧ s.vm.findClass E = some ce.cls ∧
      Steps p.tables e below (T.setTop g) ((T'.setTop { g with stack := rest }).pushFrame (.throwing q)))
def vx_X {S : Type} (px : S → Prop) (B : String → S → State → Prop) (A : Nat → Prop) : String → State → State → Prop := fun E st t => ∃ u : S, px u ∧ B E u t ∧ va_F A st t
section Runs
variable {p : Program} {l : Launch} {e : Env} {R : Room} {s : State} {m : MethodId} {args : Array Value} {below : List Frame} {meth : Method} {c : Code} {H : Heap} {locs : List Loc} {cells slots : Nat}
variable {y : MethodName} {bytes cc : ByteArray} {maxL nL mc ms n index : Nat} {ret : Option FieldType} {ws : List Cond} {rm : Room} {Pc : Array Value → State → Prop} {Qc : Array Value → State → Outcome → State → Prop} {XC : String → State → State → Prop} {free : Addr → Prop} {Ts : List Cond} {own C : String} {b : Addr} {As rest : List Value} {g : JFrame}
theorem vx_callBack (cb : CallB R s args own index y bytes maxL ret ws rm mc ms n) (hM : vx_Met l y ws rm Pc Qc XC mc ms free) (hbl : FrameBlind Pc) : vx_Back l R p e below s args y 3 8 (PreOf R mc ms Pc) (PostOf Qc mc ms free) (vx_Post XC mc ms free) := by
  obtain ⟨hrc, hrs, hfr, hlo, hws, hcw, -, hini, -⟩ := cb
  exact vx_back (bytes := bytes) (maxL := maxL) (ret := ret) hM hbl hrc hrs hfr hlo hws hcw (fun a' U hW => word_at hW (Or.inl (by first | rfl | simp [Cond.onTables, Cond.keeps, Cond.steady])) hini)
theorem vx_runV (S : CallFix p m c cc nL s args Ts own) (hM : vx_Met l y ws rm Pc Qc XC mc ms free) (cw : CallW R s args own C index y bytes maxL ret ws rm mc ms n) (hp : PreV s H C b Pc As)
    (hg : g.method = m) (hn : As.length = n) (hsize : g.locals.size = nL) (hstack : g.stack = As.reverse ++ .ref b :: rest) (hW : 2 * g.monitorRoom + (rest.map fun v => v.category).sum ≤ 8) (hdg : decode cc g.pc = .ok (.invokevirtual index, 3)) (hf : cells + mc ≤ R.cells ∧ slots + ms ≤ R.slots) :
    vx_Run p l e R s m args below meth c H locs cells slots mc ms g rest (Qc (Value.ref b :: As).toArray) XC free := by
  have hK : vx_Back l R p e below s args y 3 8 (PreOf R mc ms Pc) (PostOf Qc mc ms free) (vx_Post XC mc ms free) := vx_callBack cw.1 hM hp.1
  obtain ⟨⟨-, -, -, -, -, -, hcode, -, hy, hlen, hl⟩, hin, hse⟩ := cw
  obtain ⟨hx, hb, hml, ho, -⟩ := S
  obtain ⟨-, ⟨cellB, hcB, hoB, hclB⟩, hPc⟩ := hp
  intro T hT X
  rcases vx_callV X hx (C := C) (bytes := bytes) (maxL := maxL) (ret := ret) ho hl hin hse hcode hy hK (by rw [hT]; exact hcB) hoB hclB hg (hsize.trans hml.symm) (argsL := As) (rest := rest) (fun sig h => hn.trans (hlen sig h)) hstack hW (by rw [hb]; exact hdg)
    (fun vm₁ hW₁ => ⟨hf.1, hf.2, hPc (T.setVm vm₁) hT hW₁⟩) with ⟨v, vm₁, ⟨U', l2, c2, s2⟩, hW₁, X', ⟨g', mk, t, L, e1, e2, hq, h1, hL, h2, h3⟩, st⟩ | ⟨q, vm₁, ⟨U', l2, c2, s2⟩, hW₁, X', ⟨g', mk, t, L, E, ce, e1, e2, hq, hce, hcv, hcl, h1, hL, h2, h3⟩, st⟩
  · dsimp only [Pt.U, Pt.locs, Pt.cells, Pt.slots] at X' e1 e2 h1 h2 h3 st
    subst h1; subst h2; subst h3
    exact Or.inl ⟨v, (T.setVm vm₁).calling g' mk (Value.ref b :: As).toArray, t, U', L, hT, X', hL, e1, e2, hq, st⟩
  · dsimp only [Pt.U, Pt.locs, Pt.cells, Pt.slots] at X' e1 e2 h1 h2 h3 st hcl
    subst h1; subst h2; subst h3
    exact Or.inr ⟨q, (T.setVm vm₁).calling g' mk (Value.ref b :: As).toArray, t, U', L, E, ce, hT, X', hL, e1, e2, hq, hce, hcv, vx_cls hW₁ hcl, st⟩
theorem vx_runS (S : CallFix p m c cc nL s args Ts own) (hM : vx_Met l y ws rm Pc Qc XC mc ms free) (cw : CallB R s args own index y bytes maxL ret ws rm mc ms n ∧ (Cond.static y).before args s = true) (hp : PreS s H Pc As)
    (hg : g.method = m) (hn : As.length = n) (hsize : g.locals.size = nL) (hstack : g.stack = As.reverse ++ rest) (hW : 2 * g.monitorRoom + (rest.map fun v => v.category).sum ≤ 8) (hdg : decode cc g.pc = .ok (.invokestatic index, 3)) (hf : cells + mc ≤ R.cells ∧ slots + ms ≤ R.slots) :
    vx_Run p l e R s m args below meth c H locs cells slots mc ms g rest (Qc As.toArray) XC free := by
  have hK : vx_Back l R p e below s args y 3 8 (PreOf R mc ms Pc) (PostOf Qc mc ms free) (vx_Post XC mc ms free) := vx_callBack cw.1 hM hp.1
  obtain ⟨⟨-, -, -, -, -, -, hcode, hini, hy, hlen, hl⟩, hstt⟩ := cw
  obtain ⟨hx, hb, hml, ho, -⟩ := S
  intro T hT X
  rcases vx_callS X hx (bytes := bytes) (maxL := maxL) (ret := ret) ho hl hstt hini hcode hy hK hg (hsize.trans hml.symm) (argsL := As) (rest := rest) (fun sig h => hn.trans (hlen sig h)) hstack hW (by rw [hb]; exact hdg)
    (fun vm₁ hW₁ => ⟨hf.1, hf.2, hp.2 (T.setVm vm₁) hT hW₁⟩) with ⟨v, vm₁, ⟨U', l2, c2, s2⟩, hW₁, X', ⟨g', mk, t, L, e1, e2, hq, h1, hL, h2, h3⟩, st⟩ | ⟨q, vm₁, ⟨U', l2, c2, s2⟩, hW₁, X', ⟨g', mk, t, L, E, ce, e1, e2, hq, hce, hcv, hcl, h1, hL, h2, h3⟩, st⟩
  · dsimp only [Pt.U, Pt.locs, Pt.cells, Pt.slots] at X' e1 e2 h1 h2 h3 st
    subst h1; subst h2; subst h3
    exact Or.inl ⟨v, (T.setVm vm₁).calling g' mk As.toArray, t, U', L, hT, X', hL, e1, e2, hq, st⟩
  · dsimp only [Pt.U, Pt.locs, Pt.cells, Pt.slots] at X' e1 e2 h1 h2 h3 st hcl
    subst h1; subst h2; subst h3
    exact Or.inr ⟨q, (T.setVm vm₁).calling g' mk As.toArray, t, U', L, E, ce, hT, X', hL, e1, e2, hq, hce, hcv, vx_cls hW₁ hcl, st⟩
end Runs
section Rows
variable {p : Program} {l : Launch} {e : Env} {R : Room} {s : State} {m : MethodId} {args : Array Value} {below : List Frame} {meth : Method} {c : Code} {H : Heap} {locs : List Loc} {cells slots : Nat} {Q : State → Prop}
variable {mc ms : Nat} {free : Addr → Prop} {A0 A1 : Nat → Prop} {H0 : Heap} {a : Array Value} {pc : Nat} {ls : Array Slot} {st0 rest : List Value}
theorem vx_keep {st₀ t T' : State} {L : List Loc} (h0 : st₀.heap = H) (e1 : T'.heap = t.heap) (hS : va_S A0 H0 H locs) (hA : ∀ q, q < H.size → A1 q → A0 q) (hf : ∀ q, free q → A0 q) (hL : ∀ q ∈ L, free q.base) (hF : va_F A1 st₀ t) :
    H.size ≤ T'.heap.size ∧ (∀ q : Nat, q < H.size → ¬ A1 q → T'.heap[q]? = H[q]?) ∧ va_S A0 H0 T'.heap (locs ++ L) := by
  obtain ⟨hz, hk⟩ := hF
  rw [h0] at hz hk
  exact ⟨by rw [e1]; exact hz, fun q h1 h2 => by rw [e1]; exact hk q h1 h2,
    ⟨Nat.le_trans hS.1 (by rw [e1]; exact hz), fun q h1 h2 => by rw [e1, hk q (Nat.lt_of_lt_of_le h1 hS.1) (fun z => h2 (hA q (Nat.lt_of_lt_of_le h1 hS.1) z))]; exact hS.2.1 q h1 h2, fun q hq => by
      rcases List.mem_append.mp hq with h | h
      · exact hS.2.2 q h
      · exact hf _ (hL q h)⟩⟩
theorem vx_calli {S SX : Type} {post : Int32 → S → Prop} {px : SX → Prop} {B : S → State → Prop} {BX : String → SX → State → Prop} {AX : Nat → Prop} (hr : vx_Run p l e R s m args below meth c H locs cells slots mc ms (F0 m pc ls st0) rest (va_Qi post B A1 a) (vx_X px BX AX) free) (hS : va_S A0 H0 H locs) (hA : ∀ q, q < H.size → A1 q → A0 q) (hf : ∀ q, free q → A0 q) (hAX : ∀ q, q < H.size → AX q → A0 q)
    (kx : ∀ (E : String) (ce : Cell) (q9 : Addr) (u : SX) (t : State) (H1 : Heap) (locs1 : List Loc), t.heap = H1 → s.vm.Alike t.vm → px u → BX E u t → H.size ≤ H1.size → (∀ q : Nat, q < H.size → ¬ AX q → H1[q]? = H[q]?) → va_S A0 H0 H1 locs1 → H1[q9]? = some ce → ce.vm = .none → s.vm.findClass E = some ce.cls → vx_W p l e R s m args below meth c H1 locs1 (cells + mc) (slots + ms) Q (F0 m pc ls rest) q9)
    (kk : ∀ (r : Int32) (u : S) (t : State) (H1 : Heap) (locs1 : List Loc), t.heap = H1 → s.vm.Alike t.vm → post r u → B u t → H.size ≤ H1.size → (∀ q : Nat, q < H.size → ¬ A1 q → H1[q]? = H[q]?) → va_S A0 H0 H1 locs1 → W p l e R s m args below meth c H1 locs1 (cells + mc) (slots + ms) Q (F0 m (pc + 3) ls (.int r :: rest))) : W p l e R s m args below meth c H locs cells slots Q (F0 m pc ls st0) := by
  intro T hT X
  rcases hr T hT X with ⟨v, st₀, t, T', L, h0, X', hL, e1, e2, ⟨⟨r, u, hv, hp, hb⟩, hF⟩, st⟩ | ⟨q, st₀, t, T', L, E, ce, h0, X', hL, e1, e2, ⟨u, hp, hb, hF⟩, hce, hcv, hcl, st⟩
  · cases hv
    obtain ⟨k1, k2, k3⟩ := vx_keep h0 e1 hS hA hf hL hF
    obtain ⟨t2, a1, b1⟩ := kk r u t T'.heap (locs ++ L) e1.symm (by rw [← e2]; exact X'.warmed.alike) hp hb k1 k2 k3 T' rfl X'
    exact ⟨t2, st t2 a1, b1⟩
  · obtain ⟨k1, k2, k3⟩ := vx_keep h0 e1 hS hAX hf hL hF
    obtain ⟨t2, a1, b1⟩ := kx E ce q u t T'.heap (locs ++ L) e1.symm (by rw [← e2]; exact X'.warmed.alike) hp hb k1 k2 k3 (by rw [e1]; exact hce) hcv hcl T' rfl X'
    exact ⟨t2, st.trans a1, b1⟩
theorem vx_calll {S SX : Type} {post : Int64 → S → Prop} {px : SX → Prop} {B : S → State → Prop} {BX : String → SX → State → Prop} {AX : Nat → Prop} (hr : vx_Run p l e R s m args below meth c H locs cells slots mc ms (F0 m pc ls st0) rest (va_Ql post B A1 a) (vx_X px BX AX) free) (hS : va_S A0 H0 H locs) (hA : ∀ q, q < H.size → A1 q → A0 q) (hf : ∀ q, free q → A0 q) (hAX : ∀ q, q < H.size → AX q → A0 q)
    (kx : ∀ (E : String) (ce : Cell) (q9 : Addr) (u : SX) (t : State) (H1 : Heap) (locs1 : List Loc), t.heap = H1 → s.vm.Alike t.vm → px u → BX E u t → H.size ≤ H1.size → (∀ q : Nat, q < H.size → ¬ AX q → H1[q]? = H[q]?) → va_S A0 H0 H1 locs1 → H1[q9]? = some ce → ce.vm = .none → s.vm.findClass E = some ce.cls → vx_W p l e R s m args below meth c H1 locs1 (cells + mc) (slots + ms) Q (F0 m pc ls rest) q9)
    (kk : ∀ (r : Int64) (u : S) (t : State) (H1 : Heap) (locs1 : List Loc), t.heap = H1 → s.vm.Alike t.vm → post r u → B u t → H.size ≤ H1.size → (∀ q : Nat, q < H.size → ¬ A1 q → H1[q]? = H[q]?) → va_S A0 H0 H1 locs1 → W p l e R s m args below meth c H1 locs1 (cells + mc) (slots + ms) Q (F0 m (pc + 3) ls (.long r :: rest))) : W p l e R s m args below meth c H locs cells slots Q (F0 m pc ls st0) := by
  intro T hT X
  rcases hr T hT X with ⟨v, st₀, t, T', L, h0, X', hL, e1, e2, ⟨⟨r, u, hv, hp, hb⟩, hF⟩, st⟩ | ⟨q, st₀, t, T', L, E, ce, h0, X', hL, e1, e2, ⟨u, hp, hb, hF⟩, hce, hcv, hcl, st⟩
  · cases hv
    obtain ⟨k1, k2, k3⟩ := vx_keep h0 e1 hS hA hf hL hF
    obtain ⟨t2, a1, b1⟩ := kk r u t T'.heap (locs ++ L) e1.symm (by rw [← e2]; exact X'.warmed.alike) hp hb k1 k2 k3 T' rfl X'
    exact ⟨t2, st t2 a1, b1⟩
  · obtain ⟨k1, k2, k3⟩ := vx_keep h0 e1 hS hAX hf hL hF
    obtain ⟨t2, a1, b1⟩ := kx E ce q u t T'.heap (locs ++ L) e1.symm (by rw [← e2]; exact X'.warmed.alike) hp hb k1 k2 k3 (by rw [e1]; exact hce) hcv hcl T' rfl X'
    exact ⟨t2, st.trans a1, b1⟩
theorem vx_callf {S SX : Type} {post : UInt32 → S → Prop} {px : SX → Prop} {B : S → State → Prop} {BX : String → SX → State → Prop} {AX : Nat → Prop} (hr : vx_Run p l e R s m args below meth c H locs cells slots mc ms (F0 m pc ls st0) rest (va_Qf post B A1 a) (vx_X px BX AX) free) (hS : va_S A0 H0 H locs) (hA : ∀ q, q < H.size → A1 q → A0 q) (hf : ∀ q, free q → A0 q) (hAX : ∀ q, q < H.size → AX q → A0 q)
    (kx : ∀ (E : String) (ce : Cell) (q9 : Addr) (u : SX) (t : State) (H1 : Heap) (locs1 : List Loc), t.heap = H1 → s.vm.Alike t.vm → px u → BX E u t → H.size ≤ H1.size → (∀ q : Nat, q < H.size → ¬ AX q → H1[q]? = H[q]?) → va_S A0 H0 H1 locs1 → H1[q9]? = some ce → ce.vm = .none → s.vm.findClass E = some ce.cls → vx_W p l e R s m args below meth c H1 locs1 (cells + mc) (slots + ms) Q (F0 m pc ls rest) q9)
    (kk : ∀ (r : UInt32) (u : S) (t : State) (H1 : Heap) (locs1 : List Loc), t.heap = H1 → s.vm.Alike t.vm → post r u → B u t → H.size ≤ H1.size → (∀ q : Nat, q < H.size → ¬ A1 q → H1[q]? = H[q]?) → va_S A0 H0 H1 locs1 → W p l e R s m args below meth c H1 locs1 (cells + mc) (slots + ms) Q (F0 m (pc + 3) ls (.float r :: rest))) : W p l e R s m args below meth c H locs cells slots Q (F0 m pc ls st0) := by
  intro T hT X
  rcases hr T hT X with ⟨v, st₀, t, T', L, h0, X', hL, e1, e2, ⟨⟨r, u, hv, hp, hb⟩, hF⟩, st⟩ | ⟨q, st₀, t, T', L, E, ce, h0, X', hL, e1, e2, ⟨u, hp, hb, hF⟩, hce, hcv, hcl, st⟩
  · cases hv
    obtain ⟨k1, k2, k3⟩ := vx_keep h0 e1 hS hA hf hL hF
    obtain ⟨t2, a1, b1⟩ := kk r u t T'.heap (locs ++ L) e1.symm (by rw [← e2]; exact X'.warmed.alike) hp hb k1 k2 k3 T' rfl X'
    exact ⟨t2, st t2 a1, b1⟩
  · obtain ⟨k1, k2, k3⟩ := vx_keep h0 e1 hS hAX hf hL hF
    obtain ⟨t2, a1, b1⟩ := kx E ce q u t T'.heap (locs ++ L) e1.symm (by rw [← e2]; exact X'.warmed.alike) hp hb k1 k2 k3 (by rw [e1]; exact hce) hcv hcl T' rfl X'
    exact ⟨t2, st.trans a1, b1⟩
theorem vx_calld {S SX : Type} {post : UInt64 → S → Prop} {px : SX → Prop} {B : S → State → Prop} {BX : String → SX → State → Prop} {AX : Nat → Prop} (hr : vx_Run p l e R s m args below meth c H locs cells slots mc ms (F0 m pc ls st0) rest (va_Qd post B A1 a) (vx_X px BX AX) free) (hS : va_S A0 H0 H locs) (hA : ∀ q, q < H.size → A1 q → A0 q) (hf : ∀ q, free q → A0 q) (hAX : ∀ q, q < H.size → AX q → A0 q)
    (kx : ∀ (E : String) (ce : Cell) (q9 : Addr) (u : SX) (t : State) (H1 : Heap) (locs1 : List Loc), t.heap = H1 → s.vm.Alike t.vm → px u → BX E u t → H.size ≤ H1.size → (∀ q : Nat, q < H.size → ¬ AX q → H1[q]? = H[q]?) → va_S A0 H0 H1 locs1 → H1[q9]? = some ce → ce.vm = .none → s.vm.findClass E = some ce.cls → vx_W p l e R s m args below meth c H1 locs1 (cells + mc) (slots + ms) Q (F0 m pc ls rest) q9)
    (kk : ∀ (r : UInt64) (u : S) (t : State) (H1 : Heap) (locs1 : List Loc), t.heap = H1 → s.vm.Alike t.vm → post r u → B u t → H.size ≤ H1.size → (∀ q : Nat, q < H.size → ¬ A1 q → H1[q]? = H[q]?) → va_S A0 H0 H1 locs1 → W p l e R s m args below meth c H1 locs1 (cells + mc) (slots + ms) Q (F0 m (pc + 3) ls (.double r :: rest))) : W p l e R s m args below meth c H locs cells slots Q (F0 m pc ls st0) := by
  intro T hT X
  rcases hr T hT X with ⟨v, st₀, t, T', L, h0, X', hL, e1, e2, ⟨⟨r, u, hv, hp, hb⟩, hF⟩, st⟩ | ⟨q, st₀, t, T', L, E, ce, h0, X', hL, e1, e2, ⟨u, hp, hb, hF⟩, hce, hcv, hcl, st⟩
  · cases hv
    obtain ⟨k1, k2, k3⟩ := vx_keep h0 e1 hS hA hf hL hF
    obtain ⟨t2, a1, b1⟩ := kk r u t T'.heap (locs ++ L) e1.symm (by rw [← e2]; exact X'.warmed.alike) hp hb k1 k2 k3 T' rfl X'
    exact ⟨t2, st t2 a1, b1⟩
  · obtain ⟨k1, k2, k3⟩ := vx_keep h0 e1 hS hAX hf hL hF
    obtain ⟨t2, a1, b1⟩ := kx E ce q u t T'.heap (locs ++ L) e1.symm (by rw [← e2]; exact X'.warmed.alike) hp hb k1 k2 k3 (by rw [e1]; exact hce) hcv hcl T' rfl X'
    exact ⟨t2, st.trans a1, b1⟩
theorem vx_callv {S SX : Type} {post : S → Prop} {px : SX → Prop} {B : S → State → Prop} {BX : String → SX → State → Prop} {AX : Nat → Prop} (hr : vx_Run p l e R s m args below meth c H locs cells slots mc ms (F0 m pc ls st0) rest (va_Qv post B A1 a) (vx_X px BX AX) free) (hS : va_S A0 H0 H locs) (hA : ∀ q, q < H.size → A1 q → A0 q) (hf : ∀ q, free q → A0 q) (hAX : ∀ q, q < H.size → AX q → A0 q)
    (kx : ∀ (E : String) (ce : Cell) (q9 : Addr) (u : SX) (t : State) (H1 : Heap) (locs1 : List Loc), t.heap = H1 → s.vm.Alike t.vm → px u → BX E u t → H.size ≤ H1.size → (∀ q : Nat, q < H.size → ¬ AX q → H1[q]? = H[q]?) → va_S A0 H0 H1 locs1 → H1[q9]? = some ce → ce.vm = .none → s.vm.findClass E = some ce.cls → vx_W p l e R s m args below meth c H1 locs1 (cells + mc) (slots + ms) Q (F0 m pc ls rest) q9)
    (kk : ∀ (u : S) (t : State) (H1 : Heap) (locs1 : List Loc), t.heap = H1 → s.vm.Alike t.vm → post u → B u t → H.size ≤ H1.size → (∀ q : Nat, q < H.size → ¬ A1 q → H1[q]? = H[q]?) → va_S A0 H0 H1 locs1 → W p l e R s m args below meth c H1 locs1 (cells + mc) (slots + ms) Q (F0 m (pc + 3) ls (rest))) : W p l e R s m args below meth c H locs cells slots Q (F0 m pc ls st0) := by
  intro T hT X
  rcases hr T hT X with ⟨v, st₀, t, T', L, h0, X', hL, e1, e2, ⟨⟨u, hv, hp, hb⟩, hF⟩, st⟩ | ⟨q, st₀, t, T', L, E, ce, h0, X', hL, e1, e2, ⟨u, hp, hb, hF⟩, hce, hcv, hcl, st⟩
  · cases hv
    obtain ⟨k1, k2, k3⟩ := vx_keep h0 e1 hS hA hf hL hF
    obtain ⟨t2, a1, b1⟩ := kk u t T'.heap (locs ++ L) e1.symm (by rw [← e2]; exact X'.warmed.alike) hp hb k1 k2 k3 T' rfl X'
    exact ⟨t2, st t2 a1, b1⟩
  · obtain ⟨k1, k2, k3⟩ := vx_keep h0 e1 hS hAX hf hL hF
    obtain ⟨t2, a1, b1⟩ := kx E ce q u t T'.heap (locs ++ L) e1.symm (by rw [← e2]; exact X'.warmed.alike) hp hb k1 k2 k3 (by rw [e1]; exact hce) hcv hcl T' rfl X'
    exact ⟨t2, st.trans a1, b1⟩
/-- caught by the row x of this method's table; the rows ahead don't take it -/
theorem vx_catch {own name : String} {E : String} {ce : Cell} {q : Addr} (hown : s.vm.findClass own = some m.cls) (pre : List ExceptionTableEntry) (x : ExceptionTableEntry) (suf : List ExceptionTableEntry) (hsplit : c.exceptionTable.toList = pre ++ x :: suf)
    (hpass : ∀ z ∈ pre, covers z pc = false ∨ (z.catchType ≠ 0 ∧ ∃ nm : String, (Cond.classLink own z.catchType nm).before args s = true ∧ va_Nc E nm s)) (hx : covers x pc = true) (h0 : x.catchType ≠ 0)
    (hlink : (Cond.classLink own x.catchType name).before args s = true) (hcast : (Cond.castable E name).before args s = true) (hcell : H[q]? = some ce) (hv : ce.vm = .none) (hcl : s.vm.findClass E = some ce.cls)
    (kk : W p l e R s m args below meth c H locs cells slots Q (F0 m x.handlerPc ls [.ref q])) : vx_W p l e R s m args below meth c H locs cells slots Q (F0 m pc ls rest) q := by
  intro T hT X
  have hpl : e.platform.magicAccessors = ({} : Platform).magicAccessors := by rw [X.admits.platform]
  obtain ⟨c3, c4, hc3, hc4, hasg⟩ := Cond.castable_spec hcast
  cases Option.some.inj (hc3.symm.trans hcl)
  obtain ⟨c5, hc5, hcl5⟩ := Cond.classLink_spec hown hlink e.platform hpl
  cases Option.some.inj (hc4.symm.trans hc5)
  obtain ⟨vm', X', st⟩ := X.thenCaughtThrough q (g := F0 m pc ls rest) rfl (Steps.refl _) (by rw [hT]; exact hcell) (by rw [hv]; rfl) (by obtain ⟨k9, h9, -⟩ := Vm.findClass_spec hcl; exact ⟨k9, h9⟩) pre x suf hsplit
    (fun z hz => by
      rcases hpass z hz with h | ⟨hz0, nm, hl1, hn1⟩
      · exact Or.inl h
      · obtain ⟨c6, hc6, hcl6⟩ := Cond.classLink_spec hown hl1 e.platform hpl
        obtain ⟨a8, b8, h1, h2, h3⟩ := hn1
        cases Option.some.inj (h1.symm.trans hcl)
        cases Option.some.inj (h2.symm.trans hc6)
        exact Or.inr ⟨hz0, _, hcl6, h3⟩) hx (Or.inr ⟨h0, c4, hcl5, hasg⟩)
  obtain ⟨t, a1, b1⟩ := kk (T.setVm vm') hT X'
  exact ⟨t, st.trans a1, b1⟩
end Rows
section Ends
variable {p : Program} {l : Launch} {e : Env} {R : Room} {s : State} {m : MethodId} {args : Array Value} {below : List Frame} {meth : Method} {c : Code} {H : Heap} {locs : List Loc} {cells slots : Nat} {Q : State → Prop}
variable {mc ms : Nat} {free : Addr → Prop} {A0 A1 : Nat → Prop} {H0 : Heap} {a : Array Value} {ls : Array Slot} {st0 rest : List Value}
variable {Qc : Array Value → State → Outcome → State → Prop} {XC : String → State → State → Prop}
/-- what a body that may throw owes at its end -/
def vx_MQ (below : List Frame) (Qc : Array Value → State → Outcome → State → Prop) (XC : String → State → State → Prop) (a : Array Value) (s : State) (mc ms : Nat) (free : Addr → Prop) : State → Prop := fun t =>
  ∃ o, t.status = .running ∧ Ended t below o ∧ vx_Q Qc XC mc ms free a s o t
theorem vx_ret {g : JFrame} {mc ms : Nat} (k : W p l e R s m args below meth c H locs cells slots (MQ below Qc args s mc ms free) g) : W p l e R s m args below meth c H locs cells slots (vx_MQ below Qc XC args s mc ms free) g := by
  intro T hT X
  obtain ⟨t, a1, o, b1, b2, b3, b4⟩ := k T hT X
  exact ⟨t, a1, o, b1, b2, Or.inl ⟨b3, b4⟩⟩
/-- not caught here: it goes on to the caller -/
theorem vx_widen {g : JFrame} {q : Addr} {k n : Nat} (h1 : cells ≤ k) (h2 : slots ≤ n) (kk : vx_W p l e R s m args below meth c H locs k n Q g q) : vx_W p l e R s m args below meth c H locs cells slots Q g q := fun T hT X => kk T hT (stand_widen X h1 h2)
theorem vx_out {pc : Nat} {E : String} {ce : Cell} {q : Addr} {mc ms : Nat} (hout : ∀ x ∈ c.exceptionTable.toList, covers x pc = false) (hlocks : meth.locks = false) (hcell : H[q]? = some ce) (hv : ce.vm = .none) (hcl : s.vm.findClass E = some ce.cls)
    (hx : ∀ t : State, t.heap = H → s.vm.Alike t.vm → XC E s t) (hf : ∀ z ∈ locs, free z.base) (hc : cells ≤ mc) (hs : slots ≤ ms) :
    vx_W p l e R s m args below meth c H locs cells slots (vx_MQ below Qc XC args s mc ms free) (F0 m pc ls rest) q := by
  intro T hT X
  obtain ⟨st1, hrun, hend, hW, hsm⟩ := X.leaveThrown q (g := F0 m pc ls rest) rfl rfl rfl hout hlocks
  have hcell9 : (T.setFrames (.throwing q :: below)).heap[q]? = some ce := by
    show T.heap[q]? = some ce
    rw [hT]; exact hcell
  exact ⟨_, st1, .threw q, hrun, hend, Or.inr ⟨q, rfl, E, ce, locs, hx _ hT hW.alike, hcell9, hv, hcl, hW, hsm.mono hc hs, hf⟩⟩
theorem vx_frame {U : State} {k n : Nat} (h : s.sameButNew ({ U with vm := s.vm } : State) locs k n) : s.heap.size ≤ U.heap.size ∧ ∀ q : Nat, q < s.heap.size → (∀ z ∈ locs, z.base ≠ q) → U.heap[q]? = s.heap[q]? := by
  obtain ⟨-, h2, -, -, -, h6⟩ := h
  refine ⟨h2, fun q hq hz => ?_⟩
  obtain ⟨c9, e1, e2, e3, e4⟩ := h6 q _ (Array.getElem?_eq_getElem hq)
  have hs : c9.slots = (s.heap[q]).slots := Array.ext_getElem? fun i => e4 i fun hm => hz _ hm rfl
  have h9 : c9 = s.heap[q] := by
    rw [hs] at e2
    exact e2
  have e5 : U.heap[q]? = some c9 := e1
  rw [e5, h9, Array.getElem?_eq_getElem hq]
/-- the words of a throw but the four that speak of the heap -/
def vx_no (w : Cond) : Bool := decide (w ≠ .isRef (.static Bundle.tN "UNASSIGNED_STACK" Bundle.steD)) && decide (w ≠ .isRef (.static Bundle.tN "SUPPRESSED_SENTINEL" Bundle.listD)) && decide (w ≠ .laysStatic Bundle.tN "UNASSIGNED_STACK" Bundle.steD) && decide (w ≠ .laysStatic Bundle.tN "SUPPRESSED_SENTINEL" Bundle.listD)
def vx_at0 (own : String) (ic : Nat) (X : String) (names : List String) : List Cond := (Bundle.ownAtoms0 own ic X names).filter vx_no
def vx_atS (own : String) (ic : Nat) (X : String) (names : List String) : List Cond := (Bundle.ownAtoms own ic X names).filter vx_no
/-- a word that the tables alone decide, or a good one -/
def vx_ot (w : Cond) : Bool := w.onTables || goodWord w
theorem vx_ot_at {args a' : Array Value} {s U : State} {w : Cond} (hW : s.WarmedH U.vm) (hvm : s.vm = U.vm) (hg : vx_ot w = true) (h : w.before args s = true) : w.before a' U = true := by
  simp only [vx_ot, Bool.or_eq_true] at hg
  rcases hg with hg | hg
  · exact va_tabs hg hvm h
  · exact word_at hW (good_of_word hg) h
/-- a list's words: the good ones out of the method's own list, the others by premises of their own -/
theorem vx_hat {args : Array Value} {s : State} {L B : List Cond} (h1 : ∀ w ∈ L.filter goodWord, w.before args s = true) (h2 : ∀ w ∈ L.filter (fun w => !goodWord w), w ∈ B) (h3 : ∀ w ∈ B, w.before args s = true) : ∀ w ∈ L, w.before args s = true := by
  intro w hw
  by_cases g : goodWord w = true
  · exact h1 w (List.mem_filter.mpr ⟨hw, g⟩)
  · refine h3 w (h2 w (List.mem_filter.mpr ⟨hw, ?_⟩))
    show (!goodWord w) = true
    cases hgw : goodWord w
    · rfl
    · exact absurd hgw g
theorem vx_c {args : Array Value} {s : State} {w : Cond} {B : List Cond} (h : w.before args s = true) (t : ∀ w ∈ B, w.before args s = true) : ∀ w' ∈ w :: B, w'.before args s = true := fun w' h' => (List.mem_cons.mp h').elim (fun e => by rw [e]; exact h) (t w')
theorem vx_n {args : Array Value} {s : State} : ∀ w ∈ ([] : List Cond), w.before args s = true := fun _ h => nomatch h
theorem vx_own {args : Array Value} {s : State} {L : List Cond} (h1 : ∀ w ∈ L.filter vx_no, w.before args s = true)
    (hU : (Cond.isRef (.static Bundle.tN "UNASSIGNED_STACK" Bundle.steD)).before args s = true) (hN : (Cond.isRef (.static Bundle.tN "SUPPRESSED_SENTINEL" Bundle.listD)).before args s = true)
    (lU : (Cond.laysStatic Bundle.tN "UNASSIGNED_STACK" Bundle.steD).before args s = true) (lN : (Cond.laysStatic Bundle.tN "SUPPRESSED_SENTINEL" Bundle.listD).before args s = true) : ∀ w ∈ L, w.before args s = true := by
  intro w hw
  by_cases e1 : w = .isRef (.static Bundle.tN "UNASSIGNED_STACK" Bundle.steD)
  · rw [e1]; exact hU
  · by_cases e2 : w = .isRef (.static Bundle.tN "SUPPRESSED_SENTINEL" Bundle.listD)
    · rw [e2]; exact hN
    · by_cases e3 : w = .laysStatic Bundle.tN "UNASSIGNED_STACK" Bundle.steD
      · rw [e3]; exact lU
      · by_cases e4 : w = .laysStatic Bundle.tN "SUPPRESSED_SENTINEL" Bundle.listD
        · rw [e4]; exact lN
        · exact h1 w (List.mem_filter.mpr ⟨hw, by unfold vx_no; rw [decide_eq_true e1, decide_eq_true e2, decide_eq_true e3, decide_eq_true e4]; rfl⟩)
/-- where a static field lies, its class's statics cell in H -/
def vx_L (C n d : String) (A : Nat → Prop) (U : State) (H : Heap) : Prop := ∃ (c : ClassId) (k : Class) (i : Nat) (f : Field) (a : Nat) (cell : Cell), U.vm.findClass C = some c ∧ U.fieldFound? C n d = some (c, k, i, f) ∧ f.isStatic = true ∧ k.statics = some a ∧ H[a]? = some cell ∧ cell.vm.isStatics = true ∧ cell.cls = c ∧ f.slot < cell.slots.size ∧ k.staticTypes[f.slot]? = some f.type ∧ ¬ A a
theorem vx_L.moved {C n d : String} {A : Nat → Prop} {u U : State} {H : Heap} (hvm : u.vm.Alike U.vm) (h : vx_L C n d A u H) : vx_L C n d A U H := by
  obtain ⟨c, k, i, f, a, cell, h1, h2, h3, h4, h5, h6, h7, h8, h9, h10⟩ := h
  obtain ⟨k', hi', he⟩ := State.fieldFound?_setVm hvm h2
  exact ⟨c, k', i, f, a, cell, by rw [hvm.findClass]; exact h1, hi', h3, by rw [he]; exact h4, h5, h6, h7, h8, by rw [he]; exact h9, h10⟩
theorem vx_L.kept {C n d : String} {A : Nat → Prop} {U : State} {H H1 : Heap} (h : vx_L C n d A U H) (hq : ∀ a : Nat, a < H.size → ¬ A a → H1[a]? = H[a]?) : vx_L C n d A U H1 := by
  obtain ⟨c, k, i, f, a, cell, h1, h2, h3, h4, h5, h6, h7, h8, h9, h10⟩ := h
  exact ⟨c, k, i, f, a, cell, h1, h2, h3, h4, by rw [hq a (Array.getElem?_eq_some_iff.mp h5).1 h10]; exact h5, h6, h7, h8, h9, h10⟩
theorem vx_L.narrow {C n d : String} {A B : Nat → Prop} {U : State} {H : Heap} (h : vx_L C n d A U H) (hAB : ∀ q, B q → A q) : vx_L C n d B U H := by
  obtain ⟨c, k, i, f, a, cell, h1, h2, h3, h4, h5, h6, h7, h8, h9, h10⟩ := h
  exact ⟨c, k, i, f, a, cell, h1, h2, h3, h4, h5, h6, h7, h8, h9, fun z => h10 (hAB _ z)⟩
theorem vx_L.word {C n d : String} {A : Nat → Prop} {s : State} {args : Array Value} (h : vx_L C n d A s s.heap) : (Cond.laysStatic C n d).before args s = true := by
  obtain ⟨c, k, i, f, a, cell, h1, h2, h3, h4, h5, h6, h7, h8, h9, -⟩ := h
  show (Cond.laysStatic C n d).holds args s none s [] = true
  exact Cond.laysStatic_of h1 h2 h3 h4 h5 h6 h7 h8 h9
/-- .. and what it holds: null or some reference -/
def vx_Zq (C n d : String) (A : Nat → Prop) (U : State) (H : Heap) : Prop := va_Zq C n d A U H ∧ vx_L C n d A U H
theorem vx_Zq.moved {C n d : String} {A : Nat → Prop} {u U : State} {H : Heap} (hvm : u.vm.Alike U.vm) (h : vx_Zq C n d A u H) : vx_Zq C n d A U H := ⟨va_Zq.moved hvm h.1, vx_L.moved hvm h.2⟩
theorem vx_Zq.kept {C n d : String} {A : Nat → Prop} {U : State} {H H1 : Heap} (h : vx_Zq C n d A U H) (hq : ∀ a : Nat, a < H.size → ¬ A a → H1[a]? = H[a]?) : vx_Zq C n d A U H1 := ⟨va_Zq.kept h.1 hq, vx_L.kept h.2 hq⟩
theorem vx_Zq.narrow {C n d : String} {A B : Nat → Prop} {U : State} {H : Heap} (h : vx_Zq C n d A U H) (hAB : ∀ q, B q → A q) : vx_Zq C n d B U H := ⟨va_Zq.narrow h.1 hAB, vx_L.narrow h.2 hAB⟩
theorem vx_Zqof {args : Array Value} {s : State} {C n d : String} {A : Nat → Prop} (hl : (Cond.laysStatic C n d).before args s = true) (hini : (Cond.initialized C).before args s = true) (h : (Cond.isRef (.static C n d)).before args s = true) (hA : ∀ a : Nat, a < s.heap.size → ¬ A a) : vx_Zq C n d A s s.heap := by
  refine ⟨va_Zqof hl hini h hA, ?_⟩
  obtain ⟨c, k, i, f, a, cell, h1, h2, h3, h4, h5, h6, h7, h8, h9⟩ := Cond.laysStatic_spec hl
  exact ⟨c, k, i, f, a, cell, h1, h2, h3, h4, h5, h6, h7, h8, h9, hA a (Array.getElem?_eq_some_iff.mp h5).1⟩
theorem vx_isRef {C n d : String} {v : Value} {A : Nat → Prop} {s : State} {args : Array Value} (h : va_Z C n d v A s s.heap) (hv : v.isRef = true) : (Cond.isRef (.static C n d)).before args s = true := by
  obtain ⟨cf, kf, fi, f, a, cell, h1, h2, h3, h4, h5, h6, h7, -⟩ := h
  have he : (Term.static C n d).eval args s none [] s = some v := by
    simp [Term.eval, State.fieldNamed?, h1, h2, h4, h5, h6, h7]
  simp only [Cond.before, Cond.holds, Cond.value, he]
  cases v <;> simp_all [Value.isRef]
theorem vx_isRefq {C n d : String} {A : Nat → Prop} {s : State} {args : Array Value} (h : va_Zq C n d A s s.heap) : (Cond.isRef (.static C n d)).before args s = true := by
  rcases h with h | ⟨t, h⟩
  · exact vx_isRef h rfl
  · exact vx_isRef h rfl
/-- the same frame, seen from here: as if the method were called anew in this heap -/
theorem vx_rebase {T : State} (X : Stand p l e R s m args below meth c T locs cells slots) {R' : Room} (hf : R'.frames ≤ R.frames) (hl : R'.locals ≤ R.locals) (hc : cells + R'.cells ≤ R.cells) (hs : slots + R'.slots ≤ R.slots) :
    Stand p l e R' ((T.setVm s.vm).setFrames (.invoking m args :: below)) m args below meth c T [] 0 0 := by
  have htop : (T.setVm s.vm).topJava?.isSome := X.here.top
  have hF : ((T.setVm s.vm).setFrames (.invoking m args :: below)).frames = .invoking m args :: below := State.frames_setFrames _ (State.cur_lt_of_top htop)
  obtain ⟨g₀, hg0⟩ := Option.isSome_iff_exists.mp htop
  obtain ⟨r, hr⟩ := State.topJava?_eq_some.mp hg0
  have hl9 : e.platform.stackLimits (T.setVm s.vm).me = e.platform.stackLimits s.me := X.limits
  have hb9 : (T.setVm s.vm).me.stackBytes = s.me.stackBytes := X.bytes
  refine ⟨X.admits, X.cas, X.clock, hF, ?_, X.hears, X.method, X.code, X.here, X.tail, X.warmed, ?_, ?_, ?_⟩
  · have h := X.room
    have hU : ((T.setVm s.vm).setFrames (.invoking m args :: below)).localsInUse = s.localsInUse := by
      rw [State.localsInUse_invoking hF (meth := meth) (c := c) X.method X.code, State.localsInUse_invoking X.frames X.method X.code]
    simp only [State.hasRoom, Bool.and_eq_true, decide_eq_true_eq] at h ⊢
    obtain ⟨⟨⟨⟨h1, h2, h3, h4, h5, h6⟩, h7⟩, h8⟩, h9⟩ := h
    rw [X.frames, List.length_cons] at h2 h3
    have q1 := X.heapSize
    have q2 := X.used
    simp only [hF, hU, List.length_cons, State.stackLimits_setFrames, State.stackBytes_setFrames, hl9, hb9]
    refine ⟨⟨⟨⟨by omega, by omega, by omega, by omega, by omega, h6⟩, ?_⟩, ?_⟩, X.book⟩
    · show T.heap.size + R'.cells ≤ e.platform.maxCells
      omega
    · show T.slotsUsed + R'.slots ≤ e.platform.maxSlots
      omega
  · rw [State.stackLimits_setFrames]; rfl
  · rw [State.stackBytes_setFrames]; rfl
  · refine ⟨?_, Nat.le_refl _, Nat.le_refl _, ?_, ?_, fun a c9 h9 => ⟨c9, h9, rfl, rfl, fun _ _ => rfl⟩⟩
    · obtain ⟨t, ht, -⟩ := State.frames_cons hr
      show T.setVm s.vm = { ((T.setVm s.vm).setFrames (.invoking m args :: below)).setFrames (T.setVm s.vm).frames with heap := T.heap, slotsUsed := T.slotsUsed }
      rw [State.setFrames_setFrames, State.setFrames_self ht]
      rfl
    · show T.slotsUsed = T.slotsUsed + ((T.heap.toList.drop T.heap.size).map (·.slots.size)).sum
      rw [List.drop_eq_nil_of_le (Nat.le_of_eq Array.length_toList)]
      rfl
    · show ((T.heap.toList.drop T.heap.size).map (·.slots.size)).sum ≤ 0
      rw [List.drop_eq_nil_of_le (Nat.le_of_eq Array.length_toList)]
      exact Nat.le_refl _
/-- 'throw new E()': new; dup; invokespecial; athrow -/
theorem vx_throw0 {cc : ByteArray} {pc : Nat} (hexec : p.tables.exec = Jvm.exec) (hb : c.code = cc) (hl : l.stackTraces = false) {own cls : String} {names : List String} {ik ic mc ms : Nat} {A : Nat → Prop}
    (hown : s.vm.findClass own = some m.cls) (hcls : Bundle.fit cls = true) (hnames : ∀ n ∈ names, Bundle.fit n = true)
    (hk : (Cond.classLink own ik cls).before args s = true) (hini : (Cond.initialized cls).before args s = true) (hat : ∀ w ∈ vx_at0 own ic cls names, w.before args s = true)
    (hgood : ∀ w ∈ Cond.classLink own ik cls :: Cond.initialized cls :: vx_at0 own ic cls names, vx_ot w = true)
    (hU : vx_Zq Bundle.tN "UNASSIGNED_STACK" Bundle.steD A s s.heap) (hN : vx_Zq Bundle.tN "SUPPRESSED_SENTINEL" Bundle.listD A s s.heap) (hS : va_S A s.heap H locs) (hsize : ls.size = c.maxLocals)
    (d0 : decode cc pc = .ok (.new ik, 3)) (d3 : decode cc (pc + 3) = .ok (.dup, 1)) (d4 : decode cc (pc + 4) = .ok (.invokespecial ic, 3)) (d7 : decode cc (pc + 7) = .ok (.athrow, 1))
    (hout : ∀ x ∈ c.exceptionTable.toList, covers x (pc + 7) = false)
    (hRframes : names.length + 3 < R.frames) (hRlocals : (rest.map fun v => v.category).sum + (13 * (names.length + 1) + 42) ≤ R.locals) (hRcells : cells + 1 ≤ R.cells) (hRslots : slots + 6 ≤ R.slots) (hlocks : meth.locks = false)
    (hx : ∀ t : State, s.vm.Alike t.vm → H.size ≤ t.heap.size → (∀ q : Nat, q < H.size → t.heap[q]? = H[q]?) → XC cls s t)
    (hf : ∀ z ∈ locs, free z.base) (hc : cells + 1 ≤ mc) (hs : slots + 6 ≤ ms) :
    W p l e R s m args below meth c H locs cells slots (vx_MQ below Qc XC args s mc ms free) (F0 m pc ls rest) := by
  intro T hT X
  have htr : e.platform.stackTraces = false := (show e.platform.stackTraces = l.stackTraces by rw [X.admits.platform]).trans hl
  have Y := vx_rebase X (R' := { frames := R.frames, locals := R.locals, cells := 1, slots := 6 }) (Nat.le_refl _) (Nat.le_refl _) hRcells hRslots
  obtain ⟨s', hA⟩ : ∃ z, z = (T.setVm s.vm).setFrames (.invoking m args :: below) := ⟨_, rfl⟩
  rw [← hA] at Y
  have hvm : s'.vm = s.vm := by rw [hA]; rfl
  have hhp : s'.heap = H := by rw [hA]; exact hT
  have hW0 : s.WarmedH s'.vm := by rw [hvm]; exact State.WarmedH.refl s
  have hat' : ∀ w ∈ vx_at0 own ic cls names, w.before args s' = true := fun w hw => vx_ot_at hW0 hvm.symm (hgood w (List.mem_cons_of_mem _ (List.mem_cons_of_mem _ hw))) (hat w hw)
  have hk' : (Cond.classLink own ik cls).before args s' = true := vx_ot_at hW0 hvm.symm (hgood _ List.mem_cons_self) hk
  have hini' : (Cond.initialized cls).before args s' = true := vx_ot_at hW0 hvm.symm (hgood _ (List.mem_cons_of_mem _ List.mem_cons_self)) hini
  have hU' : vx_Zq Bundle.tN "UNASSIGNED_STACK" Bundle.steD A s' s'.heap := by rw [hhp]; exact vx_Zq.moved hW0.alike (hU.kept hS.2.1)
  have hN' : vx_Zq Bundle.tN "SUPPRESSED_SENTINEL" Bundle.listD A s' s'.heap := by rw [hhp]; exact vx_Zq.moved hW0.alike (hN.kept hS.2.1)
  have h : ∀ w ∈ Bundle.ownAtoms0 own ic cls names, w.before args s' = true := vx_own hat' (vx_isRefq hU'.1) (vx_isRefq hN'.1) hU'.2.word hN'.2.word
  have hown' : s'.vm.findClass own = some m.cls := by rw [hvm]; exact hown
  have hins : (Cond.instantiable cls 6).before args s' = true := h _ (by simp [Bundle.ownAtoms0])
  obtain ⟨vm₁, cX, kX, hfX, hkX, -, -, X₁, st1⟩ := Y.newCold hexec (own := own) (C := cls) (index := ik) (n := 6) hown' hk' hins hini'
    (g := F0 m pc ls rest) rfl (by rw [hb]; exact d0) (Nat.le_refl _) (Nat.le_refl _)
  generalize hT1 : (T.setVm vm₁).pushCell { cls := cX, slots := kX.instanceTypes.map defaultValue, vm := .none } = T1 at X₁ st1
  have hcat : (Value.ref T.heap.size).category = 1 := rfl
  have hcellA : T1.heap[T.heap.size]? = some (freshCell cX kX) := by rw [← hT1]; exact State.heap_pushCell_size _ _
  have d3' : decode c.code (pc + 3) = .ok (.dup, 1) := by rw [hb]; exact d3
  obtain ⟨U, hsteps, hrun, hend, hW, hsame, ce, hce, hO⟩ := X₁.ctorThrow0 hexec htr (own := own) (cls := cls) (names := names) (ic := ic) hown' hcls hnames h (fun x hx => nomatch hx) hfX hkX hcellA (by rw [hhp, hT]; exact Nat.le_refl _)
    (g := { method := m, pc := pc + 4, locals := ls, stack := .ref T.heap.size :: .ref T.heap.size :: rest, locked := none }) rfl hsize rfl rfl (rest := rest) rfl
    (by rw [hb]; exact d4) (by rw [hb]; exact d7) hout hRframes (by simp only [List.map_cons, List.sum_cons, hcat]; omega) hlocks
  obtain ⟨f1, f2⟩ := vx_frame hsame
  rw [hhp] at f1 f2
  have hWs : s.WarmedH U.vm := State.WarmedH.trans hW0 hW
  have hcl : s.vm.findClass cls = some ce.cls := by
    have h9 := hO.cls
    rw [hvm] at h9
    exact h9
  have hall : s.sameButNew ({ U with vm := s.vm } : State) locs mc ms := by
    subst hA
    obtain ⟨e1, e2⟩ := hsame
    rw [State.setFrames_setFrames] at e1
    have h2 : (T.setVm s.vm).sameButNew ({ U with vm := s.vm } : State) [] (0 + 1) (0 + 6) := ⟨e1, e2⟩
    have h3 := X.same.trans h2
    rw [List.append_nil] at h3
    exact h3.mono hc hs
  refine ⟨U, ?_, .threw T.heap.size, hrun, hend, Or.inr ⟨T.heap.size, rfl, cls, ce, locs, hx U hWs.alike f1 (fun q hq => f2 q hq (fun z hz => nomatch hz)), hce, hO.vm, hcl, hWs, hall, hf⟩⟩
  refine st1 _ ?_
  show Steps p.tables e below (T1.setTop { method := m, pc := pc + 3, locals := ls, stack := .ref T.heap.size :: rest, locked := none }) _
  jvm_step X₁.here [X₁.here.top, hexec, d3', Value.category]
  exact hsteps
/-- 'throw new E("text")': new; dup; ldc; invokespecial; athrow -/
theorem vx_throwS {cc : ByteArray} {pc : Nat} (hexec : p.tables.exec = Jvm.exec) (hb : c.code = cc) (hl : l.stackTraces = false) {own cls text : String} {names : List String} {ik is ic mc ms sa : Nat} {A : Nat → Prop}
    (hown : s.vm.findClass own = some m.cls) (hcls : Bundle.fit cls = true) (hnames : ∀ n ∈ names, Bundle.fit n = true)
    (hk : (Cond.classLink own ik cls).before args s = true) (hini : (Cond.initialized cls).before args s = true) (hstr : vk_R own is text sa s) (hat : ∀ w ∈ vx_atS own ic cls names, w.before args s = true)
    (hgood : ∀ w ∈ Cond.classLink own ik cls :: Cond.initialized cls :: vx_atS own ic cls names, vx_ot w = true)
    (hU : vx_Zq Bundle.tN "UNASSIGNED_STACK" Bundle.steD A s s.heap) (hN : vx_Zq Bundle.tN "SUPPRESSED_SENTINEL" Bundle.listD A s s.heap) (hS : va_S A s.heap H locs) (hsize : ls.size = c.maxLocals)
    (d0 : decode cc pc = .ok (.new ik, 3)) (d3 : decode cc (pc + 3) = .ok (.dup, 1)) (d4 : decode cc (pc + 4) = .ok (.ldc is, 2)) (d6 : decode cc (pc + 6) = .ok (.invokespecial ic, 3)) (d9 : decode cc (pc + 9) = .ok (.athrow, 1))
    (hout : ∀ x ∈ c.exceptionTable.toList, covers x (pc + 9) = false)
    (hRframes : names.length + 3 < R.frames) (hRlocals : (rest.map fun v => v.category).sum + (13 * (names.length + 1) + 43) ≤ R.locals) (hRcells : cells + 1 ≤ R.cells) (hRslots : slots + 6 ≤ R.slots) (hlocks : meth.locks = false)
    (hx : ∀ t : State, s.vm.Alike t.vm → H.size ≤ t.heap.size → (∀ q : Nat, q < H.size → t.heap[q]? = H[q]?) → XC cls s t)
    (hf : ∀ z ∈ locs, free z.base) (hc : cells + 1 ≤ mc) (hs : slots + 6 ≤ ms) :
    W p l e R s m args below meth c H locs cells slots (vx_MQ below Qc XC args s mc ms free) (F0 m pc ls rest) := by
  intro T hT X
  have htr : e.platform.stackTraces = false := (show e.platform.stackTraces = l.stackTraces by rw [X.admits.platform]).trans hl
  have Y := vx_rebase X (R' := { frames := R.frames, locals := R.locals, cells := 1, slots := 6 }) (Nat.le_refl _) (Nat.le_refl _) hRcells hRslots
  obtain ⟨s', hA⟩ : ∃ z, z = (T.setVm s.vm).setFrames (.invoking m args :: below) := ⟨_, rfl⟩
  rw [← hA] at Y
  have hvm : s'.vm = s.vm := by rw [hA]; rfl
  have hhp : s'.heap = H := by rw [hA]; exact hT
  have hW0 : s.WarmedH s'.vm := by rw [hvm]; exact State.WarmedH.refl s
  have hat' : ∀ w ∈ vx_atS own ic cls names, w.before args s' = true := fun w hw => vx_ot_at hW0 hvm.symm (hgood w (List.mem_cons_of_mem _ (List.mem_cons_of_mem _ hw))) (hat w hw)
  have hk' : (Cond.classLink own ik cls).before args s' = true := vx_ot_at hW0 hvm.symm (hgood _ List.mem_cons_self) hk
  have hini' : (Cond.initialized cls).before args s' = true := vx_ot_at hW0 hvm.symm (hgood _ (List.mem_cons_of_mem _ List.mem_cons_self)) hini
  have hU' : vx_Zq Bundle.tN "UNASSIGNED_STACK" Bundle.steD A s' s'.heap := by rw [hhp]; exact vx_Zq.moved hW0.alike (hU.kept hS.2.1)
  have hN' : vx_Zq Bundle.tN "SUPPRESSED_SENTINEL" Bundle.listD A s' s'.heap := by rw [hhp]; exact vx_Zq.moved hW0.alike (hN.kept hS.2.1)
  have h : ∀ w ∈ Bundle.ownAtoms own ic cls names, w.before args s' = true := vx_own hat' (vx_isRefq hU'.1) (vx_isRefq hN'.1) hU'.2.word hN'.2.word
  have hown' : s'.vm.findClass own = some m.cls := by rw [hvm]; exact hown
  have hins : (Cond.instantiable cls 6).before args s' = true := h _ (by simp [Bundle.ownAtoms])
  obtain ⟨vm₁, cX, kX, hfX, hkX, -, -, X₁, st1⟩ := Y.newCold hexec (own := own) (C := cls) (index := ik) (n := 6) hown' hk' hins hini'
    (g := F0 m pc ls rest) rfl (by rw [hb]; exact d0) (Nat.le_refl _) (Nat.le_refl _)
  generalize hT1 : (T.setVm vm₁).pushCell { cls := cX, slots := kX.instanceTypes.map defaultValue, vm := .none } = T1 at X₁ st1
  have hcat : (Value.ref T.heap.size).category = 1 := rfl
  have hcellA : T1.heap[T.heap.size]? = some (freshCell cX kX) := by rw [← hT1]; exact State.heap_pushCell_size _ _
  have d3' : decode c.code (pc + 3) = .ok (.dup, 1) := by rw [hb]; exact d3
  have d4' : decode c.code (pc + 4) = .ok (.ldc is, 2) := by rw [hb]; exact d4
  have hstr' : vk_R own is text sa s' := vk_R.warm hW0 hstr
  obtain ⟨U, hsteps, hrun, hend, hW, hsame, ce, hce, hO⟩ := X₁.ctorThrowS hexec htr (own := own) (cls := cls) (names := names) (ic := ic) hown' hcls hnames h (fun x hx => nomatch hx) hfX hkX hcellA (by rw [hhp, hT]; exact Nat.le_refl _) (msg := .ref sa) rfl
    (g := { method := m, pc := pc + 6, locals := ls, stack := .ref sa :: .ref T.heap.size :: .ref T.heap.size :: rest, locked := none }) rfl hsize rfl rfl (rest := rest) rfl
    (by rw [hb]; exact d6) (by rw [hb]; exact d9) hout hRframes (by simp only [List.map_cons, List.sum_cons, hcat]; omega) hlocks
  obtain ⟨f1, f2⟩ := vx_frame hsame
  rw [hhp] at f1 f2
  have hWs : s.WarmedH U.vm := State.WarmedH.trans hW0 hW
  have hcl : s.vm.findClass cls = some ce.cls := by
    have h9 := hO.cls
    rw [hvm] at h9
    exact h9
  have hall : s.sameButNew ({ U with vm := s.vm } : State) locs mc ms := by
    subst hA
    obtain ⟨e1, e2⟩ := hsame
    rw [State.setFrames_setFrames] at e1
    have h2 : (T.setVm s.vm).sameButNew ({ U with vm := s.vm } : State) [] (0 + 1) (0 + 6) := ⟨e1, e2⟩
    have h3 := X.same.trans h2
    rw [List.append_nil] at h3
    exact h3.mono hc hs
  refine ⟨U, ?_, .threw T.heap.size, hrun, hend, Or.inr ⟨T.heap.size, rfl, cls, ce, locs, hx U hWs.alike f1 (fun q hq => f2 q hq (fun z hz => nomatch hz)), hce, hO.vm, hcl, hWs, hall, hf⟩⟩
  refine st1 _ ?_
  show Steps p.tables e below (T1.setTop { method := m, pc := pc + 3, locals := ls, stack := .ref T.heap.size :: rest, locked := none }) _
  jvm_step X₁.here [X₁.here.top, hexec, d3', Value.category]
  exact X₁.ldcString hexec (own := own) (text := text) (index := is) (a := sa) hown' hstr'.1 hstr'.2
    (g := { method := m, pc := pc + 4, locals := ls, stack := .ref T.heap.size :: .ref T.heap.size :: rest, locked := none }) rfl d4' _ hsteps
/-- 'throw new E("text")', the text by a wide index -/
theorem vx_throwSW {cc : ByteArray} {pc : Nat} (hexec : p.tables.exec = Jvm.exec) (hb : c.code = cc) (hl : l.stackTraces = false) {own cls text : String} {names : List String} {ik is ic mc ms sa : Nat} {A : Nat → Prop}
    (hown : s.vm.findClass own = some m.cls) (hcls : Bundle.fit cls = true) (hnames : ∀ n ∈ names, Bundle.fit n = true)
    (hk : (Cond.classLink own ik cls).before args s = true) (hini : (Cond.initialized cls).before args s = true) (hstr : vk_R own is text sa s) (hat : ∀ w ∈ vx_atS own ic cls names, w.before args s = true)
    (hgood : ∀ w ∈ Cond.classLink own ik cls :: Cond.initialized cls :: vx_atS own ic cls names, vx_ot w = true)
    (hU : vx_Zq Bundle.tN "UNASSIGNED_STACK" Bundle.steD A s s.heap) (hN : vx_Zq Bundle.tN "SUPPRESSED_SENTINEL" Bundle.listD A s s.heap) (hS : va_S A s.heap H locs) (hsize : ls.size = c.maxLocals)
    (d0 : decode cc pc = .ok (.new ik, 3)) (d3 : decode cc (pc + 3) = .ok (.dup, 1)) (d4 : decode cc (pc + 4) = .ok (.ldc_w is, 3)) (d7 : decode cc (pc + 7) = .ok (.invokespecial ic, 3)) (d10 : decode cc (pc + 10) = .ok (.athrow, 1))
    (hout : ∀ x ∈ c.exceptionTable.toList, covers x (pc + 10) = false)
    (hRframes : names.length + 3 < R.frames) (hRlocals : (rest.map fun v => v.category).sum + (13 * (names.length + 1) + 43) ≤ R.locals) (hRcells : cells + 1 ≤ R.cells) (hRslots : slots + 6 ≤ R.slots) (hlocks : meth.locks = false)
    (hx : ∀ t : State, s.vm.Alike t.vm → H.size ≤ t.heap.size → (∀ q : Nat, q < H.size → t.heap[q]? = H[q]?) → XC cls s t)
    (hf : ∀ z ∈ locs, free z.base) (hc : cells + 1 ≤ mc) (hs : slots + 6 ≤ ms) :
    W p l e R s m args below meth c H locs cells slots (vx_MQ below Qc XC args s mc ms free) (F0 m pc ls rest) := by
  intro T hT X
  have htr : e.platform.stackTraces = false := (show e.platform.stackTraces = l.stackTraces by rw [X.admits.platform]).trans hl
  have Y := vx_rebase X (R' := { frames := R.frames, locals := R.locals, cells := 1, slots := 6 }) (Nat.le_refl _) (Nat.le_refl _) hRcells hRslots
  obtain ⟨s', hA⟩ : ∃ z, z = (T.setVm s.vm).setFrames (.invoking m args :: below) := ⟨_, rfl⟩
  rw [← hA] at Y
  have hvm : s'.vm = s.vm := by rw [hA]; rfl
  have hhp : s'.heap = H := by rw [hA]; exact hT
  have hW0 : s.WarmedH s'.vm := by rw [hvm]; exact State.WarmedH.refl s
  have hat' : ∀ w ∈ vx_atS own ic cls names, w.before args s' = true := fun w hw => vx_ot_at hW0 hvm.symm (hgood w (List.mem_cons_of_mem _ (List.mem_cons_of_mem _ hw))) (hat w hw)
  have hk' : (Cond.classLink own ik cls).before args s' = true := vx_ot_at hW0 hvm.symm (hgood _ List.mem_cons_self) hk
  have hini' : (Cond.initialized cls).before args s' = true := vx_ot_at hW0 hvm.symm (hgood _ (List.mem_cons_of_mem _ List.mem_cons_self)) hini
  have hU' : vx_Zq Bundle.tN "UNASSIGNED_STACK" Bundle.steD A s' s'.heap := by rw [hhp]; exact vx_Zq.moved hW0.alike (hU.kept hS.2.1)
  have hN' : vx_Zq Bundle.tN "SUPPRESSED_SENTINEL" Bundle.listD A s' s'.heap := by rw [hhp]; exact vx_Zq.moved hW0.alike (hN.kept hS.2.1)
  have h : ∀ w ∈ Bundle.ownAtoms own ic cls names, w.before args s' = true := vx_own hat' (vx_isRefq hU'.1) (vx_isRefq hN'.1) hU'.2.word hN'.2.word
  have hown' : s'.vm.findClass own = some m.cls := by rw [hvm]; exact hown
  have hins : (Cond.instantiable cls 6).before args s' = true := h _ (by simp [Bundle.ownAtoms])
  obtain ⟨vm₁, cX, kX, hfX, hkX, -, -, X₁, st1⟩ := Y.newCold hexec (own := own) (C := cls) (index := ik) (n := 6) hown' hk' hins hini'
    (g := F0 m pc ls rest) rfl (by rw [hb]; exact d0) (Nat.le_refl _) (Nat.le_refl _)
  generalize hT1 : (T.setVm vm₁).pushCell { cls := cX, slots := kX.instanceTypes.map defaultValue, vm := .none } = T1 at X₁ st1
  have hcat : (Value.ref T.heap.size).category = 1 := rfl
  have hcellA : T1.heap[T.heap.size]? = some (freshCell cX kX) := by rw [← hT1]; exact State.heap_pushCell_size _ _
  have d3' : decode c.code (pc + 3) = .ok (.dup, 1) := by rw [hb]; exact d3
  have d4' : decode c.code (pc + 4) = .ok (.ldc_w is, 3) := by rw [hb]; exact d4
  have hstr' : vk_R own is text sa s' := vk_R.warm hW0 hstr
  obtain ⟨U, hsteps, hrun, hend, hW, hsame, ce, hce, hO⟩ := X₁.ctorThrowS hexec htr (own := own) (cls := cls) (names := names) (ic := ic) hown' hcls hnames h (fun x hx => nomatch hx) hfX hkX hcellA (by rw [hhp, hT]; exact Nat.le_refl _) (msg := .ref sa) rfl
    (g := { method := m, pc := pc + 7, locals := ls, stack := .ref sa :: .ref T.heap.size :: .ref T.heap.size :: rest, locked := none }) rfl hsize rfl rfl (rest := rest) rfl
    (by rw [hb]; exact d7) (by rw [hb]; exact d10) hout hRframes (by simp only [List.map_cons, List.sum_cons, hcat]; omega) hlocks
  obtain ⟨f1, f2⟩ := vx_frame hsame
  rw [hhp] at f1 f2
  have hWs : s.WarmedH U.vm := State.WarmedH.trans hW0 hW
  have hcl : s.vm.findClass cls = some ce.cls := by
    have h9 := hO.cls
    rw [hvm] at h9
    exact h9
  have hall : s.sameButNew ({ U with vm := s.vm } : State) locs mc ms := by
    subst hA
    obtain ⟨e1, e2⟩ := hsame
    rw [State.setFrames_setFrames] at e1
    have h2 : (T.setVm s.vm).sameButNew ({ U with vm := s.vm } : State) [] (0 + 1) (0 + 6) := ⟨e1, e2⟩
    have h3 := X.same.trans h2
    rw [List.append_nil] at h3
    exact h3.mono hc hs
  refine ⟨U, ?_, .threw T.heap.size, hrun, hend, Or.inr ⟨T.heap.size, rfl, cls, ce, locs, hx U hWs.alike f1 (fun q hq => f2 q hq (fun z hz => nomatch hz)), hce, hO.vm, hcl, hWs, hall, hf⟩⟩
  refine st1 _ ?_
  show Steps p.tables e below (T1.setTop { method := m, pc := pc + 3, locals := ls, stack := .ref T.heap.size :: rest, locked := none }) _
  jvm_step X₁.here [X₁.here.top, hexec, d3', Value.category]
  exact X₁.ldcStringW hexec (own := own) (text := text) (index := is) (a := sa) hown' hstr'.1 hstr'.2
    (g := { method := m, pc := pc + 4, locals := ls, stack := .ref T.heap.size :: .ref T.heap.size :: rest, locked := none }) rfl d4' _ hsteps
end Ends
section Bodies
variable {l : Launch}
theorem vx_ofW {y : MethodName} {ws ws' : List Cond} {rm : Room} {Pc : Array Value → State → Prop} {Qc : Array Value → State → Outcome → State → Prop} {XC : String → State → State → Prop} {mc ms : Nat} {free : Addr → Prop} {cc : ByteArray} {maxL : Nat} {ret : Option FieldType}
    (hy : plainName y.cls = true) (hw : ws = Cond.code y cc maxL ret :: ws')
    (body : ∀ p e s m args below meth c s₁, BodyLoose p l y (headSpec ws rm) cc maxL ret e s m args below meth c s₁ → c.maxLocals = maxL → (∀ x ∈ c.exceptionTable.toList, False) → Pc args s →
      W p l e (headSpec ws rm).room s m args below meth c s.heap [] 0 0 (vx_MQ below Qc XC args s mc ms free) (entryFrame m args maxL)) : vx_Met l y ws rm Pc Qc XC mc ms free := by
  refine MetFree.of_bodyS (code := cc) (maxLocals := maxL) (ret := ret) hy ?_ ?_
  · intro args s m h hn
    obtain ⟨meth, c, h1, h2, h3, h4, h5, h6, -, -⟩ := Cond.code_spec hn (atoms_spec (ws := ws) h _ (by rw [hw]; exact List.mem_cons_self))
    exact ⟨meth, c, h1, h2, h3, h4, h5, h6⟩
  · intro p e s m args below meth c s₁ B hml hP _
    have hh0 : s₁.heap = s.heap := by rw [B.state]; rfl
    have ht : ∀ x ∈ c.exceptionTable.toList, False := by
      obtain ⟨meth9, c9, h1, h2, -, -, -, -, h7, -⟩ := Cond.code_spec B.named (atoms_spec (ws := ws) B.pre _ (by rw [hw]; exact List.mem_cons_self))
      cases Option.some.inj (h1.symm.trans B.method)
      cases Option.some.inj (h2.symm.trans (Stand.of_body B).code)
      intro x hx
      rw [Array.isEmpty_iff.mp h7] at hx
      cases hx
    obtain ⟨t, a1, o, b1, b2, b3⟩ := body p e s m args below meth c s₁ B hml ht hP s₁ hh0 (Stand.of_body B)
    exact ⟨t, o, a1, b1, b2, b3⟩
/-- the table of a body with handlers -/
theorem vx_table {p : Program} {x y : MethodName} {S : Spec} {cc bytes : ByteArray} {maxL maxL' : Nat} {ret ret' : Option FieldType} {e : Env} {s s₁ : State} {m : MethodId} {args : Array Value} {below : List Frame} {meth : Method} {c : Code} {hh : List (Nat × Nat × Nat × Nat)}
    (B : BodyLoose p l y S cc maxL ret e s m args below meth c s₁) (h : (Cond.codeWith y bytes maxL' ret' hh).before args s = true) : c.exceptionTable.toList = tableOf hh := by
  obtain ⟨m9, meth9, c9, hn9, h1, h2, -, -, h6, -⟩ := Cond.codeWith_spec h
  cases Option.some.inj (hn9.symm.trans B.named)
  cases Option.some.inj (h1.symm.trans B.method)
  cases Option.some.inj (h2.symm.trans (Stand.of_body B).code)
  rw [← h6, table_eq]
end Bodies
end VXA
/-! ===== END ===== -/
/-! ===== BEGIN a static call of a method with an exception table ===== -/
section VXS
variable {p : Program} {l : Launch} {e : Env} {R : Room} {s : State} {m : MethodId} {args : Array Value} {below : List Frame} {meth : Method} {c : Code} {T : State} {H : Heap} {locs : List Loc} {cells slots : Nat}
abbrev vx_CSW (R : Room) (s : State) (args : Array Value) (own : String) (index : Nat) (y : MethodName) (bytes : ByteArray) (maxL : Nat) (ret : Option FieldType) (hh : List (Nat × Nat × Nat × Nat)) (ws : List Cond) (rm : Room) (mc ms n : Nat) : Prop :=
  (rm.cells = mc ∧ rm.slots = ms ∧ rm.frames + 1 ≤ R.frames ∧ 8 + (maxL + 11) + rm.locals ≤ R.locals ∧ (∀ w ∈ ws, ∀ (a' : Array Value) (U : State), s.WarmedH U.vm → w.before a' U = true) ∧ Cond.codeWith y bytes maxL ret hh ∈ ws) ∧
  (Cond.codeWith y bytes maxL ret hh).before args s = true ∧ (Cond.initialized y.cls).before args s = true ∧ (y.cls ≠ "java/lang/invoke/MethodHandle" ∧ y.cls ≠ "java/lang/invoke/VarHandle") ∧
  (∀ sig, parseMethodDescriptor y.desc = some sig → n = sig.parameters.length) ∧ (Cond.methodLink own index y).before args s = true ∧ (Cond.static y).before args s = true
theorem vx_cwSW {own : String} {index maxL mc ms : Nat} {y : MethodName} {bytes : ByteArray} {ret : Option FieldType} {hh : List (Nat × Nat × Nat × Nat)} {Ts ws ws' : List Cond} {rm : Room} (n : Nat) (ht : ∀ w ∈ Ts, w.before args s = true) (hT : GoodIn Ts (va_wsS own index y ws)) (hw : ws = Cond.codeWith y bytes maxL ret hh :: ws') (hrc : rm.cells = mc) (hrs : rm.slots = ms)
    (hd : y.cls ≠ "java/lang/invoke/MethodHandle" ∧ y.cls ≠ "java/lang/invoke/VarHandle" ∧ (parseMethodDescriptor y.desc).map (fun d => d.parameters.length) = some n) (hR : rm.frames + 1 ≤ R.frames ∧ 8 + (maxL + 11) + rm.locals ≤ R.locals) :
    vx_CSW R s args own index y bytes maxL ret hh ws rm mc ms n := by
  have ok : ∀ w ∈ va_wsS own index y ws, w.before args s = true := fun w h => ht w (hT w h).1
  have hG : GoodIn Ts ws := fun w h => hT w (by unfold va_wsS; exact List.mem_append_right _ h)
  have hc : Cond.codeWith y bytes maxL ret hh ∈ ws := by rw [hw]; exact List.mem_cons_self
  refine ⟨⟨hrc, hrs, hR.1, hR.2, pay_in ht hG, hc⟩, ht _ (hG _ hc).1, ok _ (by simp [va_wsS]), ⟨hd.1, hd.2.1⟩, fun sig h => ?_, ok _ (by simp [va_wsS]), ok _ (by simp [va_wsS])⟩
  have h2 := hd.2.2
  rw [h] at h2
  exact (Option.some.inj h2).symm
theorem vx_callSW (X : Stand p l e R s m args below meth c T locs cells slots) (hexec : p.tables.exec = Jvm.exec) {own : String} {index : Nat} {y : MethodName} {bytes : ByteArray} {maxL : Nat} {ret : Option FieldType} {hh : List (Nat × Nat × Nat × Nat)}
    (hown : s.vm.findClass own = some m.cls) (hlink : (Cond.methodLink own index y).before args s = true) (hstat : (Cond.static y).before args s = true) (hinit : (Cond.initialized y.cls).before args s = true)
    (hcode : (Cond.codeWith y bytes maxL ret hh).before args s = true) (hy : y.cls ≠ "java/lang/invoke/MethodHandle" ∧ y.cls ≠ "java/lang/invoke/VarHandle")
    {W9 : Nat} {Pre : Pt → Array Value → Prop} {Post : Pt → Array Value → Option Value → Pt → Prop} (hK : Back l R p e below s args y 3 W9 Pre Post)
    {g : JFrame} (hg : g.method = m) (hsize : g.locals.size = c.maxLocals) {argsL rest : List Value} (hlen : ∀ sig, parseMethodDescriptor y.desc = some sig → argsL.length = sig.parameters.length)
    (hstack : g.stack = argsL.reverse ++ rest) (hW : 2 * g.monitorRoom + (rest.map fun v => v.category).sum ≤ W9) (hdg : decode c.code g.pc = .ok (.invokestatic index, 3))
    (hpre : ∀ vm₁, s.WarmedH vm₁ → Pre ⟨T.setVm vm₁, locs, cells, slots⟩ argsL.toArray) :
    ∃ (v : Option Value) (vm₁ : Vm) (B : Pt), s.WarmedH vm₁ ∧ Stand p l e R s m args below meth c B.U B.locs B.cells B.slots ∧ Post ⟨T.setVm vm₁, locs, cells, slots⟩ argsL.toArray v B ∧
      ∀ target, Steps p.tables e below (B.U.setTop { g with pc := g.pc + 3, stack := v.toList ++ rest }) target → Steps p.tables e below (T.setTop g) target := by
  obtain ⟨mk, methM, cM, hnamed, hmethM, -, -, -, -, -, -, hsigM⟩ := Cond.codeWith_spec hcode
  have hstatic : methM.isStatic = true := Cond.static_spec hnamed hmethM hstat
  obtain ⟨kP, hkP, -⟩ := className_of_methodNamed hnamed
  have hinitP : kP.init = .initialized := Cond.initialized_spec (findClass_of_methodNamed hnamed) hkP hinit
  obtain ⟨vm₁, X₁, hstep₁⟩ := X.invokestatic hexec hown hlink hnamed hmethM hstatic hkP hinitP hy (g := g) hg (argsL := argsL) (rest := rest) (hlen _ hsigM) hstack hdg
  obtain ⟨v, B, X', hpost, hsteps⟩ := hK m meth c ⟨T.setVm vm₁, locs, cells, slots⟩ { g with stack := rest } (.invokestatic index) mk argsL.toArray X₁ hg hsize hdg hW (X₁.named hnamed) (hpre vm₁ X₁.warmed)
  exact ⟨v, vm₁, B, X₁.warmed, X', hpost, fun target h => hstep₁ _ fun acts => by rw [doInvoke_state]; exact hsteps.trans h⟩
theorem vx_runSW {y : MethodName} {bytes cc : ByteArray} {maxL nL mc ms n index : Nat} {ret : Option FieldType} {hh : List (Nat × Nat × Nat × Nat)} {ws : List Cond} {rm : Room} {Pc : Array Value → State → Prop} {Qc : Array Value → State → Outcome → State → Prop} {free : Addr → Prop} {Ts : List Cond} {own : String} {As rest : List Value} {g : JFrame}
    (S : CallFix p m c cc nL s args Ts own) (hM : Met l y ws rm Pc Qc mc ms free) (cw : vx_CSW R s args own index y bytes maxL ret hh ws rm mc ms n) (hp : PreS s H Pc As)
    (hg : g.method = m) (hn : As.length = n) (hsize : g.locals.size = nL) (hstack : g.stack = As.reverse ++ rest) (hW : 2 * g.monitorRoom + (rest.map fun v => v.category).sum ≤ 8) (hdg : decode cc g.pc = .ok (.invokestatic index, 3)) (hf : cells + mc ≤ R.cells ∧ slots + ms ≤ R.slots) :
    va_Run p l e R s m args below meth c H locs cells slots mc ms g rest (Qc As.toArray) (free) := by
  obtain ⟨⟨hrc, hrs, hfr, hlo, hws, hcw⟩, hcode, hini, hy, hlen, hl, hstt⟩ := cw
  have hK : Back l R p e below s args y 3 8 (PreOf R mc ms Pc) (PostOf Qc mc ms free) := va_backW (hh := hh) (bytes := bytes) (maxL := maxL) (ret := ret) hM hp.1 hrc hrs hfr hlo hws hcw (fun a' U hW => word_at hW (Or.inl (by first | rfl | simp [Cond.onTables, Cond.keeps, Cond.steady])) hini)
  obtain ⟨hx, hb, hml, ho, -⟩ := S
  intro T hT X
  obtain ⟨v, vm₁, ⟨U', l2, c2, s2⟩, hW₁, X', ⟨g', mk, t, L, e1, e2, hq, h1, hL, h2, h3⟩, st⟩ := vx_callSW X hx (hh := hh) (bytes := bytes) (maxL := maxL) (ret := ret) ho hl hstt hini hcode hy hK hg (hsize.trans hml.symm) (argsL := As) (rest := rest) (fun sig h => hn.trans (hlen sig h)) hstack hW (by rw [hb]; exact hdg)
    (fun vm₁ hW₁ => ⟨hf.1, hf.2, hp.2 (T.setVm vm₁) hT hW₁⟩)
  dsimp only [Pt.U, Pt.locs, Pt.cells, Pt.slots] at X' e1 e2 h1 h2 h3 st
  subst h1; subst h2; subst h3
  exact ⟨v, (T.setVm vm₁).calling g' mk As.toArray, t, U', L, hT, X', hL, e1, e2, hq, st⟩
/-- not caught here, past rows that name other classes: it goes on to the caller -/
theorem vx_outP {p : Program} {l : Launch} {e : Env} {R : Room} {s : State} {m : MethodId} {args : Array Value} {below : List Frame} {meth : Method} {c : Code} {H : Heap} {locs : List Loc} {cells slots : Nat} {free : Addr → Prop} {ls : Array Slot} {rest : List Value} {Qc : Array Value → State → Outcome → State → Prop} {XC : String → State → State → Prop}
    {pc : Nat} {own E : String} {ce : Cell} {q : Addr} {mc ms : Nat} (hown : s.vm.findClass own = some m.cls) (hlocks : meth.locks = false)
    (hpass : ∀ z ∈ c.exceptionTable.toList, covers z pc = false ∨ (z.catchType ≠ 0 ∧ ∃ nm : String, (Cond.classLink own z.catchType nm).before args s = true ∧ va_Nc E nm s)) (hcell : H[q]? = some ce) (hv : ce.vm = .none) (hcl : s.vm.findClass E = some ce.cls)
    (hx : ∀ t : State, t.heap = H → s.vm.Alike t.vm → XC E s t) (hf : ∀ z ∈ locs, free z.base) (hc : cells ≤ mc) (hs : slots ≤ ms) :
    vx_W p l e R s m args below meth c H locs cells slots (vx_MQ below Qc XC args s mc ms free) (F0 m pc ls rest) q := by
  intro T hT X
  have hpl : e.platform.magicAccessors = ({} : Platform).magicAccessors := by rw [X.admits.platform]
  obtain ⟨vm', hW', X', st⟩ := X.outThrough hlocks q (g := F0 m pc ls rest) rfl rfl rfl (cell := ce) (by rw [hT]; exact hcell) (by rw [hv]; rfl)
    (by obtain ⟨k9, h9, -⟩ := Vm.findClass_spec hcl; exact ⟨k9, h9⟩) (fun z hz => by
      rcases hpass z hz with h | ⟨hz0, nm, hl1, hn1⟩
      · exact Or.inl h
      · obtain ⟨c6, hc6, hcl6⟩ := Cond.classLink_spec hown hl1 e.platform hpl
        obtain ⟨a8, b8, h1, h2, h3⟩ := hn1
        cases Option.some.inj (h1.symm.trans hcl)
        cases Option.some.inj (h2.symm.trans hc6)
        exact Or.inr ⟨hz0, _, hcl6, h3⟩)
  obtain ⟨g₀, hfr⟩ := X'.frames_eq
  have hcell9 : ((T.setVm vm').setFrames (.throwing q :: below)).heap[q]? = some ce := by
    show T.heap[q]? = some ce
    rw [hT]; exact hcell
  have hend : Ended ((T.setVm vm').setFrames (.throwing q :: below)) below (.threw q) := State.frames_setFrames _ (State.cur_lt_of_frames hfr)
  refine ⟨(T.setVm vm').setFrames (.throwing q :: below), ?_, .threw q, X'.here.running, hend, Or.inr ⟨q, rfl, E, ce, locs, hx _ hT (X'.ends _).1.alike, hcell9, hv, hcl, (X'.ends _).1, (X'.ends _).2.mono hc hs, hf⟩⟩
  rw [X.pushThrowing_eq]
  exact st
/-- a thing of a world lies in the heap -/
theorem vx_lt {D : va_G} {cl : List vw_C} {ws : va_W} {H1 : Heap} (h : va_P D cl ws H1) {k : Nat} {q : Nat × va_E} (hk : ws[k]? = some q) : q.1 < H1.size := (h k q hk).lt
end VXS
/-! ===== END ===== -/
/-! ===== BEGIN methods with a table of their own: called by a name, returning or throwing ===== -/
section VXH
/-! vx_backW, vx_callVX, vx_callSX, vx_callVW, vx_runVW, vx_runVX, vx_runSX, vx_ofWH follow the same proofs as their sisters above (Free/Laws.lean, Shelf42/LK1.lean); vx_outP calls Shelf42/NT130.lean (outThrough). -/
section
variable {l : Launch} {R : Room} {p : Program} {e : Env} {below : List Frame} {s : State} {sargs : Array Value} {y : MethodName} {len W9 : Nat}
theorem vx_backW {ws : List Cond} {rm : Room} {Pc : Array Value → State → Prop} {Qc : Array Value → State → Outcome → State → Prop} {XC : String → State → State → Prop} {mc ms : Nat} {free : Addr → Prop} {bytes : ByteArray} {maxL : Nat} {ret : Option FieldType} {hh : List (Nat × Nat × Nat × Nat)}
    (hM : vx_Met l y ws rm Pc Qc XC mc ms free) (hblind : FrameBlind Pc) (hrc : rm.cells = mc) (hrs : rm.slots = ms)
    (hframes : rm.frames + 1 ≤ R.frames) (hlocals : W9 + (maxL + 11) + rm.locals ≤ R.locals)
    (hws : ∀ w ∈ ws, ∀ a' U, s.WarmedH U.vm → w.before a' U = true) (hcode : Cond.codeWith y bytes maxL ret hh ∈ ws) (hinit : ∀ a' U, s.WarmedH U.vm → (Cond.initialized y.cls).before a' U = true) :
    vx_Back l R p e below s sargs y len W9 (PreOf R mc ms Pc) (PostOf Qc mc ms free) (vx_Post XC mc ms free) := by
  intro m meth c A g ig mk a X hg hsize hdg hW hn hp
  have h1 : (headSpec ws rm).pre.before a A.U = true := atoms_intro fun w hw => hws w hw _ _ X.warmed
  have h2 : (Cond.codeWith y bytes maxL ret hh).before a A.U = true := hws _ hcode _ _ X.warmed
  have h3 : (Cond.initialized y.cls).before a A.U = true := hinit _ _ X.warmed
  have h4 : A.cells + (headSpec ws rm).room.cells ≤ R.cells := by rw [show (headSpec ws rm).room.cells = mc from hrc]; exact hp.1
  have h5 : A.slots + (headSpec ws rm).room.slots ≤ R.slots := by rw [show (headSpec ws rm).room.slots = ms from hrs]; exact hp.2.1
  have hPc : Pc a (A.U.calling g mk a) := hblind _ _ _ _ hp.2.2
  obtain ⟨U, Ls, c0, s0⟩ := A
  dsimp only [Pt.U, Pt.locs, Pt.cells, Pt.slots] at h1 h2 h3 h4 h5 X hn hPc ⊢
  obtain ⟨m9, methY, cY, hn9, hmY, hcY, -, hlY, -⟩ := Cond.codeWith_spec h2
  cases Option.some.inj (hn9.symm.trans hn)
  obtain ⟨kY, hkY, -⟩ := className_of_methodNamed hn
  have hinitY : kY.init = .initialized := Cond.initialized_spec (findClass_of_methodNamed hn) hkY h3
  have h : At U g.method c below := by rw [hg]; exact X.here
  have hlocals9 : W9 + (maxL + 11) + (headSpec ws rm).room.locals ≤ R.locals := hlocals
  have happ : (headSpec ws rm).appliesLoose y e.platform (U.calling g mk a) = true :=
    Spec.appliesLoose_calling (g := g) h hdg hn hkY hinitY
      (X.room_calling (g := g) (R' := (headSpec ws rm).room) hsize hmY hcY hframes (by rw [hlY]; omega) h4 h5) h1
  obtain ⟨mid, hmid⟩ := h.above
  have hfr : (U.setTop g).frames = (.java g :: mid) ++ below := by rw [State.frames_setTop' g h.top, hmid]; rfl
  obtain ⟨o, s₂, hsteps, -, hend, hq⟩ := Steps.callFree hM p X.admits X.cas X.clock (acts := []) hfr happ hPc trivial
  have hq' : vx_Q Qc XC mc ms free a (U.calling g mk a) o s₂ := hq
  rw [State.frames_setTop' g h.top] at hend
  obtain ⟨g₀, hg0⟩ := Option.isSome_iff_exists.mp h.top
  obtain ⟨r, hr⟩ := State.topJava?_eq_some.mp hg0
  have hr' : (({ U with heap := s₂.heap, slotsUsed := s₂.slotsUsed } : State).setVm s₂.vm).frames = .java g₀ :: r := hr
  rcases hq' with ⟨hqc, L, hfe, hL⟩ | ⟨q, rfl, E, ce, L, hx, hce, hcv, hcl, hW₂, hsm, hL⟩
  · obtain ⟨⟨v, rfl⟩, hW₂, e2, q2, q3, q4, q5, q6⟩ := id hfe
    have e3 : s₂ = ({ (U.calling g mk a).setFrames s₂.frames with heap := s₂.heap, slotsUsed := s₂.slotsUsed } : State).setVm s₂.vm := by
      have : s₂ = ({ s₂ with vm := (U.calling g mk a).vm } : State).setVm s₂.vm := rfl
      rw [e2] at this
      exact this
    obtain ⟨c₂, i₂, len₂, hc₂, hd₂, hf₂⟩ := hend
    have hW' : U.WarmedH s₂.vm := hW₂
    have hcc : c₂ = c := by
      have h1 : s₂.code? g.method = U.code? g.method := by
        rw [State.code?_eq, State.code?_eq, hW'.alike.method?]
      exact Option.some.inj (hc₂.symm.trans (h1.trans h.code))
    subst hcc
    have hlen : len₂ = len := by rw [hdg] at hd₂; cases hd₂; rfl
    subst hlen
    have hs₂ : s₂ = (({ U with heap := s₂.heap, slotsUsed := s₂.slotsUsed } : State).setVm s₂.vm).setTop { g with pc := g.pc + len₂, stack := v.toList ++ g.stack } := by
      refine e3.trans ?_
      rw [hf₂, State.calling_eq h.top, State.setFrames_setFrames, State.setTop_of_frames _ hr', hr]
      rfl
    have hsame : U.sameButNew ({ U with heap := s₂.heap, slotsUsed := s₂.slotsUsed } : State) L mc ms := by
      refine ⟨?_, q2, q3, q4, q5, q6⟩
      obtain ⟨t, ht, -⟩ := State.frames_cons hr
      show ({ U with heap := s₂.heap, slotsUsed := s₂.slotsUsed } : State) = { U.setFrames U.frames with heap := s₂.heap, slotsUsed := s₂.slotsUsed }
      rw [State.setFrames_self ht]
    subst hg
    refine Or.inl ⟨v, ⟨(({ U with heap := s₂.heap, slotsUsed := s₂.slotsUsed } : State).setVm s₂.vm), Ls ++ L, c0 + mc, s0 + ms⟩,
      ⟨X.admits, X.cas, X.clock, X.frames, X.room, X.hears, X.method, X.code, (X.here.setHeapUsed s₂.heap s₂.slotsUsed).setVm hW'.alike, X.tail, State.WarmedH.trans X.warmed hW', X.limits, X.bytes, X.same.trans (hsame.setVm s.vm)⟩,
      ⟨g, mk, s₂, L, rfl, rfl, hqc, rfl, hL, rfl, rfl⟩, ?_⟩
    show Steps p.tables e below _ ((({ U with heap := s₂.heap, slotsUsed := s₂.slotsUsed } : State).setVm s₂.vm).setTop { g with pc := g.pc + len₂, stack := v.toList ++ g.stack })
    rw [← hs₂]
    exact hsteps
  · obtain ⟨e2, q2, q3, q4, q5, q6⟩ := id hsm
    have e3 : s₂ = ({ (U.calling g mk a).setFrames s₂.frames with heap := s₂.heap, slotsUsed := s₂.slotsUsed } : State).setVm s₂.vm := by
      have : s₂ = ({ s₂ with vm := (U.calling g mk a).vm } : State).setVm s₂.vm := rfl
      rw [e2] at this
      exact this
    have hf₂ : s₂.frames = .throwing q :: .java g :: U.frames.tail := hend
    have hW' : U.WarmedH s₂.vm := hW₂
    have hs₂ : s₂ = ((({ U with heap := s₂.heap, slotsUsed := s₂.slotsUsed } : State).setVm s₂.vm).setTop g).pushFrame (.throwing q) := by
      refine e3.trans ?_
      rw [hf₂, State.calling_eq h.top, State.setFrames_setFrames, State.pushFrame, State.frames_setTop _ hr', State.setTop_of_frames _ hr', State.setFrames_setFrames, hr]
      rfl
    have hsame : U.sameButNew ({ U with heap := s₂.heap, slotsUsed := s₂.slotsUsed } : State) L mc ms := by
      refine ⟨?_, q2, q3, q4, q5, q6⟩
      obtain ⟨t, ht, -⟩ := State.frames_cons hr
      show ({ U with heap := s₂.heap, slotsUsed := s₂.slotsUsed } : State) = { U.setFrames U.frames with heap := s₂.heap, slotsUsed := s₂.slotsUsed }
      rw [State.setFrames_self ht]
    subst hg
    refine Or.inr ⟨q, ⟨(({ U with heap := s₂.heap, slotsUsed := s₂.slotsUsed } : State).setVm s₂.vm), Ls ++ L, c0 + mc, s0 + ms⟩,
      ⟨X.admits, X.cas, X.clock, X.frames, X.room, X.hears, X.method, X.code, (X.here.setHeapUsed s₂.heap s₂.slotsUsed).setVm hW'.alike, X.tail, State.WarmedH.trans X.warmed hW', X.limits, X.bytes, X.same.trans (hsame.setVm s.vm)⟩,
      ⟨g, mk, s₂, L, E, ce, rfl, rfl, hx, hce, hcv, hcl, rfl, hL, rfl, rfl⟩, ?_⟩
    show Steps p.tables e below _ (((({ U with heap := s₂.heap, slotsUsed := s₂.slotsUsed } : State).setVm s₂.vm).setTop g).pushFrame (.throwing q))
    rw [← hs₂]
    exact hsteps
end
variable {p : Program} {l : Launch} {e : Env} {R : Room} {s : State} {m : MethodId} {args : Array Value} {below : List Frame} {meth : Method} {c : Code} {T : State} {H : Heap} {locs : List Loc} {cells slots : Nat}
theorem vx_callVX (X : Stand p l e R s m args below meth c T locs cells slots) (hexec : p.tables.exec = Jvm.exec) {own C : String} {index : Nat} {y : MethodName} {bytes : ByteArray} {maxL : Nat} {ret : Option FieldType} {hh : List (Nat × Nat × Nat × Nat)}
    (hown : s.vm.findClass own = some m.cls) (hlink : (Cond.methodLink own index y).before args s = true) (hinst : (Cond.instanceMethod y).before args s = true) (hsel : (Cond.selects C y y).before args s = true)
    (hcode : (Cond.codeWith y bytes maxL ret hh).before args s = true) (hy : y.cls ≠ "java/lang/invoke/MethodHandle" ∧ y.cls ≠ "java/lang/invoke/VarHandle")
    {W9 : Nat} {Pre : Pt → Array Value → Prop} {Post : Pt → Array Value → Option Value → Pt → Prop} {PostX : Pt → Array Value → Addr → Pt → Prop} (hK : vx_Back l R p e below s args y 3 W9 Pre Post PostX)
    {b : Addr} {cellB : Cell} (hcell : T.heap[b]? = some cellB) (hobj : cellB.vm.isStatics = false) (hcls : s.vm.findClass C = some cellB.cls)
    {g : JFrame} (hg : g.method = m) (hsize : g.locals.size = c.maxLocals) {argsL rest : List Value} (hlen : ∀ sig, parseMethodDescriptor y.desc = some sig → argsL.length = sig.parameters.length)
    (hstack : g.stack = argsL.reverse ++ .ref b :: rest) (hW : 2 * g.monitorRoom + (rest.map fun v => v.category).sum ≤ W9) (hdg : decode c.code g.pc = .ok (.invokevirtual index, 3))
    (hpre : ∀ vm₁, s.WarmedH vm₁ → Pre ⟨T.setVm vm₁, locs, cells, slots⟩ (Value.ref b :: argsL).toArray) :
    (∃ (v : Option Value) (vm₁ : Vm) (B : Pt), s.WarmedH vm₁ ∧ Stand p l e R s m args below meth c B.U B.locs B.cells B.slots ∧ Post ⟨T.setVm vm₁, locs, cells, slots⟩ (Value.ref b :: argsL).toArray v B ∧
      ∀ target, Steps p.tables e below (B.U.setTop { g with pc := g.pc + 3, stack := v.toList ++ rest }) target → Steps p.tables e below (T.setTop g) target) ∨
    (∃ (q : Addr) (vm₁ : Vm) (B : Pt), s.WarmedH vm₁ ∧ Stand p l e R s m args below meth c B.U B.locs B.cells B.slots ∧ PostX ⟨T.setVm vm₁, locs, cells, slots⟩ (Value.ref b :: argsL).toArray q B ∧
      Steps p.tables e below (T.setTop g) ((B.U.setTop { g with stack := rest }).pushFrame (.throwing q))) := by
  obtain ⟨mk, methM, hnamed, hmethM, hstM, habM⟩ := Cond.instanceMethod_spec hinst
  obtain ⟨m8, methM', cM, hn8, hmethM', -, -, -, -, -, -, hsigM⟩ := Cond.codeWith_spec hcode
  cases Option.some.inj (hn8.symm.trans hnamed)
  cases hmethM.symm.trans hmethM'
  obtain ⟨c2, r2, m2, q1, q2, q3, q4, kP, hkP, hkPi⟩ := Cond.selects_spec hsel
  cases hcls.symm.trans q1
  cases (State.methodFound?_of_named hnamed hy).symm.trans q2
  cases hnamed.symm.trans q3
  have hselP : selectMethod e.platform s.vm cellB.cls mk = .method mk := by rw [Launch.admits_selectMethod X.admits]; exact q4
  obtain ⟨vm₁, X₁, hstep₁⟩ := X.invokevirtual hexec hown hlink hnamed hmethM hstM hkP hkPi hy (a := b) (cell := cellB) hcell
    (fun z h => by rw [h] at hobj; cases hobj) hselP hmethM habM hkP hkPi (g := g) hg (argsL := argsL) (rest := rest) (hlen _ hsigM) hstack hdg
  rcases hK m meth c ⟨T.setVm vm₁, locs, cells, slots⟩ { g with stack := rest } (.invokevirtual index) mk (Value.ref b :: argsL).toArray X₁ hg hsize hdg hW (X₁.named hnamed) (hpre vm₁ X₁.warmed) with ⟨v, B, X', hpost, hsteps⟩ | ⟨q, B, X', hpost, hsteps⟩
  · exact Or.inl ⟨v, vm₁, B, X₁.warmed, X', hpost, fun target h => hstep₁ _ fun acts => by rw [doInvoke_state]; exact hsteps.trans h⟩
  · exact Or.inr ⟨q, vm₁, B, X₁.warmed, X', hpost, hstep₁ _ fun acts => by rw [doInvoke_state]; exact hsteps⟩
theorem vx_callSX (X : Stand p l e R s m args below meth c T locs cells slots) (hexec : p.tables.exec = Jvm.exec) {own : String} {index : Nat} {y : MethodName} {bytes : ByteArray} {maxL : Nat} {ret : Option FieldType} {hh : List (Nat × Nat × Nat × Nat)}
    (hown : s.vm.findClass own = some m.cls) (hlink : (Cond.methodLink own index y).before args s = true) (hstat : (Cond.static y).before args s = true) (hinit : (Cond.initialized y.cls).before args s = true)
    (hcode : (Cond.codeWith y bytes maxL ret hh).before args s = true) (hy : y.cls ≠ "java/lang/invoke/MethodHandle" ∧ y.cls ≠ "java/lang/invoke/VarHandle")
    {W9 : Nat} {Pre : Pt → Array Value → Prop} {Post : Pt → Array Value → Option Value → Pt → Prop} {PostX : Pt → Array Value → Addr → Pt → Prop} (hK : vx_Back l R p e below s args y 3 W9 Pre Post PostX)
    {g : JFrame} (hg : g.method = m) (hsize : g.locals.size = c.maxLocals) {argsL rest : List Value} (hlen : ∀ sig, parseMethodDescriptor y.desc = some sig → argsL.length = sig.parameters.length)
    (hstack : g.stack = argsL.reverse ++ rest) (hW : 2 * g.monitorRoom + (rest.map fun v => v.category).sum ≤ W9) (hdg : decode c.code g.pc = .ok (.invokestatic index, 3))
    (hpre : ∀ vm₁, s.WarmedH vm₁ → Pre ⟨T.setVm vm₁, locs, cells, slots⟩ argsL.toArray) :
    (∃ (v : Option Value) (vm₁ : Vm) (B : Pt), s.WarmedH vm₁ ∧ Stand p l e R s m args below meth c B.U B.locs B.cells B.slots ∧ Post ⟨T.setVm vm₁, locs, cells, slots⟩ argsL.toArray v B ∧
      ∀ target, Steps p.tables e below (B.U.setTop { g with pc := g.pc + 3, stack := v.toList ++ rest }) target → Steps p.tables e below (T.setTop g) target) ∨
    (∃ (q : Addr) (vm₁ : Vm) (B : Pt), s.WarmedH vm₁ ∧ Stand p l e R s m args below meth c B.U B.locs B.cells B.slots ∧ PostX ⟨T.setVm vm₁, locs, cells, slots⟩ argsL.toArray q B ∧
      Steps p.tables e below (T.setTop g) ((B.U.setTop { g with stack := rest }).pushFrame (.throwing q))) := by
  obtain ⟨mk, methM, cM, hnamed, hmethM, -, -, -, -, -, -, hsigM⟩ := Cond.codeWith_spec hcode
  have hstatic : methM.isStatic = true := Cond.static_spec hnamed hmethM hstat
  obtain ⟨kP, hkP, -⟩ := className_of_methodNamed hnamed
  have hinitP : kP.init = .initialized := Cond.initialized_spec (findClass_of_methodNamed hnamed) hkP hinit
  obtain ⟨vm₁, X₁, hstep₁⟩ := X.invokestatic hexec hown hlink hnamed hmethM hstatic hkP hinitP hy (g := g) hg (argsL := argsL) (rest := rest) (hlen _ hsigM) hstack hdg
  rcases hK m meth c ⟨T.setVm vm₁, locs, cells, slots⟩ { g with stack := rest } (.invokestatic index) mk argsL.toArray X₁ hg hsize hdg hW (X₁.named hnamed) (hpre vm₁ X₁.warmed) with ⟨v, B, X', hpost, hsteps⟩ | ⟨q, B, X', hpost, hsteps⟩
  · exact Or.inl ⟨v, vm₁, B, X₁.warmed, X', hpost, fun target h => hstep₁ _ fun acts => by rw [doInvoke_state]; exact hsteps.trans h⟩
  · exact Or.inr ⟨q, vm₁, B, X₁.warmed, X', hpost, hstep₁ _ fun acts => by rw [doInvoke_state]; exact hsteps⟩
theorem vx_callVW (X : Stand p l e R s m args below meth c T locs cells slots) (hexec : p.tables.exec = Jvm.exec) {own C : String} {index : Nat} {y : MethodName} {bytes : ByteArray} {maxL : Nat} {ret : Option FieldType} {hh : List (Nat × Nat × Nat × Nat)}
    (hown : s.vm.findClass own = some m.cls) (hlink : (Cond.methodLink own index y).before args s = true) (hinst : (Cond.instanceMethod y).before args s = true) (hsel : (Cond.selects C y y).before args s = true)
    (hcode : (Cond.codeWith y bytes maxL ret hh).before args s = true) (hy : y.cls ≠ "java/lang/invoke/MethodHandle" ∧ y.cls ≠ "java/lang/invoke/VarHandle")
    {W9 : Nat} {Pre : Pt → Array Value → Prop} {Post : Pt → Array Value → Option Value → Pt → Prop} (hK : Back l R p e below s args y 3 W9 Pre Post)
    {b : Addr} {cellB : Cell} (hcell : T.heap[b]? = some cellB) (hobj : cellB.vm.isStatics = false) (hcls : s.vm.findClass C = some cellB.cls)
    {g : JFrame} (hg : g.method = m) (hsize : g.locals.size = c.maxLocals) {argsL rest : List Value} (hlen : ∀ sig, parseMethodDescriptor y.desc = some sig → argsL.length = sig.parameters.length)
    (hstack : g.stack = argsL.reverse ++ .ref b :: rest) (hW : 2 * g.monitorRoom + (rest.map fun v => v.category).sum ≤ W9) (hdg : decode c.code g.pc = .ok (.invokevirtual index, 3))
    (hpre : ∀ vm₁, s.WarmedH vm₁ → Pre ⟨T.setVm vm₁, locs, cells, slots⟩ (Value.ref b :: argsL).toArray) :
    ∃ (v : Option Value) (vm₁ : Vm) (B : Pt), s.WarmedH vm₁ ∧ Stand p l e R s m args below meth c B.U B.locs B.cells B.slots ∧ Post ⟨T.setVm vm₁, locs, cells, slots⟩ (Value.ref b :: argsL).toArray v B ∧
      ∀ target, Steps p.tables e below (B.U.setTop { g with pc := g.pc + 3, stack := v.toList ++ rest }) target → Steps p.tables e below (T.setTop g) target := by
  obtain ⟨mk, methM, hnamed, hmethM, hstM, habM⟩ := Cond.instanceMethod_spec hinst
  obtain ⟨m8, methM', cM, hn8, hmethM', -, -, -, -, -, -, hsigM⟩ := Cond.codeWith_spec hcode
  cases Option.some.inj (hn8.symm.trans hnamed)
  cases hmethM.symm.trans hmethM'
  obtain ⟨c2, r2, m2, q1, q2, q3, q4, kP, hkP, hkPi⟩ := Cond.selects_spec hsel
  cases hcls.symm.trans q1
  cases (State.methodFound?_of_named hnamed hy).symm.trans q2
  cases hnamed.symm.trans q3
  have hselP : selectMethod e.platform s.vm cellB.cls mk = .method mk := by rw [Launch.admits_selectMethod X.admits]; exact q4
  obtain ⟨vm₁, X₁, hstep₁⟩ := X.invokevirtual hexec hown hlink hnamed hmethM hstM hkP hkPi hy (a := b) (cell := cellB) hcell
    (fun z h => by rw [h] at hobj; cases hobj) hselP hmethM habM hkP hkPi (g := g) hg (argsL := argsL) (rest := rest) (hlen _ hsigM) hstack hdg
  obtain ⟨v, B, X', hpost, hsteps⟩ := hK m meth c ⟨T.setVm vm₁, locs, cells, slots⟩ { g with stack := rest } (.invokevirtual index) mk (Value.ref b :: argsL).toArray X₁ hg hsize hdg hW (X₁.named hnamed) (hpre vm₁ X₁.warmed)
  exact ⟨v, vm₁, B, X₁.warmed, X', hpost, fun target h => hstep₁ _ fun acts => by rw [doInvoke_state]; exact hsteps.trans h⟩
abbrev vx_CVW (R : Room) (s : State) (args : Array Value) (own C : String) (index : Nat) (y : MethodName) (bytes : ByteArray) (maxL : Nat) (ret : Option FieldType) (hh : List (Nat × Nat × Nat × Nat)) (ws : List Cond) (rm : Room) (mc ms n : Nat) : Prop :=
  (rm.cells = mc ∧ rm.slots = ms ∧ rm.frames + 1 ≤ R.frames ∧ 8 + (maxL + 11) + rm.locals ≤ R.locals ∧ (∀ w ∈ ws, ∀ (a' : Array Value) (U : State), s.WarmedH U.vm → w.before a' U = true) ∧ Cond.codeWith y bytes maxL ret hh ∈ ws) ∧
  (Cond.codeWith y bytes maxL ret hh).before args s = true ∧ (Cond.initialized y.cls).before args s = true ∧ (y.cls ≠ "java/lang/invoke/MethodHandle" ∧ y.cls ≠ "java/lang/invoke/VarHandle") ∧
  (∀ sig, parseMethodDescriptor y.desc = some sig → n = sig.parameters.length) ∧ (Cond.methodLink own index y).before args s = true ∧ (Cond.instanceMethod y).before args s = true ∧ (Cond.selects C y y).before args s = true
theorem vx_cwVW {own C : String} {index maxL mc ms : Nat} {y : MethodName} {bytes : ByteArray} {ret : Option FieldType} {hh : List (Nat × Nat × Nat × Nat)} {Ts ws ws' : List Cond} {rm : Room} (n : Nat) (ht : ∀ w ∈ Ts, w.before args s = true) (hT : GoodIn Ts (wsV own index C y ws)) (hw : ws = Cond.codeWith y bytes maxL ret hh :: ws') (hrc : rm.cells = mc) (hrs : rm.slots = ms)
    (hd : y.cls = C ∧ y.cls ≠ "java/lang/invoke/MethodHandle" ∧ y.cls ≠ "java/lang/invoke/VarHandle" ∧ (parseMethodDescriptor y.desc).map (fun d => d.parameters.length) = some n) (hR : rm.frames + 1 ≤ R.frames ∧ 8 + (maxL + 11) + rm.locals ≤ R.locals) :
    vx_CVW R s args own C index y bytes maxL ret hh ws rm mc ms n := by
  obtain ⟨hC, hd⟩ := hd
  subst hC
  have ok : ∀ w ∈ wsV own index y.cls y ws, w.before args s = true := fun w h => ht w (hT w h).1
  have hG : GoodIn Ts ws := fun w h => hT w (by unfold wsV; exact List.mem_append_right _ h)
  have hc : Cond.codeWith y bytes maxL ret hh ∈ ws := by rw [hw]; exact List.mem_cons_self
  refine ⟨⟨hrc, hrs, hR.1, hR.2, pay_in ht hG, hc⟩, ht _ (hG _ hc).1, ok _ (by simp [wsV]), ⟨hd.1, hd.2.1⟩, fun sig h => ?_, ok _ (by simp [wsV]), ok _ (by simp [wsV]), ok _ (by simp [wsV])⟩
  have h2 := hd.2.2
  rw [h] at h2
  exact (Option.some.inj h2).symm
theorem vx_runVW {y : MethodName} {bytes cc : ByteArray} {maxL nL mc ms n index : Nat} {ret : Option FieldType} {hh : List (Nat × Nat × Nat × Nat)} {ws : List Cond} {rm : Room} {Pc : Array Value → State → Prop} {Qc : Array Value → State → Outcome → State → Prop} {free : Addr → Prop} {Ts : List Cond} {own C : String} {b : Addr} {As rest : List Value} {g : JFrame}
    (S : CallFix p m c cc nL s args Ts own) (hM : Met l y ws rm Pc Qc mc ms free) (cw : vx_CVW R s args own C index y bytes maxL ret hh ws rm mc ms n) (hp : PreV s H C b Pc As)
    (hg : g.method = m) (hn : As.length = n) (hsize : g.locals.size = nL) (hstack : g.stack = As.reverse ++ .ref b :: rest) (hW : 2 * g.monitorRoom + (rest.map fun v => v.category).sum ≤ 8) (hdg : decode cc g.pc = .ok (.invokevirtual index, 3)) (hf : cells + mc ≤ R.cells ∧ slots + ms ≤ R.slots) :
    va_Run p l e R s m args below meth c H locs cells slots mc ms g rest (Qc (Value.ref b :: As).toArray) free := by
  obtain ⟨⟨hrc, hrs, hfr, hlo, hws, hcw⟩, hcode, hini, hy, hlen, hl, hin, hse⟩ := cw
  have hK : Back l R p e below s args y 3 8 (PreOf R mc ms Pc) (PostOf Qc mc ms free) := va_backW (hh := hh) (bytes := bytes) (maxL := maxL) (ret := ret) hM hp.1 hrc hrs hfr hlo hws hcw (fun a' U hW => word_at hW (Or.inl (by first | rfl | simp [Cond.onTables, Cond.keeps, Cond.steady])) hini)
  obtain ⟨hx, hb, hml, ho, -⟩ := S
  obtain ⟨-, ⟨cellB, hcB, hoB, hclB⟩, hPc⟩ := hp
  intro T hT X
  obtain ⟨v, vm₁, ⟨U', l2, c2, s2⟩, hW₁, X', ⟨g', mk, t, L, e1, e2, hq, h1, hL, h2, h3⟩, st⟩ := vx_callVW X hx (C := C) (hh := hh) (bytes := bytes) (maxL := maxL) (ret := ret) ho hl hin hse hcode hy hK (by rw [hT]; exact hcB) hoB hclB hg (hsize.trans hml.symm) (argsL := As) (rest := rest) (fun sig h => hn.trans (hlen sig h)) hstack hW (by rw [hb]; exact hdg)
    (fun vm₁ hW₁ => ⟨hf.1, hf.2, hPc (T.setVm vm₁) hT hW₁⟩)
  dsimp only [Pt.U, Pt.locs, Pt.cells, Pt.slots] at X' e1 e2 h1 h2 h3 st
  subst h1; subst h2; subst h3
  exact ⟨v, (T.setVm vm₁).calling g' mk (Value.ref b :: As).toArray, t, U', L, hT, X', hL, e1, e2, hq, st⟩
section
variable {y : MethodName} {bytes cc : ByteArray} {maxL nL mc ms n index : Nat} {ret : Option FieldType} {ws : List Cond} {rm : Room} {Pc : Array Value → State → Prop} {Qc : Array Value → State → Outcome → State → Prop} {XC : String → State → State → Prop} {free : Addr → Prop} {Ts : List Cond} {own C : String} {b : Addr} {As rest : List Value} {g : JFrame}
theorem vx_runVX {hh : List (Nat × Nat × Nat × Nat)} (S : CallFix p m c cc nL s args Ts own) (hM : vx_Met l y ws rm Pc Qc XC mc ms free) (cw : vx_CVW R s args own C index y bytes maxL ret hh ws rm mc ms n) (hp : PreV s H C b Pc As)
    (hg : g.method = m) (hn : As.length = n) (hsize : g.locals.size = nL) (hstack : g.stack = As.reverse ++ .ref b :: rest) (hW : 2 * g.monitorRoom + (rest.map fun v => v.category).sum ≤ 8) (hdg : decode cc g.pc = .ok (.invokevirtual index, 3)) (hf : cells + mc ≤ R.cells ∧ slots + ms ≤ R.slots) :
    vx_Run p l e R s m args below meth c H locs cells slots mc ms g rest (Qc (Value.ref b :: As).toArray) XC free := by
  obtain ⟨⟨hrc, hrs, hfr, hlo, hws, hcw⟩, hcode, hini, hy, hlen, hl, hin, hse⟩ := cw
  have hK : vx_Back l R p e below s args y 3 8 (PreOf R mc ms Pc) (PostOf Qc mc ms free) (vx_Post XC mc ms free) := vx_backW (hh := hh) (bytes := bytes) (maxL := maxL) (ret := ret) hM hp.1 hrc hrs hfr hlo hws hcw (fun a' U hW => word_at hW (Or.inl (by first | rfl | simp [Cond.onTables, Cond.keeps, Cond.steady])) hini)
  obtain ⟨hx, hb, hml, ho, -⟩ := S
  obtain ⟨-, ⟨cellB, hcB, hoB, hclB⟩, hPc⟩ := hp
  intro T hT X
  rcases vx_callVX X hx (C := C) (hh := hh) (bytes := bytes) (maxL := maxL) (ret := ret) ho hl hin hse hcode hy hK (by rw [hT]; exact hcB) hoB hclB hg (hsize.trans hml.symm) (argsL := As) (rest := rest) (fun sig h => hn.trans (hlen sig h)) hstack hW (by rw [hb]; exact hdg)
    (fun vm₁ hW₁ => ⟨hf.1, hf.2, hPc (T.setVm vm₁) hT hW₁⟩) with ⟨v, vm₁, ⟨U', l2, c2, s2⟩, hW₁, X', ⟨g', mk, t, L, e1, e2, hq, h1, hL, h2, h3⟩, st⟩ | ⟨q, vm₁, ⟨U', l2, c2, s2⟩, hW₁, X', ⟨g', mk, t, L, E, ce, e1, e2, hq, hce, hcv, hcl, h1, hL, h2, h3⟩, st⟩
  · dsimp only [Pt.U, Pt.locs, Pt.cells, Pt.slots] at X' e1 e2 h1 h2 h3 st
    subst h1; subst h2; subst h3
    exact Or.inl ⟨v, (T.setVm vm₁).calling g' mk (Value.ref b :: As).toArray, t, U', L, hT, X', hL, e1, e2, hq, st⟩
  · dsimp only [Pt.U, Pt.locs, Pt.cells, Pt.slots] at X' e1 e2 h1 h2 h3 st hcl
    subst h1; subst h2; subst h3
    exact Or.inr ⟨q, (T.setVm vm₁).calling g' mk (Value.ref b :: As).toArray, t, U', L, E, ce, hT, X', hL, e1, e2, hq, hce, hcv, vx_cls hW₁ hcl, st⟩
theorem vx_runSX {hh : List (Nat × Nat × Nat × Nat)} (S : CallFix p m c cc nL s args Ts own) (hM : vx_Met l y ws rm Pc Qc XC mc ms free) (cw : vx_CSW R s args own index y bytes maxL ret hh ws rm mc ms n) (hp : PreS s H Pc As)
    (hg : g.method = m) (hn : As.length = n) (hsize : g.locals.size = nL) (hstack : g.stack = As.reverse ++ rest) (hW : 2 * g.monitorRoom + (rest.map fun v => v.category).sum ≤ 8) (hdg : decode cc g.pc = .ok (.invokestatic index, 3)) (hf : cells + mc ≤ R.cells ∧ slots + ms ≤ R.slots) :
    vx_Run p l e R s m args below meth c H locs cells slots mc ms g rest (Qc As.toArray) XC free := by
  obtain ⟨⟨hrc, hrs, hfr, hlo, hws, hcw⟩, hcode, hini, hy, hlen, hl, hstt⟩ := cw
  have hK : vx_Back l R p e below s args y 3 8 (PreOf R mc ms Pc) (PostOf Qc mc ms free) (vx_Post XC mc ms free) := vx_backW (hh := hh) (bytes := bytes) (maxL := maxL) (ret := ret) hM hp.1 hrc hrs hfr hlo hws hcw (fun a' U hW => word_at hW (Or.inl (by first | rfl | simp [Cond.onTables, Cond.keeps, Cond.steady])) hini)
  obtain ⟨hx, hb, hml, ho, -⟩ := S
  intro T hT X
  rcases vx_callSX X hx (hh := hh) (bytes := bytes) (maxL := maxL) (ret := ret) ho hl hstt hini hcode hy hK hg (hsize.trans hml.symm) (argsL := As) (rest := rest) (fun sig h => hn.trans (hlen sig h)) hstack hW (by rw [hb]; exact hdg)
    (fun vm₁ hW₁ => ⟨hf.1, hf.2, hp.2 (T.setVm vm₁) hT hW₁⟩) with ⟨v, vm₁, ⟨U', l2, c2, s2⟩, hW₁, X', ⟨g', mk, t, L, e1, e2, hq, h1, hL, h2, h3⟩, st⟩ | ⟨q, vm₁, ⟨U', l2, c2, s2⟩, hW₁, X', ⟨g', mk, t, L, E, ce, e1, e2, hq, hce, hcv, hcl, h1, hL, h2, h3⟩, st⟩
  · dsimp only [Pt.U, Pt.locs, Pt.cells, Pt.slots] at X' e1 e2 h1 h2 h3 st
    subst h1; subst h2; subst h3
    exact Or.inl ⟨v, (T.setVm vm₁).calling g' mk As.toArray, t, U', L, hT, X', hL, e1, e2, hq, st⟩
  · dsimp only [Pt.U, Pt.locs, Pt.cells, Pt.slots] at X' e1 e2 h1 h2 h3 st hcl
    subst h1; subst h2; subst h3
    exact Or.inr ⟨q, (T.setVm vm₁).calling g' mk As.toArray, t, U', L, E, ce, hT, X', hL, e1, e2, hq, hce, hcv, vx_cls hW₁ hcl, st⟩
end
end VXH
theorem vx_ofWH {l : Launch} {y : MethodName} {ws ws' : List Cond} {rm : Room} {Pc : Array Value → State → Prop} {Qc : Array Value → State → Outcome → State → Prop} {XC : String → State → State → Prop} {mc ms : Nat} {free : Addr → Prop} {cc : ByteArray} {maxL : Nat} {ret : Option FieldType} {hh : List (Nat × Nat × Nat × Nat)}
    (hy : plainName y.cls = true) (hw : ws = Cond.codeWith y cc maxL ret hh :: ws')
    (body : ∀ p e s m args below meth c s₁, BodyLoose p l y (headSpec ws rm) cc maxL ret e s m args below meth c s₁ → c.maxLocals = maxL → Pc args s →
      W p l e (headSpec ws rm).room s m args below meth c s.heap [] 0 0 (vx_MQ below Qc XC args s mc ms free) (entryFrame m args maxL)) : vx_Met l y ws rm Pc Qc XC mc ms free := by
  refine MetFree.of_bodyS (code := cc) (maxLocals := maxL) (ret := ret) hy ?_ ?_
  · intro args s m h hn
    obtain ⟨m9, meth, c, hn9, h1, h2, h3, h4, -, h5, h6, -⟩ := Cond.codeWith_spec (atoms_spec (ws := ws) h _ (by rw [hw]; exact List.mem_cons_self))
    cases hn.symm.trans hn9
    exact ⟨meth, c, h1, h2, h3, h4, h5, h6⟩
  · intro p e s m args below meth c s₁ B hml hP _
    have hh0 : s₁.heap = s.heap := by rw [B.state]; rfl
    obtain ⟨t, a1, o, b1, b2, b3⟩ := body p e s m args below meth c s₁ B hml hP s₁ hh0 (Stand.of_body B)
    exact ⟨t, o, a1, b1, b2, b3⟩
/-! ===== END ===== -/

/-! ===== BEGIN printed: names, fields, word lists, decode rows ===== -/
def RX0 : String := "WakeBanks$Cable"
def TX0 : u_T := fun k => match k with
  | 0 => ("WakeBanks$Cable", "rating", "I", false)
  | 1 => ("WakeBanks$Cable", "heat", "I", false)
  | _ => ("WakeBanks$Cable", "through", "I", false)
def tyX0 : Nat → FieldType := fun k => match k with
  | 0 => .int
  | 1 => .int
  | _ => .int
abbrev wsX00 : List Cond := u_ws RX0 TX0 3
theorem nmX0 : ∀ a, a < 3 → ∀ b, b < 3 → a ≠ b → (TX0 a).2.1 ≠ (TX0 b).2.1 := by decide +kernel
theorem tyX0_ok : ∀ k, k < 3 → parseFieldDescriptor (TX0 k).2.2.1 = some (tyX0 k) := by decide +kernel
abbrev cX0_init : ByteArray := prog_2_method_1_code
def yX0_init : MethodName := ⟨RX0, "<init>", "()V"⟩
abbrev cX0_copyFrom : ByteArray := prog_2_method_2_code
def yX0_copyFrom : MethodName := ⟨RX0, "copyFrom", "(LWakeBanks$Cable;)V"⟩
abbrev cX0_limit : ByteArray := prog_2_method_3_code
def yX0_limit : MethodName := ⟨RX0, "limit", "()I"⟩
abbrev cX0_carry : ByteArray := prog_2_method_4_code
def yX0_carry : MethodName := ⟨RX0, "carry", "(I)V"⟩
def RX1 : String := "WakeBanks$Extremes"
def TX1 : u_T := fun k => match k with
  | 0 => ("WakeBanks$Extremes", "row", "[I", true)
  | 1 => ("WakeBanks$Extremes", "count", "I", false)
  | 2 => ("WakeBanks$Extremes", "damage", "I", false)
  | _ => ("WakeBanks$Extremes", "cycles", "I", false)
def tyX1 : Nat → FieldType := fun k => match k with
  | 0 => .array .int
  | 1 => .int
  | 2 => .int
  | _ => .int
abbrev wsX10 : List Cond := u_ws RX1 TX1 4
theorem nmX1 : ∀ a, a < 4 → ∀ b, b < 4 → a ≠ b → (TX1 a).2.1 ≠ (TX1 b).2.1 := by decide +kernel
theorem tyX1_ok : ∀ k, k < 4 → parseFieldDescriptor (TX1 k).2.2.1 = some (tyX1 k) := by decide +kernel
abbrev cX1_init : ByteArray := prog_3_method_1_code
def yX1_init : MethodName := ⟨RX1, "<init>", "()V"⟩
abbrev cX1_copyFrom : ByteArray := prog_3_method_2_code
def yX1_copyFrom : MethodName := ⟨RX1, "copyFrom", "(LWakeBanks$Extremes;)V"⟩
abbrev cX1_put : ByteArray := prog_3_method_3_code
def yX1_put : MethodName := ⟨RX1, "put", "(I)I"⟩
abbrev cX1_goesOn : ByteArray := prog_3_method_4_code
def yX1_goesOn : MethodName := ⟨RX1, "goesOn", "(I)Z"⟩
abbrev cX1_hasCycle : ByteArray := prog_3_method_5_code
def yX1_hasCycle : MethodName := ⟨RX1, "hasCycle", "()Z"⟩
abbrev cX1_takeOut : ByteArray := prog_3_method_6_code
def yX1_takeOut : MethodName := ⟨RX1, "takeOut", "(II)V"⟩
def RX2 : String := "WakeBanks$Ledger"
def TX2 : u_T := fun k => match k with
  | 0 => ("WakeBanks$Ledger", "nominated", "[I", true)
  | 1 => ("WakeBanks$Ledger", "potential", "I", false)
  | 2 => ("WakeBanks$Ledger", "delivered", "I", false)
  | 3 => ("WakeBanks$Ledger", "latest", "I", false)
  | _ => ("WakeBanks$Ledger", "money", "I", false)
def tyX2 : Nat → FieldType := fun k => match k with
  | 0 => .array .int
  | 1 => .int
  | 2 => .int
  | 3 => .int
  | _ => .int
abbrev wsX20 : List Cond := u_ws RX2 TX2 5
theorem nmX2 : ∀ a, a < 5 → ∀ b, b < 5 → a ≠ b → (TX2 a).2.1 ≠ (TX2 b).2.1 := by decide +kernel
theorem tyX2_ok : ∀ k, k < 5 → parseFieldDescriptor (TX2 k).2.2.1 = some (tyX2 k) := by decide +kernel
abbrev cX2_init : ByteArray := prog_4_method_1_code
def yX2_init : MethodName := ⟨RX2, "<init>", "()V"⟩
abbrev cX2_copyFrom : ByteArray := prog_4_method_2_code
def yX2_copyFrom : MethodName := ⟨RX2, "copyFrom", "(LWakeBanks$Ledger;)V"⟩
abbrev cX2_put : ByteArray := prog_4_method_3_code
def yX2_put : MethodName := ⟨RX2, "put", "(II)V"⟩
abbrev cX2_nominatedCount : ByteArray := prog_4_method_4_code
def yX2_nominatedCount : MethodName := ⟨RX2, "nominatedCount", "()I"⟩
abbrev cX2_book : ByteArray := prog_4_method_5_code
def yX2_book : MethodName := ⟨RX2, "book", "(III)V"⟩
abbrev cX2_takeNominated : ByteArray := prog_4_method_6_code
def yX2_takeNominated : MethodName := ⟨RX2, "takeNominated", "()I"⟩
def RX3 : String := "WakeBanks$Sea"
def TX3 : u_T := fun k => match k with
  | 0 => ("WakeBanks$Sea", "turbines", "[LWakeBanks$Turbine;", true)
  | 1 => ("WakeBanks$Sea", "strings", "[LWakeBanks$Cable;", true)
  | 2 => ("WakeBanks$Sea", "vessels", "[LWakeBanks$Vessel;", true)
  | 3 => ("WakeBanks$Sea", "weather", "LWakeBanks$Weather;", true)
  | 4 => ("WakeBanks$Sea", "ledger", "LWakeBanks$Ledger;", true)
  | 5 => ("WakeBanks$Sea", "turbineCount", "I", false)
  | 6 => ("WakeBanks$Sea", "stringCount", "I", false)
  | 7 => ("WakeBanks$Sea", "vesselCount", "I", false)
  | 8 => ("WakeBanks$Sea", "hour", "I", false)
  | 9 => ("WakeBanks$Sea", "floor", "I", false)
  | _ => ("WakeBanks$Sea", "finishedWorks", "I", false)
def tyX3 : Nat → FieldType := fun k => match k with
  | 0 => .array (.object "WakeBanks$Turbine")
  | 1 => .array (.object "WakeBanks$Cable")
  | 2 => .array (.object "WakeBanks$Vessel")
  | 3 => .object "WakeBanks$Weather"
  | 4 => .object "WakeBanks$Ledger"
  | 5 => .int
  | 6 => .int
  | 7 => .int
  | 8 => .int
  | 9 => .int
  | _ => .int
abbrev wsX30 : List Cond := u_ws RX3 TX3 11
theorem nmX3 : ∀ a, a < 11 → ∀ b, b < 11 → a ≠ b → (TX3 a).2.1 ≠ (TX3 b).2.1 := by decide +kernel
theorem tyX3_ok : ∀ k, k < 11 → parseFieldDescriptor (TX3 k).2.2.1 = some (tyX3 k) := by decide +kernel
abbrev cX3_init : ByteArray := prog_5_method_1_code
def yX3_init : MethodName := ⟨RX3, "<init>", "()V"⟩
abbrev cX3_addString : ByteArray := prog_5_method_2_code
def yX3_addString : MethodName := ⟨RX3, "addString", "(I)I"⟩
abbrev cX3_addTurbine : ByteArray := prog_5_method_3_code
def yX3_addTurbine : MethodName := ⟨RX3, "addTurbine", "(III)I"⟩
abbrev cX3_addVessel : ByteArray := prog_5_method_4_code
def yX3_addVessel : MethodName := ⟨RX3, "addVessel", "(I)I"⟩
abbrev cX3_copyFrom : ByteArray := prog_5_method_5_code
def yX3_copyFrom : MethodName := ⟨RX3, "copyFrom", "(LWakeBanks$Sea;)V"⟩
abbrev cX3_hasTurbine : ByteArray := prog_5_method_6_code
def yX3_hasTurbine : MethodName := ⟨RX3, "hasTurbine", "(I)Z"⟩
abbrev cX3_isTaken : ByteArray := prog_5_method_7_code
def yX3_isTaken : MethodName := ⟨RX3, "isTaken", "(II)Z"⟩
abbrev cX3_isAnotherAt : ByteArray := prog_5_method_8_code
def yX3_isAnotherAt : MethodName := ⟨RX3, "isAnotherAt", "(II)Z"⟩
abbrev cX3_isDaylight : ByteArray := prog_5_method_9_code
def yX3_isDaylight : MethodName := ⟨RX3, "isDaylight", "()Z"⟩
abbrev cX3_countOf : ByteArray := prog_5_method_10_code
def yX3_countOf : MethodName := ⟨RX3, "countOf", "(I)I"⟩
abbrev cX3_cycles : ByteArray := prog_5_method_11_code
def yX3_cycles : MethodName := ⟨RX3, "cycles", "()I"⟩
abbrev cX3_deficitBy : ByteArray := prog_5_method_12_code
def yX3_deficitBy : MethodName := ⟨RX3, "deficitBy", "(II)I"⟩
abbrev cX3_deficitOf : ByteArray := prog_5_method_13_code
def yX3_deficitOf : MethodName := ⟨RX3, "deficitOf", "(I)I"⟩
abbrev cX3_passHours : ByteArray := prog_5_method_14_code
def yX3_passHours : MethodName := ⟨RX3, "passHours", "(I)I"⟩
abbrev cX3_passHour : ByteArray := prog_5_method_15_code
def yX3_passHour : MethodName := ⟨RX3, "passHour", "()I"⟩
abbrev cX3_loadStrings : ByteArray := prog_5_method_16_code
def yX3_loadStrings : MethodName := ⟨RX3, "loadStrings", "()V"⟩
abbrev cX3_isOn : ByteArray := prog_5_method_17_code
def yX3_isOn : MethodName := ⟨RX3, "isOn", "(II)Z"⟩
abbrev cX3_giveUp : ByteArray := prog_5_method_18_code
def yX3_giveUp : MethodName := ⟨RX3, "giveUp", "(III)I"⟩
abbrev cX3_work : ByteArray := prog_5_method_19_code
def yX3_work : MethodName := ⟨RX3, "work", "(LWakeBanks$Vessel;)V"⟩
def RX4 : String := "WakeBanks$Siting"
def TX4 : u_T := fun k => match k with
  | 0 => ("WakeBanks$Siting", "greatest", "[I", true)
  | _ => ("WakeBanks$Siting", "sums", "[I", true)
def tyX4 : Nat → FieldType := fun k => match k with
  | 0 => .array .int
  | _ => .array .int
abbrev wsX40 : List Cond := u_ws RX4 TX4 2
theorem nmX4 : ∀ a, a < 2 → ∀ b, b < 2 → a ≠ b → (TX4 a).2.1 ≠ (TX4 b).2.1 := by decide +kernel
theorem tyX4_ok : ∀ k, k < 2 → parseFieldDescriptor (TX4 k).2.2.1 = some (tyX4 k) := by decide +kernel
abbrev cX4_init : ByteArray := prog_6_method_1_code
def yX4_init : MethodName := ⟨RX4, "<init>", "()V"⟩
abbrev cX4_bestFor : ByteArray := prog_6_method_2_code
def yX4_bestFor : MethodName := ⟨RX4, "bestFor", "(LWakeBanks$Sea;)I"⟩
abbrev cX4_takeDeficits : ByteArray := prog_6_method_3_code
def yX4_takeDeficits : MethodName := ⟨RX4, "takeDeficits", "(LWakeBanks$Sea;I)V"⟩
abbrev cX4_powerWith : ByteArray := prog_6_method_4_code
def yX4_powerWith : MethodName := ⟨RX4, "powerWith", "(LWakeBanks$Sea;II)I"⟩
abbrev cX4_powerAt : ByteArray := prog_6_method_5_code
def yX4_powerAt : MethodName := ⟨RX4, "powerAt", "(II)I"⟩
def RX5 : String := "WakeBanks$Turbine"
def TX5 : u_T := fun k => match k with
  | 0 => ("WakeBanks$Turbine", "x", "I", false)
  | 1 => ("WakeBanks$Turbine", "y", "I", false)
  | 2 => ("WakeBanks$Turbine", "string", "I", false)
  | 3 => ("WakeBanks$Turbine", "state", "I", false)
  | 4 => ("WakeBanks$Turbine", "stoppedBy", "I", false)
  | 5 => ("WakeBanks$Turbine", "faultyPart", "I", false)
  | 6 => ("WakeBanks$Turbine", "lockedBy", "I", false)
  | 7 => ("WakeBanks$Turbine", "turn", "I", false)
  | 8 => ("WakeBanks$Turbine", "wind", "I", false)
  | 9 => ("WakeBanks$Turbine", "windBefore", "I", false)
  | 10 => ("WakeBanks$Turbine", "left", "I", false)
  | 11 => ("WakeBanks$Turbine", "wears", "[I", true)
  | 12 => ("WakeBanks$Turbine", "losses", "[I", true)
  | _ => ("WakeBanks$Turbine", "extremes", "LWakeBanks$Extremes;", true)
def tyX5 : Nat → FieldType := fun k => match k with
  | 0 => .int
  | 1 => .int
  | 2 => .int
  | 3 => .int
  | 4 => .int
  | 5 => .int
  | 6 => .int
  | 7 => .int
  | 8 => .int
  | 9 => .int
  | 10 => .int
  | 11 => .array .int
  | 12 => .array .int
  | _ => .object "WakeBanks$Extremes"
abbrev wsX50 : List Cond := u_ws RX5 TX5 14
theorem nmX5 : ∀ a, a < 14 → ∀ b, b < 14 → a ≠ b → (TX5 a).2.1 ≠ (TX5 b).2.1 := by decide +kernel
theorem tyX5_ok : ∀ k, k < 14 → parseFieldDescriptor (TX5 k).2.2.1 = some (tyX5 k) := by decide +kernel
abbrev cX5_init : ByteArray := prog_7_method_1_code
def yX5_init : MethodName := ⟨RX5, "<init>", "()V"⟩
abbrev cX5_copyFrom : ByteArray := prog_7_method_2_code
def yX5_copyFrom : MethodName := ⟨RX5, "copyFrom", "(LWakeBanks$Turbine;)V"⟩
abbrev cX5_become : ByteArray := prog_7_method_3_code
def yX5_become : MethodName := ⟨RX5, "become", "(I)V"⟩
abbrev cX5_stop : ByteArray := prog_7_method_4_code
def yX5_stop : MethodName := ⟨RX5, "stop", "(I)V"⟩
abbrev cX5_lockFor : ByteArray := prog_7_method_5_code
def yX5_lockFor : MethodName := ⟨RX5, "lockFor", "(I)V"⟩
abbrev cX5_isStoppedByCall : ByteArray := prog_7_method_6_code
def yX5_isStoppedByCall : MethodName := ⟨RX5, "isStoppedByCall", "()Z"⟩
abbrev cX5_canBeLocked : ByteArray := prog_7_method_7_code
def yX5_canBeLocked : MethodName := ⟨RX5, "canBeLocked", "()Z"⟩
abbrev cX5_fault : ByteArray := prog_7_method_8_code
def yX5_fault : MethodName := ⟨RX5, "fault", "(I)V"⟩
abbrev cX5_settle : ByteArray := prog_7_method_9_code
def yX5_settle : MethodName := ⟨RX5, "settle", "(LWakeBanks$Weather;I)V"⟩
abbrev cX5_mayStart : ByteArray := prog_7_method_10_code
def yX5_mayStart : MethodName := ⟨RX5, "mayStart", "(IZ)Z"⟩
abbrev cX5_wornPart : ByteArray := prog_7_method_11_code
def yX5_wornPart : MethodName := ⟨RX5, "wornPart", "()I"⟩
abbrev cX5_take : ByteArray := prog_7_method_12_code
def yX5_take : MethodName := ⟨RX5, "take", "(II)V"⟩
abbrev cX5_causeOfStanding : ByteArray := prog_7_method_13_code
def yX5_causeOfStanding : MethodName := ⟨RX5, "causeOfStanding", "()I"⟩
abbrev cX5_lose : ByteArray := prog_7_method_14_code
def yX5_lose : MethodName := ⟨RX5, "lose", "(II)V"⟩
abbrev cX5_wearOut : ByteArray := prog_7_method_15_code
def yX5_wearOut : MethodName := ⟨RX5, "wearOut", "()V"⟩
abbrev cX5_wearPart : ByteArray := prog_7_method_16_code
def yX5_wearPart : MethodName := ⟨RX5, "wearPart", "(II)V"⟩
def RX6 : String := "WakeBanks$Vessel"
def TX6 : u_T := fun k => match k with
  | 0 => ("WakeBanks$Vessel", "limit", "I", false)
  | 1 => ("WakeBanks$Vessel", "at", "I", false)
  | 2 => ("WakeBanks$Vessel", "crewIsOff", "Z", false)
  | 3 => ("WakeBanks$Vessel", "part", "I", false)
  | 4 => ("WakeBanks$Vessel", "toGo", "I", false)
  | _ => ("WakeBanks$Vessel", "stranded", "I", false)
def tyX6 : Nat → FieldType := fun k => match k with
  | 0 => .int
  | 1 => .int
  | 2 => .boolean
  | 3 => .int
  | 4 => .int
  | _ => .int
abbrev wsX60 : List Cond := u_ws RX6 TX6 6
theorem nmX6 : ∀ a, a < 6 → ∀ b, b < 6 → a ≠ b → (TX6 a).2.1 ≠ (TX6 b).2.1 := by decide +kernel
theorem tyX6_ok : ∀ k, k < 6 → parseFieldDescriptor (TX6 k).2.2.1 = some (tyX6 k) := by decide +kernel
abbrev cX6_init : ByteArray := prog_8_method_1_code
def yX6_init : MethodName := ⟨RX6, "<init>", "()V"⟩
abbrev cX6_copyFrom : ByteArray := prog_8_method_2_code
def yX6_copyFrom : MethodName := ⟨RX6, "copyFrom", "(LWakeBanks$Vessel;)V"⟩
abbrev cX6_climbTo : ByteArray := prog_8_method_3_code
def yX6_climbTo : MethodName := ⟨RX6, "climbTo", "(I)V"⟩
abbrev cX6_finishes : ByteArray := prog_8_method_4_code
def yX6_finishes : MethodName := ⟨RX6, "finishes", "()Z"⟩
abbrev cX6_comeBack : ByteArray := prog_8_method_5_code
def yX6_comeBack : MethodName := ⟨RX6, "comeBack", "()I"⟩
def RX7 : String := "WakeBanks$Wakes"
def TX7 : u_T := fun k => match k with
  | _ => ("", "", "", false)
def tyX7 : Nat → FieldType := fun k => match k with
  | _ => .int
abbrev wsX70 : List Cond := u_ws RX7 TX7 0
theorem nmX7 : ∀ a, a < 0 → ∀ b, b < 0 → a ≠ b → (TX7 a).2.1 ≠ (TX7 b).2.1 := by decide +kernel
theorem tyX7_ok : ∀ k, k < 0 → parseFieldDescriptor (TX7 k).2.2.1 = some (tyX7 k) := by decide +kernel
abbrev cX7_deficit : ByteArray := prog_9_method_2_code
def yX7_deficit : MethodName := ⟨RX7, "deficit", "(IIII)I"⟩
abbrev cX7_together : ByteArray := prog_9_method_3_code
def yX7_together : MethodName := ⟨RX7, "together", "(II)I"⟩
abbrev cX7_wind : ByteArray := prog_9_method_4_code
def yX7_wind : MethodName := ⟨RX7, "wind", "(II)I"⟩
abbrev cX7_power : ByteArray := prog_9_method_5_code
def yX7_power : MethodName := ⟨RX7, "power", "(I)I"⟩
def RX8 : String := "WakeBanks$Weather"
def TX8 : u_T := fun k => match k with
  | 0 => ("WakeBanks$Weather", "sector", "I", false)
  | 1 => ("WakeBanks$Weather", "speed", "I", false)
  | 2 => ("WakeBanks$Weather", "wave", "I", false)
  | 3 => ("WakeBanks$Weather", "price", "I", false)
  | _ => ("WakeBanks$Weather", "order", "I", false)
def tyX8 : Nat → FieldType := fun k => match k with
  | 0 => .int
  | 1 => .int
  | 2 => .int
  | 3 => .int
  | _ => .int
abbrev wsX80 : List Cond := u_ws RX8 TX8 5
theorem nmX8 : ∀ a, a < 5 → ∀ b, b < 5 → a ≠ b → (TX8 a).2.1 ≠ (TX8 b).2.1 := by decide +kernel
theorem tyX8_ok : ∀ k, k < 5 → parseFieldDescriptor (TX8 k).2.2.1 = some (tyX8 k) := by decide +kernel
abbrev cX8_init : ByteArray := prog_10_method_1_code
def yX8_init : MethodName := ⟨RX8, "<init>", "()V"⟩
abbrev cX8_set : ByteArray := prog_10_method_2_code
def yX8_set : MethodName := ⟨RX8, "set", "(IIIII)V"⟩
abbrev cX8_copyFrom : ByteArray := prog_10_method_3_code
def yX8_copyFrom : MethodName := ⟨RX8, "copyFrom", "(LWakeBanks$Weather;)V"⟩
def RX9 : String := "WakeBanks"
def TX9 : u_T := fun k => match k with
  | 0 => ("WakeBanks", "sea", "LWakeBanks$Sea;", true)
  | 1 => ("WakeBanks", "trial", "LWakeBanks$Sea;", true)
  | _ => ("WakeBanks", "siting", "LWakeBanks$Siting;", true)
def tyX9 : Nat → FieldType := fun k => match k with
  | 0 => .object "WakeBanks$Sea"
  | 1 => .object "WakeBanks$Sea"
  | _ => .object "WakeBanks$Siting"
abbrev wsX90 : List Cond := u_ws RX9 TX9 3
theorem nmX9 : ∀ a, a < 3 → ∀ b, b < 3 → a ≠ b → (TX9 a).2.1 ≠ (TX9 b).2.1 := by decide +kernel
theorem tyX9_ok : ∀ k, k < 3 → parseFieldDescriptor (TX9 k).2.2.1 = some (tyX9 k) := by decide +kernel
abbrev cX9_init : ByteArray := prog_1_method_1_code
def yX9_init : MethodName := ⟨RX9, "<init>", "()V"⟩
abbrev cX9_string : ByteArray := prog_1_method_2_code
def yX9_string : MethodName := ⟨RX9, "string", "(I)I"⟩
abbrev cX9_turbine : ByteArray := prog_1_method_3_code
def yX9_turbine : MethodName := ⟨RX9, "turbine", "(III)I"⟩
abbrev cX9_vessel : ByteArray := prog_1_method_4_code
def yX9_vessel : MethodName := ⟨RX9, "vessel", "(I)I"⟩
abbrev cX9_nominate : ByteArray := prog_1_method_5_code
def yX9_nominate : MethodName := ⟨RX9, "nominate", "(II)I"⟩
abbrev cX9_blow : ByteArray := prog_1_method_6_code
def yX9_blow : MethodName := ⟨RX9, "blow", "(IIIIII)I"⟩
abbrev cX9_turn : ByteArray := prog_1_method_7_code
def yX9_turn : MethodName := ⟨RX9, "turn", "(II)I"⟩
abbrev cX9_call : ByteArray := prog_1_method_8_code
def yX9_call : MethodName := ⟨RX9, "call", "(IZ)I"⟩
abbrev cX9_floor : ByteArray := prog_1_method_9_code
def yX9_floor : MethodName := ⟨RX9, "floor", "(I)I"⟩
abbrev cX9_sail : ByteArray := prog_1_method_10_code
def yX9_sail : MethodName := ⟨RX9, "sail", "(II)I"⟩
abbrev cX9_lock : ByteArray := prog_1_method_11_code
def yX9_lock : MethodName := ⟨RX9, "lock", "(IZ)I"⟩
abbrev cX9_climb : ByteArray := prog_1_method_12_code
def yX9_climb : MethodName := ⟨RX9, "climb", "(II)I"⟩
abbrev cX9_down : ByteArray := prog_1_method_13_code
def yX9_down : MethodName := ⟨RX9, "down", "(I)I"⟩
abbrev cX9_ofTurbine : ByteArray := prog_1_method_14_code
def yX9_ofTurbine : MethodName := ⟨RX9, "ofTurbine", "(II)I"⟩
abbrev cX9_wear : ByteArray := prog_1_method_15_code
def yX9_wear : MethodName := ⟨RX9, "wear", "(II)I"⟩
abbrev cX9_lost : ByteArray := prog_1_method_16_code
def yX9_lost : MethodName := ⟨RX9, "lost", "(II)I"⟩
abbrev cX9_wake : ByteArray := prog_1_method_17_code
def yX9_wake : MethodName := ⟨RX9, "wake", "(II)I"⟩
abbrev cX9_extreme : ByteArray := prog_1_method_18_code
def yX9_extreme : MethodName := ⟨RX9, "extreme", "(II)I"⟩
abbrev cX9_ofString : ByteArray := prog_1_method_19_code
def yX9_ofString : MethodName := ⟨RX9, "ofString", "(II)I"⟩
abbrev cX9_ofVessel : ByteArray := prog_1_method_20_code
def yX9_ofVessel : MethodName := ⟨RX9, "ofVessel", "(II)I"⟩
abbrev cX9_many : ByteArray := prog_1_method_21_code
def yX9_many : MethodName := ⟨RX9, "many", "(I)I"⟩
abbrev cX9_meanDelivered : ByteArray := prog_1_method_22_code
def yX9_meanDelivered : MethodName := ⟨RX9, "meanDelivered", "()D"⟩
abbrev cX9_wouldDeliver : ByteArray := prog_1_method_23_code
def yX9_wouldDeliver : MethodName := ⟨RX9, "wouldDeliver", "(I)I"⟩
abbrev cX9_bestTurn : ByteArray := prog_1_method_24_code
def yX9_bestTurn : MethodName := ⟨RX9, "bestTurn", "(I)I"⟩
abbrev cX9_bestPlace : ByteArray := prog_1_method_25_code
def yX9_bestPlace : MethodName := ⟨RX9, "bestPlace", "()I"⟩
abbrev cX9_digest : ByteArray := prog_1_method_26_code
def yX9_digest : MethodName := ⟨RX9, "digest", "()J"⟩
abbrev cX9_digestTurbine : ByteArray := prog_1_method_27_code
def yX9_digestTurbine : MethodName := ⟨RX9, "digestTurbine", "(JI)J"⟩
abbrev cX9_outside : ByteArray := prog_1_method_28_code
def yX9_outside : MethodName := ⟨RX9, "outside", "(III)Z"⟩
abbrev cX9_checkTurbine : ByteArray := prog_1_method_29_code
def yX9_checkTurbine : MethodName := ⟨RX9, "checkTurbine", "(I)V"⟩
abbrev cX9_checkString : ByteArray := prog_1_method_30_code
def yX9_checkString : MethodName := ⟨RX9, "checkString", "(I)V"⟩
abbrev cX9_checkVessel : ByteArray := prog_1_method_31_code
def yX9_checkVessel : MethodName := ⟨RX9, "checkVessel", "(I)V"⟩
abbrev cX9_checkPart : ByteArray := prog_1_method_32_code
def yX9_checkPart : MethodName := ⟨RX9, "checkPart", "(I)V"⟩
def RX10 : String := "WakeBanksModel$Sea"
def TX10 : u_T := fun k => match k with
  | 0 => ("WakeBanksModel$Sea", "turbines", "[[I", true)
  | 1 => ("WakeBanksModel$Sea", "extremes", "[[I", true)
  | 2 => ("WakeBanksModel$Sea", "strings", "[[I", true)
  | 3 => ("WakeBanksModel$Sea", "vessels", "[[I", true)
  | 4 => ("WakeBanksModel$Sea", "nominated", "[I", true)
  | 5 => ("WakeBanksModel$Sea", "much", "[I", true)
  | 6 => ("WakeBanksModel$Sea", "left", "[I", true)
  | 7 => ("WakeBanksModel$Sea", "count", "I", false)
  | 8 => ("WakeBanksModel$Sea", "stringCount", "I", false)
  | 9 => ("WakeBanksModel$Sea", "vesselCount", "I", false)
  | 10 => ("WakeBanksModel$Sea", "hour", "I", false)
  | 11 => ("WakeBanksModel$Sea", "sector", "I", false)
  | 12 => ("WakeBanksModel$Sea", "speed", "I", false)
  | 13 => ("WakeBanksModel$Sea", "wave", "I", false)
  | 14 => ("WakeBanksModel$Sea", "price", "I", false)
  | 15 => ("WakeBanksModel$Sea", "order", "I", false)
  | 16 => ("WakeBanksModel$Sea", "floor", "I", false)
  | 17 => ("WakeBanksModel$Sea", "potential", "I", false)
  | 18 => ("WakeBanksModel$Sea", "delivered", "I", false)
  | 19 => ("WakeBanksModel$Sea", "latest", "I", false)
  | 20 => ("WakeBanksModel$Sea", "money", "I", false)
  | 21 => ("WakeBanksModel$Sea", "mended", "I", false)
  | _ => ("WakeBanksModel$Sea", "cycles", "I", false)
def tyX10 : Nat → FieldType := fun k => match k with
  | 0 => .array (.array .int)
  | 1 => .array (.array .int)
  | 2 => .array (.array .int)
  | 3 => .array (.array .int)
  | 4 => .array .int
  | 5 => .array .int
  | 6 => .array .int
  | 7 => .int
  | 8 => .int
  | 9 => .int
  | 10 => .int
  | 11 => .int
  | 12 => .int
  | 13 => .int
  | 14 => .int
  | 15 => .int
  | 16 => .int
  | 17 => .int
  | 18 => .int
  | 19 => .int
  | 20 => .int
  | 21 => .int
  | _ => .int
abbrev wsX100 : List Cond := u_ws RX10 TX10 23
theorem nmX10 : ∀ a, a < 23 → ∀ b, b < 23 → a ≠ b → (TX10 a).2.1 ≠ (TX10 b).2.1 := by decide +kernel
theorem tyX10_ok : ∀ k, k < 23 → parseFieldDescriptor (TX10 k).2.2.1 = some (tyX10 k) := by decide +kernel
abbrev cX10_init : ByteArray := prog_13_method_1_code
def yX10_init : MethodName := ⟨RX10, "<init>", "()V"⟩
abbrev cX10_copy : ByteArray := prog_13_method_2_code
def yX10_copy : MethodName := ⟨RX10, "copy", "()LWakeBanksModel$Sea;"⟩
abbrev cX10_deficit : ByteArray := prog_13_method_3_code
def yX10_deficit : MethodName := ⟨RX10, "deficit", "(IIIIII)I"⟩
abbrev cX10_wake : ByteArray := prog_13_method_4_code
def yX10_wake : MethodName := ⟨RX10, "wake", "(II)I"⟩
abbrev cX10_deficit_ : ByteArray := prog_13_method_5_code
def yX10_deficit_ : MethodName := ⟨RX10, "deficit", "(I)I"⟩
abbrev cX10_hour : ByteArray := prog_13_method_6_code
def yX10_hour : MethodName := ⟨RX10, "hour", "()I"⟩
abbrev cX10_turn : ByteArray := prog_13_method_7_code
def yX10_turn : MethodName := ⟨RX10, "turn", "([I)V"⟩
abbrev cX10_stop : ByteArray := prog_13_method_8_code
def yX10_stop : MethodName := ⟨RX10, "stop", "([II)V"⟩
abbrev cX10_start : ByteArray := prog_13_method_9_code
def yX10_start : MethodName := ⟨RX10, "start", "([I)V"⟩
abbrev cX10_make : ByteArray := prog_13_method_10_code
def yX10_make : MethodName := ⟨RX10, "make", "([II)I"⟩
abbrev cX10_isOn : ByteArray := prog_13_method_11_code
def yX10_isOn : MethodName := ⟨RX10, "isOn", "(II)Z"⟩
abbrev cX10_fit : ByteArray := prog_13_method_12_code
def yX10_fit : MethodName := ⟨RX10, "fit", "(III)I"⟩
abbrev cX10_give : ByteArray := prog_13_method_13_code
def yX10_give : MethodName := ⟨RX10, "give", "(III)I"⟩
abbrev cX10_wear : ByteArray := prog_13_method_14_code
def yX10_wear : MethodName := ⟨RX10, "wear", "(I[I)V"⟩
abbrev cX10_wears : ByteArray := prog_13_method_15_code
def yX10_wears : MethodName := ⟨RX10, "wears", "([III)V"⟩
abbrev cX10_load : ByteArray := prog_13_method_16_code
def yX10_load : MethodName := ⟨RX10, "load", "([I[I)I"⟩
abbrev cX10_rows : ByteArray := prog_13_method_17_code
def yX10_rows : MethodName := ⟨RX10, "rows", "([I)I"⟩
abbrev cX10_work : ByteArray := prog_13_method_18_code
def yX10_work : MethodName := ⟨RX10, "work", "([I)V"⟩
abbrev cX10_run : ByteArray := prog_13_method_19_code
def yX10_run : MethodName := ⟨RX10, "run", "(I)I"⟩
abbrev cX10_toCome : ByteArray := prog_13_method_20_code
def yX10_toCome : MethodName := ⟨RX10, "toCome", "()I"⟩
def RX11 : String := "WakeBanksModel"
def TX11 : u_T := fun k => match k with
  | 0 => ("WakeBanksModel", "thrown", "I", false)
  | _ => ("WakeBanksModel", "sea", "LWakeBanksModel$Sea;", true)
def tyX11 : Nat → FieldType := fun k => match k with
  | 0 => .int
  | _ => .object "WakeBanksModel$Sea"
abbrev wsX110 : List Cond := u_ws RX11 TX11 2
theorem nmX11 : ∀ a, a < 2 → ∀ b, b < 2 → a ≠ b → (TX11 a).2.1 ≠ (TX11 b).2.1 := by decide +kernel
theorem tyX11_ok : ∀ k, k < 2 → parseFieldDescriptor (TX11 k).2.2.1 = some (tyX11 k) := by decide +kernel
abbrev cX11_init : ByteArray := prog_12_method_1_code
def yX11_init : MethodName := ⟨RX11, "<init>", "()V"⟩
abbrev cX11_thrown : ByteArray := prog_12_method_2_code
def yX11_thrown : MethodName := ⟨RX11, "thrown", "()I"⟩
abbrev cX11_no : ByteArray := prog_12_method_3_code
def yX11_no : MethodName := ⟨RX11, "no", "(I)I"⟩
abbrev cX11_in : ByteArray := prog_12_method_4_code
def yX11_in : MethodName := ⟨RX11, "in", "(III)Z"⟩
abbrev cX11_power : ByteArray := prog_12_method_5_code
def yX11_power : MethodName := ⟨RX11, "power", "(I)I"⟩
abbrev cX11_along : ByteArray := prog_12_method_6_code
def yX11_along : MethodName := ⟨RX11, "along", "(IZ)I"⟩
abbrev cX11_isTurbine : ByteArray := prog_12_method_7_code
def yX11_isTurbine : MethodName := ⟨RX11, "isTurbine", "(I)Z"⟩
abbrev cX11_isVessel : ByteArray := prog_12_method_8_code
def yX11_isVessel : MethodName := ⟨RX11, "isVessel", "(I)Z"⟩
abbrev cX11_isTaken : ByteArray := prog_12_method_9_code
def yX11_isTaken : MethodName := ⟨RX11, "isTaken", "(II)Z"⟩
abbrev cX11_string : ByteArray := prog_12_method_10_code
def yX11_string : MethodName := ⟨RX11, "string", "(I)I"⟩
abbrev cX11_turbine : ByteArray := prog_12_method_11_code
def yX11_turbine : MethodName := ⟨RX11, "turbine", "(III)I"⟩
abbrev cX11_vessel : ByteArray := prog_12_method_12_code
def yX11_vessel : MethodName := ⟨RX11, "vessel", "(I)I"⟩
abbrev cX11_nominate : ByteArray := prog_12_method_13_code
def yX11_nominate : MethodName := ⟨RX11, "nominate", "(II)I"⟩
abbrev cX11_blow : ByteArray := prog_12_method_14_code
def yX11_blow : MethodName := ⟨RX11, "blow", "(IIIIII)I"⟩
abbrev cX11_turn : ByteArray := prog_12_method_15_code
def yX11_turn : MethodName := ⟨RX11, "turn", "(II)I"⟩
abbrev cX11_call : ByteArray := prog_12_method_16_code
def yX11_call : MethodName := ⟨RX11, "call", "(IZ)I"⟩
abbrev cX11_floor : ByteArray := prog_12_method_17_code
def yX11_floor : MethodName := ⟨RX11, "floor", "(I)I"⟩
abbrev cX11_sail : ByteArray := prog_12_method_18_code
def yX11_sail : MethodName := ⟨RX11, "sail", "(II)I"⟩
abbrev cX11_lock : ByteArray := prog_12_method_19_code
def yX11_lock : MethodName := ⟨RX11, "lock", "(IZ)I"⟩
abbrev cX11_climb : ByteArray := prog_12_method_20_code
def yX11_climb : MethodName := ⟨RX11, "climb", "(II)I"⟩
abbrev cX11_down : ByteArray := prog_12_method_21_code
def yX11_down : MethodName := ⟨RX11, "down", "(I)I"⟩
abbrev cX11_turbineNow : ByteArray := prog_12_method_22_code
def yX11_turbineNow : MethodName := ⟨RX11, "turbineNow", "(II)I"⟩
abbrev cX11_ofTurbine : ByteArray := prog_12_method_23_code
def yX11_ofTurbine : MethodName := ⟨RX11, "ofTurbine", "(II)I"⟩
abbrev cX11_wear : ByteArray := prog_12_method_24_code
def yX11_wear : MethodName := ⟨RX11, "wear", "(II)I"⟩
abbrev cX11_lost : ByteArray := prog_12_method_25_code
def yX11_lost : MethodName := ⟨RX11, "lost", "(II)I"⟩
abbrev cX11_wake : ByteArray := prog_12_method_26_code
def yX11_wake : MethodName := ⟨RX11, "wake", "(II)I"⟩
abbrev cX11_extreme : ByteArray := prog_12_method_27_code
def yX11_extreme : MethodName := ⟨RX11, "extreme", "(II)I"⟩
abbrev cX11_stringNow : ByteArray := prog_12_method_28_code
def yX11_stringNow : MethodName := ⟨RX11, "stringNow", "(II)I"⟩
abbrev cX11_ofString : ByteArray := prog_12_method_29_code
def yX11_ofString : MethodName := ⟨RX11, "ofString", "(II)I"⟩
abbrev cX11_ofVessel : ByteArray := prog_12_method_30_code
def yX11_ofVessel : MethodName := ⟨RX11, "ofVessel", "(II)I"⟩
abbrev cX11_inState : ByteArray := prog_12_method_31_code
def yX11_inState : MethodName := ⟨RX11, "inState", "(I)I"⟩
abbrev cX11_manyNow : ByteArray := prog_12_method_32_code
def yX11_manyNow : MethodName := ⟨RX11, "manyNow", "(I)I"⟩
abbrev cX11_many : ByteArray := prog_12_method_33_code
def yX11_many : MethodName := ⟨RX11, "many", "(I)I"⟩
abbrev cX11_meanDelivered : ByteArray := prog_12_method_34_code
def yX11_meanDelivered : MethodName := ⟨RX11, "meanDelivered", "()D"⟩
abbrev cX11_wouldDeliver : ByteArray := prog_12_method_35_code
def yX11_wouldDeliver : MethodName := ⟨RX11, "wouldDeliver", "(I)I"⟩
abbrev cX11_bestNow : ByteArray := prog_12_method_36_code
def yX11_bestNow : MethodName := ⟨RX11, "bestNow", "(I)I"⟩
abbrev cX11_bestTurn : ByteArray := prog_12_method_37_code
def yX11_bestTurn : MethodName := ⟨RX11, "bestTurn", "(I)I"⟩
abbrev cX11_wakeAt : ByteArray := prog_12_method_38_code
def yX11_wakeAt : MethodName := ⟨RX11, "wakeAt", "(III)I"⟩
abbrev cX11_bestPlace : ByteArray := prog_12_method_39_code
def yX11_bestPlace : MethodName := ⟨RX11, "bestPlace", "()I"⟩
abbrev cX11_powers : ByteArray := prog_12_method_40_code
def yX11_powers : MethodName := ⟨RX11, "powers", "([II)I"⟩
abbrev cX11_digest : ByteArray := prog_12_method_41_code
def yX11_digest : MethodName := ⟨RX11, "digest", "()J"⟩
def RJ9 : String := "java/lang/Math"
def TJ9 : u_T := fun k => match k with
  | _ => ("", "", "", false)
def tyJ9 : Nat → FieldType := fun k => match k with
  | _ => .int
abbrev wsJ90 : List Cond := u_ws RJ9 TJ9 0
theorem nmJ9 : ∀ a, a < 0 → ∀ b, b < 0 → a ≠ b → (TJ9 a).2.1 ≠ (TJ9 b).2.1 := by decide +kernel
theorem tyJ9_ok : ∀ k, k < 0 → parseFieldDescriptor (TJ9 k).2.2.1 = some (tyJ9 k) := by decide +kernel
abbrev cJ9_abs_0f7a4 : ByteArray := prog_18_method_59_code
def yJ9_abs_0f7a4 : MethodName := ⟨RJ9, "abs", "(I)I"⟩
abbrev cJ9_max_7cf53 : ByteArray := prog_18_method_65_code
def yJ9_max_7cf53 : MethodName := ⟨RJ9, "max", "(II)I"⟩
abbrev cJ9_min_7cf53 : ByteArray := prog_18_method_69_code
def yJ9_min_7cf53 : MethodName := ⟨RJ9, "min", "(II)I"⟩
def RJ0 : String := "java/lang/String"
def TJ0 : u_T := fun k => match k with
  | _ => ("", "", "", false)
def tyJ0 : Nat → FieldType := fun k => match k with
  | _ => .int
abbrev wsJ00 : List Cond := u_ws RJ0 TJ0 0
theorem nmJ0 : ∀ a, a < 0 → ∀ b, b < 0 → a ≠ b → (TJ0 a).2.1 ≠ (TJ0 b).2.1 := by decide +kernel
theorem tyJ0_ok : ∀ k, k < 0 → parseFieldDescriptor (TJ0 k).2.2.1 = some (tyJ0 k) := by decide +kernel
def RJ10 : String := "java/lang/System"
def TJ10 : u_T := fun k => match k with
  | _ => ("", "", "", false)
def tyJ10 : Nat → FieldType := fun k => match k with
  | _ => .int
abbrev wsJ100 : List Cond := u_ws RJ10 TJ10 0
theorem nmJ10 : ∀ a, a < 0 → ∀ b, b < 0 → a ≠ b → (TJ10 a).2.1 ≠ (TJ10 b).2.1 := by decide +kernel
theorem tyJ10_ok : ∀ k, k < 0 → parseFieldDescriptor (TJ10 k).2.2.1 = some (tyJ10 k) := by decide +kernel
def RL : String := "WakeBanksLaw"
abbrev cL_string : ByteArray := method_3_code
def yL_string : MethodName := ⟨RL, "string", "(LWakeBanks;I[J)I"⟩
abbrev cL_turbine : ByteArray := method_4_code
def yL_turbine : MethodName := ⟨RL, "turbine", "(LWakeBanks;III[J)I"⟩
abbrev cL_vessel : ByteArray := method_5_code
def yL_vessel : MethodName := ⟨RL, "vessel", "(LWakeBanks;I[J)I"⟩
abbrev cL_nominate : ByteArray := method_6_code
def yL_nominate : MethodName := ⟨RL, "nominate", "(LWakeBanks;II[J)I"⟩
abbrev cL_blow : ByteArray := method_7_code
def yL_blow : MethodName := ⟨RL, "blow", "(LWakeBanks;IIIIII[J)I"⟩
abbrev cL_turn : ByteArray := method_8_code
def yL_turn : MethodName := ⟨RL, "turn", "(LWakeBanks;II[J)I"⟩
abbrev cL_call : ByteArray := method_9_code
def yL_call : MethodName := ⟨RL, "call", "(LWakeBanks;IZ[J)I"⟩
abbrev cL_floor : ByteArray := method_10_code
def yL_floor : MethodName := ⟨RL, "floor", "(LWakeBanks;I[J)I"⟩
abbrev cL_sail : ByteArray := method_11_code
def yL_sail : MethodName := ⟨RL, "sail", "(LWakeBanks;II[J)I"⟩
abbrev cL_lock : ByteArray := method_12_code
def yL_lock : MethodName := ⟨RL, "lock", "(LWakeBanks;IZ[J)I"⟩
abbrev cL_climb : ByteArray := method_13_code
def yL_climb : MethodName := ⟨RL, "climb", "(LWakeBanks;II[J)I"⟩
abbrev cL_down : ByteArray := method_14_code
def yL_down : MethodName := ⟨RL, "down", "(LWakeBanks;I[J)I"⟩
abbrev cL_ofTurbine : ByteArray := method_15_code
def yL_ofTurbine : MethodName := ⟨RL, "ofTurbine", "(LWakeBanks;II[J)I"⟩
abbrev cL_wear : ByteArray := method_16_code
def yL_wear : MethodName := ⟨RL, "wear", "(LWakeBanks;II[J)I"⟩
abbrev cL_lost : ByteArray := method_17_code
def yL_lost : MethodName := ⟨RL, "lost", "(LWakeBanks;II[J)I"⟩
abbrev cL_wake : ByteArray := method_18_code
def yL_wake : MethodName := ⟨RL, "wake", "(LWakeBanks;II[J)I"⟩
abbrev cL_extreme : ByteArray := method_19_code
def yL_extreme : MethodName := ⟨RL, "extreme", "(LWakeBanks;II[J)I"⟩
abbrev cL_ofString : ByteArray := method_20_code
def yL_ofString : MethodName := ⟨RL, "ofString", "(LWakeBanks;II[J)I"⟩
abbrev cL_ofVessel : ByteArray := method_21_code
def yL_ofVessel : MethodName := ⟨RL, "ofVessel", "(LWakeBanks;II[J)I"⟩
abbrev cL_many : ByteArray := method_22_code
def yL_many : MethodName := ⟨RL, "many", "(LWakeBanks;I[J)I"⟩
abbrev cL_wouldDeliver : ByteArray := method_23_code
def yL_wouldDeliver : MethodName := ⟨RL, "wouldDeliver", "(LWakeBanks;I[J)I"⟩
abbrev cL_bestTurn : ByteArray := method_24_code
def yL_bestTurn : MethodName := ⟨RL, "bestTurn", "(LWakeBanks;I[J)I"⟩
abbrev cL_law : ByteArray := code
def yL_law : MethodName := ⟨RL, "law", "([I)Z"⟩
end
section
/-! ===== the regions of memory: by program ===== -/
abbrev zcl : List vw_C := [(RX0, TX0, 3), (RX1, TX1, 4), (RX2, TX2, 5), (RX3, TX3, 11), (RX4, TX4, 2), (RX5, TX5, 14), (RX6, TX6, 6), (RX8, TX8, 5), (RX9, TX9, 3), (RX10, TX10, 23), (RX11, TX11, 2)]
def zty (j : Nat) : FieldType := match j with
  | 0 => .int
  | 1 => .object "WakeBanks$Turbine"
  | 2 => .object "WakeBanks$Cable"
  | 3 => .object "WakeBanks$Vessel"
  | 4 => .array .int
  | _ => .long
def zTn : Nat := 6
def zKn : Nat := 14
/-- of a type and a kind: how many, and what: an object, an int array, an array of references -/
def zsh (ty k : Nat) : Nat × ((Nat × Nat) ⊕ (Nat ⊕ (Nat × Nat))) := match ty, k with
  | 0, 0 => (1, .inl (3, 11))
  | 0, 1 => (1, .inr (.inr (8, 1)))
  | 0, 2 => (1, .inr (.inr (3, 2)))
  | 0, 3 => (1, .inr (.inr (3, 3)))
  | 0, 4 => (1, .inl (7, 5))
  | 0, 5 => (1, .inl (2, 5))
  | 0, 6 => (1, .inr (.inl 24))
  | 0, 7 => (8, .inl (5, 14))
  | 0, 8 => (8, .inr (.inl 3))
  | 0, 9 => (8, .inr (.inl 8))
  | 0, 10 => (8, .inl (1, 4))
  | 0, 11 => (8, .inr (.inl 30))
  | 0, 12 => (3, .inl (0, 3))
  | 0, 13 => (3, .inl (6, 6))
  | 1, 0 => (1, .inl (4, 2))
  | 1, 1 => (1, .inr (.inl 64))
  | 1, 2 => (1, .inr (.inl 64))
  | 2, 0 => (1, .inl (8, 3))
  | 3, 0 => (1, .inl (9, 23))
  | 3, 1 => (1, .inr (.inr (8, 4)))
  | 3, 2 => (1, .inr (.inr (8, 4)))
  | 3, 3 => (1, .inr (.inr (3, 4)))
  | 3, 4 => (1, .inr (.inr (3, 4)))
  | 3, 5 => (1, .inr (.inl 32))
  | 3, 6 => (1, .inr (.inl 32))
  | 3, 7 => (1, .inr (.inl 8))
  | 3, 8 => (8, .inr (.inl 23))
  | 3, 9 => (8, .inr (.inl 30))
  | 3, 10 => (3, .inr (.inl 3))
  | 3, 11 => (3, .inr (.inl 6))
  | 4, 0 => (1, .inl (10, 2))
  | 5, 0 => (1, .inr (.inl 1))
  | _, _ => (0, .inr (.inl 0))
/-- where a slot refers to: the link (0: the same region), the kind, the place -/
def zrs (ty k i o : Nat) : Option (Nat × Nat × Nat) := match ty, k, o with
  | 0, 0, 0 => some (0, 1, 0)
  | 0, 0, 1 => some (0, 2, 0)
  | 0, 0, 2 => some (0, 3, 0)
  | 0, 0, 3 => some (0, 4, 0)
  | 0, 0, 4 => some (0, 5, 0)
  | 0, 1, j => some (0, 7, j)
  | 0, 2, j => some (0, 12, j)
  | 0, 3, j => some (0, 13, j)
  | 0, 5, 0 => some (0, 6, 0)
  | 0, 7, 11 => some (0, 8, i)
  | 0, 7, 12 => some (0, 9, i)
  | 0, 7, 13 => some (0, 10, i)
  | 0, 10, 0 => some (0, 11, i)
  | 1, 0, 0 => some (0, 1, 0)
  | 1, 0, 1 => some (0, 2, 0)
  | 2, 0, 0 => some (1, 0, 0)
  | 2, 0, 1 => some (2, 0, 0)
  | 2, 0, 2 => some (3, 0, 0)
  | 3, 0, 0 => some (0, 1, 0)
  | 3, 0, 1 => some (0, 2, 0)
  | 3, 0, 2 => some (0, 3, 0)
  | 3, 0, 3 => some (0, 4, 0)
  | 3, 0, 4 => some (0, 5, 0)
  | 3, 0, 5 => some (0, 6, 0)
  | 3, 0, 6 => some (0, 7, 0)
  | 3, 1, j => some (0, 8, j)
  | 3, 2, j => some (0, 9, j)
  | 3, 3, j => some (0, 10, j)
  | 3, 4, j => some (0, 11, j)
  | 4, 0, 1 => some (1, 0, 0)
  | _, _, _ => none
/-- a slot that holds a boolean -/
def zbo (ty k o : Nat) : Bool := match ty, k, o with
  | 0, 13, 2 => true
  | _, _, _ => false
/-- the arrays of constants -/
def zk0 : List Int32 := [0, -1, -1, -1, 0, 1, 1, 1]
def zst0 : String × String × List Int32 := ("WakeBanks", "WIND_P", zk0)
def zk1 : List Int32 := [-1, -1, 0, 1, 1, 1, 0, -1]
def zst1 : String × String × List Int32 := ("WakeBanks", "WIND_Q", zk1)
def zk2 : List Int32 := [150, 120, 200]
def zst2 : String × String × List Int32 := ("WakeBanks", "WEAR_LIMITS", zk2)
def zk3 : List Int32 := [4, 2, 6]
def zst3 : String × String × List Int32 := ("WakeBanks", "WORK_HOURS", zk3)
def zk4 : List Int32 := [0, -1, 1, -2, 2]
def zst4 : String × String × List Int32 := ("WakeBanks", "TURNS", zk4)
def zst : List (String × String × List Int32) := [zst0, zst1, zst2, zst3, zst4]
/-- the texts -/
def zstr : List (String × Nat × String) := [("WakeBanks", 116, "a TURN is -2 to 2"), ("WakeBanks", 134, "FAULTED, LOCKED, or so already"), ("WakeBanks", 142, "a FLOOR is -51 to 50"), ("WakeBanks", 163, "its crew is on a TURBINE, or another VESSEL is there"), ("WakeBanks", 172, "in PORT, or the crew is on the TURBINE"), ("WakeBanks", 180, "STARTING, LOCKED, or not LOCKED by this VESSEL"), ("WakeBanks", 200, "its crew is on no TURBINE, or the WAVE is too high"), ("WakeBanks", 232, "of a TURBINE 0 to 9 is asked"), ("WakeBanks", 240, "no such CAUSE"), ("WakeBanks", 250, "no such EXTREME"), ("WakeBanks", 272, "of a STRING 0 to 3 is asked"), ("WakeBanks", 283, "of a VESSEL 0 to 4 is asked"), ("WakeBanks", 306, "0 to 13 is asked"), ("WakeBanks", 308, "HOURS are 1 to 24"), ("WakeBanks", 32, "a RATING is 100 to 9999"), ("WakeBanks", 362, "no such TURBINE"), ("WakeBanks", 364, "no such STRING"), ("WakeBanks", 366, "no such VESSEL"), ("WakeBanks", 368, "no such PART"), ("WakeBanks", 43, "there are 3 STRINGS"), ("WakeBanks", 54, "x and y are 0 to 19"), ("WakeBanks", 63, "there are 8 TURBINES, or one is there"), ("WakeBanks", 69, "a LIMIT of WAVES is 5 to 40"), ("WakeBanks", 74, "there are 3 VESSELS"), ("WakeBanks", 82, "the next 24 HOURS, 0 to 20000"), ("WakeBanks", 98, "no such HOURS")]
/-- words of the tables that are carried along -/
def zNws : List Cond := [.fieldLinkNest "WakeBanks$Turbine" 95 "WakeBanks" "WEAR_LIMITS" "[I" "WakeBanks", .fieldLinkNest "WakeBanks$Vessel" 31 "WakeBanks" "WORK_HOURS" "[I" "WakeBanks", .fieldLinkNest "WakeBanks$Wakes" 13 "WakeBanks" "WIND_Q" "[I" "WakeBanks", .fieldLinkNest "WakeBanks$Wakes" 9 "WakeBanks" "WIND_P" "[I" "WakeBanks", .methodLinkNest "WakeBanks" 21 ⟨"WakeBanks$Siting", "<init>", "()V"⟩ "WakeBanks", .methodLinkNest "WakeBanks$Sea" 31 ⟨"WakeBanks$Weather", "<init>", "()V"⟩ "WakeBanks", .methodLinkNest "WakeBanks$Sea" 47 ⟨"WakeBanks$Turbine", "<init>", "()V"⟩ "WakeBanks", .methodLinkNest "WakeBanks$Sea" 48 ⟨"WakeBanks$Cable", "<init>", "()V"⟩ "WakeBanks", .methodLinkNest "WakeBanks$Sea" 49 ⟨"WakeBanks$Vessel", "<init>", "()V"⟩ "WakeBanks", .methodLinkNest "WakeBanks$Turbine" 33 ⟨"WakeBanks$Extremes", "<init>", "()V"⟩ "WakeBanks", .methodLinkNest "WakeBanksModel" 103 ⟨"WakeBanksModel$Sea", "stop", "([II)V"⟩ "WakeBanksModel", .methodLinkNest "WakeBanksModel" 9 ⟨"WakeBanksModel$Sea", "<init>", "()V"⟩ "WakeBanksModel", .methodLinkNest "WakeBanksModel" 99 ⟨"WakeBanksModel$Sea", "start", "([I)V"⟩ "WakeBanksModel", .methodLinkNest "WakeBanksModel$Sea" 133 ⟨"WakeBanksModel", "power", "(I)I"⟩ "WakeBanksModel", .methodLinkNest "WakeBanksModel$Sea" 91 ⟨"WakeBanksModel", "along", "(IZ)I"⟩ "WakeBanksModel", .methodLinkNest "WakeBanksModel$Sea" 95 ⟨"WakeBanksModel", "in", "(III)Z"⟩ "WakeBanksModel", .castable "java/lang/IllegalArgumentException" "java/lang/IllegalArgumentException", .castable "java/lang/IllegalStateException" "java/lang/IllegalStateException", .castable "java/lang/IndexOutOfBoundsException" "java/lang/IndexOutOfBoundsException", .declares ⟨"java/lang/Exception", "<init>", "()V"⟩, .declares ⟨"java/lang/Exception", "<init>", "(Ljava/lang/String;)V"⟩, .declares ⟨"java/lang/RuntimeException", "<init>", "()V"⟩, .declares ⟨"java/lang/RuntimeException", "<init>", "(Ljava/lang/String;)V"⟩, .declares ⟨"java/lang/Throwable", "<init>", "()V"⟩, .declares ⟨"java/lang/Throwable", "<init>", "(Ljava/lang/String;)V"⟩]
def zkw : Cond → Bool
  | .castable .. => true
  | .declares .. => true
  | .fieldLinkNest .. => true
  | .methodLinkNest .. => true
  | _ => false
theorem zNws_ok : zNws.all zkw = true := by decide +kernel
def zao : List String := ["WakeBanks$Cable", "WakeBanks$Turbine", "WakeBanks$Vessel"]
def zaa : List FieldType := [.int]
/-- no object of the one is one of the other -/
def znc : List (String × String) := [("java/lang/IllegalArgumentException", "java/lang/IllegalStateException"), ("java/lang/IllegalArgumentException", "java/lang/IndexOutOfBoundsException"), ("java/lang/IllegalStateException", "java/lang/IllegalArgumentException"), ("java/lang/IllegalStateException", "java/lang/IndexOutOfBoundsException"), ("java/lang/IndexOutOfBoundsException", "java/lang/IllegalArgumentException"), ("java/lang/IndexOutOfBoundsException", "java/lang/IllegalStateException")]
def zTg : List Cond := lw_tbl.filter goodWord
end
section
/-! ===== Z: a method as a function on regions of memory =====
A region is a graph of objects whose references never change: a memory 'kind, place, slot' of ints. zZ says: from here the method comes to the outcome that the value φ names. -/
abbrev zR : Type := Nat × Nat × Nat
abbrev zV : Type := zR ⊕ (Int32 ⊕ Int64)
abbrev zM : Type := Nat → Nat → Nat → Int32
abbrev zD : Type := Nat × List Nat
abbrev zO : Type := (Option zV ⊕ String) × List zM
def zr (r k i : Nat) : zV := .inl (r, k, i)
def zi (x : Int32) : zV := .inr (.inl x)
def zl (x : Int64) : zV := .inr (.inr x)
def zm0 : zM := fun _ _ _ => 0
def zu (σ : zM) (k i o : Nat) (x : Int32) : zM := fun k' i' o' => if k' = k ∧ i' = i ∧ o' = o then x else σ k' i' o'
/-- a row of memory in place of what was -/
def zur (σ : zM) (k i : Nat) (f : Nat → Int32) : zM := fun k' i' => if k' = k ∧ i' = i then f else σ k' i'
def zt (ad : zR → Nat) : zV → Value
  | .inl q => .ref (ad q)
  | .inr (.inl x) => .int x
  | .inr (.inr x) => .long x
def zcat : zV → Nat
  | .inl _ => 1
  | .inr (.inl _) => 1
  | .inr (.inr _) => 2
theorem zcat_t (ad : zR → Nat) (v : zV) : (zt ad v).category = zcat v := by
  rcases v with q | x | x <;> rfl
def zcs (st : List zV) : Nat := (st.map zcat).sum
theorem zcs_t (ad : zR → Nat) (st : List zV) : ((st.map (zt ad)).map fun v => v.category).sum = zcs st := by
  rw [List.map_map]
  unfold zcs
  congr 1
  exact List.map_congr_left fun v _ => zcat_t ad v
theorem zu_row {σ : zM} {k i o k' i' : Nat} {x : Int32} (h : ¬ (k' = k ∧ i' = i)) : zu σ k i o x k' i' = σ k' i' := by
  funext o'
  unfold zu
  rw [if_neg (fun q => h ⟨q.1, q.2.1⟩)]
theorem zu_here (σ : zM) (k i o : Nat) (x : Int32) : zu σ k i o x k i = upd (σ k i) o x := by
  funext o'
  unfold zu upd
  by_cases h : o' = o
  · rw [if_pos ⟨rfl, rfl, h⟩, if_pos h]
  · rw [if_neg (fun q => h q.2.2), if_neg h]
theorem zur_row {σ : zM} {k i k' i' : Nat} {f : Nat → Int32} (h : ¬ (k' = k ∧ i' = i)) : zur σ k i f k' i' = σ k' i' := by
  unfold zur
  rw [if_neg h]
theorem zur_here (σ : zM) (k i : Nat) (f : Nat → Int32) : zur σ k i f k i = f := by
  unfold zur
  rw [if_pos ⟨rfl, rfl⟩]
/-! cells and worlds -/
def zrf (ad : zR → Nat) (r : Nat) (lk : List Nat) (ty k i o : Nat) : Option Nat := (zrs ty k i o).map fun q => ad ((if q.1 = 0 then r else lk.getD (q.1 - 1) r), q.2.1, q.2.2)
def zsv (ad : zR → Nat) (r : Nat) (lk : List Nat) (ty k i : Nat) (f : Nat → Int32) (o : Nat) : Value := match zrf ad r lk ty k i o with
  | some a => .ref a
  | none => .int (if zbo ty k o = true then f o &&& 1 else f o)
def zce (cA : Nat → ClassId) (ad : zR → Nat) (r : Nat) (lk : List Nat) (ty k i : Nat) (f : Nat → Int32) : va_E := match (zsh ty k).2 with
  | .inl (ci, n) => .inr (ci, (List.range n).map (zsv ad r lk ty k i f))
  | .inr (.inl n) => .inl (cA 0, n, .inl f)
  | .inr (.inr (n, ca)) => .inl (cA ca, n, .inr (.inr (.inr (.inr (zrf ad r lk ty k i)))))
def zty' (Rg : List zD) (r : Nat) : Nat := (Rg.getD r (0, [])).1
def zlk (Rg : List zD) (r : Nat) : List Nat := (Rg.getD r (0, [])).2
def zcq (cA : Nat → ClassId) (ad : zR → Nat) (Rg : List zD) (Ms : List zM) (q : zR) : va_E := zce cA ad q.1 (zlk Rg q.1) (zty' Rg q.1) q.2.1 q.2.2 (Ms.getD q.1 zm0 q.2.1 q.2.2)
def zin (Rg : List zD) (q : zR) : Prop := q.1 < Rg.length ∧ q.2.1 < zKn ∧ q.2.2 < (zsh (zty' Rg q.1) q.2.1).1
def zids (Rg : List zD) : List zR := (List.range Rg.length).flatMap fun r => (List.range zKn).flatMap fun k => (List.range (zsh (zty' Rg r) k).1).map fun i => (r, k, i)
theorem zids_iff {Rg : List zD} {q : zR} : q ∈ zids Rg ↔ zin Rg q := by
  unfold zids zin
  simp only [List.mem_flatMap, List.mem_range, List.mem_map]
  constructor
  · rintro ⟨r, h1, k, h2, i, h3, rfl⟩
    exact ⟨h1, h2, h3⟩
  · rintro ⟨h1, h2, h3⟩
    exact ⟨q.1, h1, q.2.1, h2, q.2.2, h3, rfl⟩
def zwl (cA : Nat → ClassId) (ad : zR → Nat) (Rg : List zD) (Ms : List zM) : va_W := (zids Rg).map fun q => (ad q, zcq cA ad Rg Ms q)
theorem zw_get {cA : Nat → ClassId} {ad : zR → Nat} {Rg : List zD} {Ms : List zM} {q : zR} (h : zin Rg q) : ∃ j : Nat, (zwl cA ad Rg Ms)[j]? = some (ad q, zcq cA ad Rg Ms q) := by
  obtain ⟨j, hj⟩ := List.getElem?_of_mem (zids_iff.mpr h)
  exact ⟨j, by unfold zwl; rw [List.getElem?_map, hj]; rfl⟩
theorem zw_of {cA : Nat → ClassId} {ad : zR → Nat} {Rg : List zD} {Ms : List zM} {j : Nat} {x : Nat × va_E} (h : (zwl cA ad Rg Ms)[j]? = some x) : ∃ q, (zids Rg)[j]? = some q ∧ zin Rg q ∧ x = (ad q, zcq cA ad Rg Ms q) := by
  unfold zwl at h
  rw [List.getElem?_map] at h
  cases hq : (zids Rg)[j]? with
  | none => rw [hq] at h; cases h
  | some q =>
    rw [hq] at h
    exact ⟨q, rfl, zids_iff.mp (List.mem_of_getElem? hq), (Option.some.inj h).symm⟩
/-- the addresses are apart: two places of one address are one -/
theorem zw_inj {A : Nat → Prop} {cA : Nat → ClassId} {ad : zR → Nat} {Rg : List zD} {Ms : List zM} (hD : va_D A (zwl cA ad Rg Ms)) {q q' : zR} (h : zin Rg q) (h' : zin Rg q') (e : ad q = ad q') : q = q' := by
  obtain ⟨j, hj⟩ := List.getElem?_of_mem (zids_iff.mpr h)
  obtain ⟨j', hj'⟩ := List.getElem?_of_mem (zids_iff.mpr h')
  have e1 : (zwl cA ad Rg Ms)[j]? = some (ad q, zcq cA ad Rg Ms q) := by unfold zwl; rw [List.getElem?_map, hj]; rfl
  have e2 : (zwl cA ad Rg Ms)[j']? = some (ad q', zcq cA ad Rg Ms q') := by unfold zwl; rw [List.getElem?_map, hj']; rfl
  have := hD.1 j j' _ _ e1 e2 e
  subst this
  exact Option.some.inj (hj.symm.trans hj')
theorem zw_set {A : Nat → Prop} {cA : Nat → ClassId} {ad : zR → Nat} {Rg : List zD} {Ms Ms' : List zM} (hD : va_D A (zwl cA ad Rg Ms)) {j : Nat} {q : zR} {e : va_E} (hq : zin Rg q) (hj : (zwl cA ad Rg Ms)[j]? = some (ad q, zcq cA ad Rg Ms q)) (he : zcq cA ad Rg Ms' q = e) (hn : ∀ q', zin Rg q' → q' ≠ q → zcq cA ad Rg Ms' q' = zcq cA ad Rg Ms q') : (zwl cA ad Rg Ms).set j (ad q, e) = zwl cA ad Rg Ms' := by
  have hl := (List.getElem?_eq_some_iff.mp hj).1
  refine List.ext_getElem? fun i => ?_
  by_cases hi : i = j
  · subst hi
    rw [List.getElem?_set_self hl]
    obtain ⟨q0, h1, h2, h3⟩ := zw_of hj
    have : q0 = q := zw_inj hD h2 hq (congrArg Prod.fst h3).symm
    subst this
    unfold zwl
    rw [List.getElem?_map, h1, ← he]
    rfl
  · rw [List.getElem?_set_ne (Ne.symm hi)]
    cases hx : (zwl cA ad Rg Ms)[i]? with
    | none =>
      unfold zwl at hx ⊢
      rw [List.getElem?_map] at hx ⊢
      cases hz : (zids Rg)[i]? with
      | none => rfl
      | some q0 => rw [hz] at hx; cases hx
    | some x =>
      obtain ⟨q0, h1, h2, h3⟩ := zw_of hx
      have hne : q0 ≠ q := fun z => hi (hD.1 i j _ _ hx hj (by rw [h3, z]))
      unfold zwl
      rw [List.getElem?_map, h1, h3, ← hn q0 h2 hne]
      rfl
theorem zw_D {A : Nat → Prop} {cA : Nat → ClassId} {ad : zR → Nat} {Rg : List zD} {Ms : List zM} (Ms' : List zM) (hD : va_D A (zwl cA ad Rg Ms)) : va_D A (zwl cA ad Rg Ms') := by
  refine ⟨fun i j p q hi hj hpq => ?_, fun k q hk => ?_⟩
  · obtain ⟨q1, a1, a2, a3⟩ := zw_of hi
    obtain ⟨q2, b1, b2, b3⟩ := zw_of hj
    have e1 : (zwl cA ad Rg Ms)[i]? = some (ad q1, zcq cA ad Rg Ms q1) := by unfold zwl; rw [List.getElem?_map, a1]; rfl
    have e2 : (zwl cA ad Rg Ms)[j]? = some (ad q2, zcq cA ad Rg Ms q2) := by unfold zwl; rw [List.getElem?_map, b1]; rfl
    exact hD.1 i j _ _ e1 e2 (by rw [a3, b3] at hpq; exact hpq)
  · obtain ⟨q1, a1, a2, a3⟩ := zw_of hk
    have e1 : (zwl cA ad Rg Ms)[k]? = some (ad q1, zcq cA ad Rg Ms q1) := by unfold zwl; rw [List.getElem?_map, a1]; rfl
    have := hD.2 k _ e1
    rw [a3]
    exact this
/-- one region's memory, at one row, has changed -/
theorem zcq_row {cA : Nat → ClassId} {ad : zR → Nat} {Rg : List zD} {Ms : List zM} {r k i : Nat} {σ σ' : zM} (hm : Ms[r]? = some σ) (hs : ∀ k' i', ¬ (k' = k ∧ i' = i) → σ' k' i' = σ k' i') : ∀ q', q' ≠ (r, k, i) → zcq cA ad Rg (Ms.set r σ') q' = zcq cA ad Rg Ms q' := by
  intro q' hne
  obtain ⟨r', k', i'⟩ := q'
  have hl := (List.getElem?_eq_some_iff.mp hm).1
  unfold zcq
  dsimp only
  by_cases hr : r' = r
  · subst hr
    rw [List.getD_eq_getElem?_getD, List.getD_eq_getElem?_getD, List.getElem?_set_self hl, hm]
    show zce cA ad r' _ _ k' i' (σ' k' i') = zce cA ad r' _ _ k' i' (σ k' i')
    rw [hs k' i' (fun z => hne (by rw [z.1, z.2]))]
  · rw [List.getD_eq_getElem?_getD, List.getD_eq_getElem?_getD, List.getElem?_set_ne (Ne.symm hr)]
theorem zcq_here {cA : Nat → ClassId} {ad : zR → Nat} {Rg : List zD} {Ms : List zM} {r k i : Nat} {σ σ' : zM} (hm : Ms[r]? = some σ) : zcq cA ad Rg (Ms.set r σ') (r, k, i) = zce cA ad r (zlk Rg r) (zty' Rg r) k i (σ' k i) := by
  have hl := (List.getElem?_eq_some_iff.mp hm).1
  unfold zcq
  dsimp only
  rw [List.getD_eq_getElem?_getD, List.getElem?_set_self hl]
  rfl
theorem zcq_at {cA : Nat → ClassId} {ad : zR → Nat} {Rg : List zD} {Ms : List zM} {r k i : Nat} {σ : zM} (hm : Ms[r]? = some σ) : zcq cA ad Rg Ms (r, k, i) = zce cA ad r (zlk Rg r) (zty' Rg r) k i (σ k i) := by
  unfold zcq
  dsimp only
  rw [List.getD_eq_getElem?_getD, hm]
  rfl
/-! locals -/
def zlv (ad : zR → Nat) (nL : Nat) (ls : Array Slot) (L : List (Option zV)) : Prop := ls.size = nL ∧ lv_wf ls ∧ ∀ (k : Nat) (v : zV), L[k]? = some (some v) → ls[k]? = some (.val (zt ad v))
def zll (ad : zR → Nat) (L : List (Option zV)) : List (Nat × Value) := (List.range L.length).filterMap fun k => match L[k]? with
  | some (some v) => some (k, zt ad v)
  | _ => none
theorem zll_mem {ad : zR → Nat} {L : List (Option zV)} {k : Nat} {v : zV} (h : L[k]? = some (some v)) : (k, zt ad v) ∈ zll ad L := by
  unfold zll
  rw [List.mem_filterMap]
  exact ⟨k, List.mem_range.mpr (List.getElem?_eq_some_iff.mp h).1, by rw [h]⟩
theorem zll_of {ad : zR → Nat} {L : List (Option zV)} {q : Nat × Value} (h : q ∈ zll ad L) : ∃ v, L[q.1]? = some (some v) ∧ q.2 = zt ad v := by
  unfold zll at h
  rw [List.mem_filterMap] at h
  obtain ⟨k, -, h2⟩ := h
  split at h2
  · rename_i v hv
    cases h2
    exact ⟨v, hv, rfl⟩
  · cases h2
theorem zlv_has {ad : zR → Nat} {nL : Nat} {ls : Array Slot} {L : List (Option zV)} (h : zlv ad nL ls L) : lv_has ls nL (zll ad L) := by
  refine ⟨h.1, h.2.1, fun q hq => ?_⟩
  obtain ⟨v, h1, h2⟩ := zll_of hq
  rw [h2]
  exact h.2.2 _ _ h1
/-- no long stands just ahead of place i -/
def zsafe (L : List (Option zV)) (i : Nat) : Bool := match i with
  | 0 => true
  | j + 1 => match L[j]? with
    | some (some (.inr (.inr _))) => false
    | _ => true
theorem zlv_set {ad : zR → Nat} {nL : Nat} {ls : Array Slot} {L : List (Option zV)} {i : Nat} {v : zV} (hs : zsafe L i = true) (hc : zcat v = 1) (h : lv_has ls nL ((i, zt ad v) :: (zll ad L).filter (fun q => !(q.1 == i) && !(q.1 + 1 == i && q.2.category == 2)))) : zlv ad nL ls (L.set i (some v)) := by
  refine ⟨h.1, h.2.1, fun k w hk => ?_⟩
  by_cases hki : k = i
  · subst hki
    have hl : k < L.length := by
      rcases Nat.lt_or_ge k L.length with q | q
      · exact q
      · rw [List.getElem?_eq_none (by rw [List.length_set]; exact q)] at hk
        cases hk
    rw [List.getElem?_set_self hl] at hk
    cases hk
    exact h.2.2 _ List.mem_cons_self
  · rw [List.getElem?_set_ne (Ne.symm hki)] at hk
    refine h.2.2 (k, zt ad w) (List.mem_cons_of_mem _ (List.mem_filter.mpr ⟨zll_mem hk, ?_⟩))
    have h1 : (k == i) = false := by simp [hki]
    have h2 : (k + 1 == i && (zt ad w).category == 2) = false := by
      by_cases hk1 : k + 1 = i
      · subst hk1
        unfold zsafe at hs
        dsimp only at hs
        rw [hk] at hs
        rcases w with q | x | x
        · simp [zt, Value.category]
        · simp [zt, Value.category]
        · cases hs
      · simp [hk1]
    dsimp only
    rw [h1, h2]
    rfl
theorem zlv_setl {ad : zR → Nat} {nL : Nat} {ls : Array Slot} {L : List (Option zV)} {i : Nat} {x : Int64} (hs : zsafe L i = true) (h : lv_has ls nL ((i, Value.long x) :: (zll ad L).filter (fun q => !(q.1 == i) && (!(q.1 == i + 1) && !(q.1 + 1 == i && q.2.category == 2))))) : zlv ad nL ls ((L.set i (some (zl x))).set (i + 1) none) := by
  refine ⟨h.1, h.2.1, fun k w hk => ?_⟩
  have hk1 : k ≠ i + 1 := by
    rintro rfl
    rcases Nat.lt_or_ge (i + 1) L.length with q | q
    · rw [List.getElem?_set_self (by rw [List.length_set]; exact q)] at hk
      cases hk
    · rw [List.getElem?_eq_none (by rw [List.length_set, List.length_set]; exact q)] at hk
      cases hk
  rw [List.getElem?_set_ne (Ne.symm hk1)] at hk
  by_cases hki : k = i
  · subst hki
    have hl : k < L.length := by
      rcases Nat.lt_or_ge k L.length with q | q
      · exact q
      · rw [List.getElem?_eq_none (by rw [List.length_set]; exact q)] at hk
        cases hk
    rw [List.getElem?_set_self hl] at hk
    cases hk
    exact h.2.2 _ List.mem_cons_self
  · rw [List.getElem?_set_ne (Ne.symm hki)] at hk
    refine h.2.2 (k, zt ad w) (List.mem_cons_of_mem _ (List.mem_filter.mpr ⟨zll_mem hk, ?_⟩))
    have h1 : (k == i) = false := by simp [hki]
    have h3 : (k == i + 1) = false := by simp [hk1]
    have h2 : (k + 1 == i && (zt ad w).category == 2) = false := by
      by_cases hk1 : k + 1 = i
      · subst hk1
        unfold zsafe at hs
        dsimp only at hs
        rw [hk] at hs
        rcases w with q | x | x
        · simp [zt, Value.category]
        · simp [zt, Value.category]
        · cases hs
      · simp [hk1]
    dsimp only
    rw [h1, h2, h3]
    rfl
/-- what is known of the locals, less of it -/
def zsub (L L' : List (Option zV)) : Prop := ∀ (k : Nat) (v : zV), L'[k]? = some (some v) → L[k]? = some (some v)
theorem zs_z : zsub [] [] := fun _ _ h => h
theorem zs_k {a : Option zV} {L L' : List (Option zV)} (h : zsub L L') : zsub (a :: L) (a :: L') := by
  intro k v hk
  cases k with
  | zero => exact hk
  | succ k => exact h k v hk
theorem zs_n {a : Option zV} {L L' : List (Option zV)} (h : zsub L L') : zsub (a :: L) (none :: L') := by
  intro k v hk
  cases k with
  | zero => cases hk
  | succ k => exact h k v hk
theorem zlv_sub {ad : zR → Nat} {nL : Nat} {ls : Array Slot} {L L' : List (Option zV)} (h : zlv ad nL ls L) (hs : zsub L L') : zlv ad nL ls L' := ⟨h.1, h.2.1, fun k v hk => h.2.2 k v (hs k v hk)⟩
end
section
/-! ===== the judgement ===== -/
abbrev zX : Type := Program × Launch × Env × State × MethodId × Array Value × List Frame × Method × Code × va_G × (Nat → ClassId) × (zR → Nat) × (Nat → Prop)
def ztl (cA : Nat → ClassId) : List (ClassId × FieldType) := (List.range zTn).map fun j => (cA j, zty j)
theorem ztl_at {cA : Nat → ClassId} {j : Nat} (h : j < zTn) : (ztl cA)[j]? = some (cA j, zty j) := by
  unfold ztl
  rw [List.getElem?_map, List.getElem?_range h]
  rfl
/-- what stands around: arrays of constants, texts, words of the tables -/
def zEv (ad : zR → Nat) (A : Nat → Prop) (s : State) (H : Heap) : Prop :=
  (∀ (j : Nat) (q : String × String × List Int32), zst[j]? = some q → va_Z q.1 q.2.1 "[I" (.ref (ad (100 + j, 0, 0))) A s H ∧ va_T .int (ad (100 + j, 0, 0)) q.2.2.length (fun i => .int (q.2.2.getD i 0)) A s H) ∧
  (∀ q ∈ zstr, ∃ a : Nat, vk_R q.1 q.2.1 q.2.2 a s) ∧ (∀ w ∈ zNws, va_Nw w s) ∧
  vx_Zq Bundle.tN "UNASSIGNED_STACK" Bundle.steD A s H ∧ vx_Zq Bundle.tN "SUPPRESSED_SENTINEL" Bundle.listD A s H
theorem zNw_on {w : Cond} (h : zkw w = true) : w.onTables = true := by
  cases w <;> first | rfl | cases h
theorem zNw_warm {w : Cond} (h : zkw w = true) {s U : State} (hW : s.WarmedH U.vm) (hz : va_Nw w s) : va_Nw w U := by
  cases w <;> first | (cases h; done) | exact va_Nw.warmC hW hz | exact va_Nw.warmD hW hz | exact va_Nw.warmF hW hz | exact va_Nw.warmM hW hz
theorem zEv.warm {ad : zR → Nat} {A : Nat → Prop} {s U : State} {H : Heap} (hW : s.WarmedH U.vm) (h : zEv ad A s H) : zEv ad A U H := by
  obtain ⟨h1, h2, h3, h4, h5⟩ := h
  exact ⟨fun j q hq => ⟨va_Z.moved hW.alike (h1 j q hq).1, va_T.moved hW.alike (h1 j q hq).2⟩, fun q hq => (h2 q hq).imp fun a ha => vk_R.warm hW ha, fun w hw => zNw_warm (List.all_eq_true.mp zNws_ok w hw) hW (h3 w hw), vx_Zq.moved hW.alike h4, vx_Zq.moved hW.alike h5⟩
theorem zEv.same {ad : zR → Nat} {A : Nat → Prop} {s U : State} {H : Heap} (hv : U.vm = s.vm) (h : zEv ad A s H) : zEv ad A U H := by
  obtain ⟨h1, h2, h3, h4, h5⟩ := h
  have hal : s.vm.Alike U.vm := by rw [hv]; exact Vm.Alike.refl _
  exact ⟨fun j q hq => ⟨va_Z.moved hal (h1 j q hq).1, va_T.moved hal (h1 j q hq).2⟩, fun q hq => (h2 q hq).imp fun a ha => vk_R.same hv ha, fun w hw => va_Nw.same (zNw_on (List.all_eq_true.mp zNws_ok w hw)) hv.symm (h3 w hw), vx_Zq.moved hal h4, vx_Zq.moved hal h5⟩
theorem zEv.kept {ad : zR → Nat} {A : Nat → Prop} {s : State} {H H1 : Heap} (h : zEv ad A s H) (hq : ∀ a : Nat, a < H.size → ¬ A a → H1[a]? = H[a]?) : zEv ad A s H1 := by
  obtain ⟨h1, h2, h3, h4, h5⟩ := h
  exact ⟨fun j q hj => ⟨(h1 j q hj).1.kept hq, (h1 j q hj).2.kept hq⟩, h2, h3, h4.kept hq, h5.kept hq⟩
theorem zEv.narrow {ad ad' : zR → Nat} {A B : Nat → Prop} {s : State} {H : Heap} (h : zEv ad A s H) (hAB : ∀ q, B q → A q) (had : ∀ j, ad' (100 + j, 0, 0) = ad (100 + j, 0, 0)) : zEv ad' B s H := by
  obtain ⟨h1, h2, h3, h4, h5⟩ := h
  exact ⟨fun j q hj => by rw [had]; exact ⟨(h1 j q hj).1.narrow hAB, (h1 j q hj).2.narrow hAB⟩, h2, h3, h4.narrow hAB, h5.narrow hAB⟩
/-- a frame of a method of the class own: its code, the machine's, the tables', the classes that are known -/
def zFr (X : zX) (cc : ByteArray) (nL : Nat) (own : String) (ret : Option FieldType) : Prop := match X with
  | (p, l, e, s, m, args, below, meth, c, D, cA, ad, A) => p.tables.exec = Jvm.exec ∧ c.code = cc ∧ c.maxLocals = nL ∧ s.vm.findClass own = some m.cls ∧ (∀ w ∈ zTg, w.before args s = true) ∧ meth.locks = false ∧ va_K D zcl (ztl cA) s ∧ (∀ q : Nat, s.heap.size ≤ q → A q) ∧ zEv ad A s s.heap ∧ l.stackTraces = false ∧ (∀ x ∈ c.exceptionTable.toList, False) ∧ meth.sig.returnType = ret
def zrm (fr lo : Nat) (o : zO) : Room := match o.1 with
  | .inl _ => { frames := fr, cells := 0, slots := 0, locals := lo }
  | .inr _ => { frames := fr, cells := 1, slots := 6, locals := lo }
theorem zrm_f (fr lo : Nat) (o : zO) : (zrm fr lo o).frames = fr := by unfold zrm; split <;> rfl
theorem zrm_l (fr lo : Nat) (o : zO) : (zrm fr lo o).locals = lo := by unfold zrm; split <;> rfl
def zQc (D : va_G) (cA : Nat → ClassId) (ad : zR → Nat) (A : Nat → Prop) (Rg : List zD) (v : Option zV) (Ms : List zM) : Array Value → State → Outcome → State → Prop := fun _ st oc t =>
  oc = .returned (v.map (zt ad)) ∧ va_P D zcl (zwl cA ad Rg Ms) t.heap ∧ va_F A st t
def zXc (D : va_G) (cA : Nat → ClassId) (ad : zR → Nat) (A : Nat → Prop) (Rg : List zD) (E : String) (Ms : List zM) : String → State → State → Prop := fun E' st t =>
  E' = E ∧ va_P D zcl (zwl cA ad Rg Ms) t.heap ∧ va_F A st t
def zNo : Array Value → State → Outcome → State → Prop := fun _ _ _ _ => False
def zQ (X : zX) (Rg : List zD) (o : zO) : State → Prop := match X with
  | (p, l, e, s, m, args, below, meth, c, D, cA, ad, A) => match o.1 with
    | .inl v => MQ below (zQc D cA ad A Rg v o.2) args s 0 0 A
    | .inr E => vx_MQ below zNo (zXc D cA ad A Rg E o.2) args s 1 6 A
/-- from pc, with these locals, this stack, these memories: the method comes to the outcome φ, if that is one -/
def zZ (X : zX) (Rg : List zD) (fr lo nL pc : Nat) (L : List (Option zV)) (st : List zV) (Ms : List zM) (φ : Option zO) : Prop := match X with
  | (p, l, e, s, m, args, below, meth, c, D, cA, ad, A) => ∀ o : zO, φ = some o → ∀ (H : Heap) (locs : List Loc) (ls : Array Slot), zlv ad nL ls L → va_P D zcl (zwl cA ad Rg Ms) H → va_D A (zwl cA ad Rg Ms) → va_S A s.heap H locs →
      W p l e (zrm fr lo o) s m args below meth c H locs 0 0 (zQ (p, l, e, s, m, args, below, meth, c, D, cA, ad, A) Rg o) (F0 m pc ls (st.map (zt ad)))
theorem zlb {a b : Nat} (h : Nat.ble (a + 1) b = true) : a < b := Nat.le_of_ble_eq_true h
def zmax (x y : Int32) : Int32 := if x < y then y else x
def zmin (x y : Int32) : Int32 := if y < x then y else x
def zabs (x : Int32) : Int32 := if 0 ≤ x then x else 0 - x
theorem zsw_out {v lw hi : Int32} {a b : Int} (ha : lw.toInt = a) (hb : hi.toInt = b) (h : v < lw ∨ hi < v) : v.toInt < a ∨ b < v.toInt := by
  subst ha; subst hb
  rcases h with h | h
  · exact Or.inl (Int32.lt_iff_toInt_lt.mp h)
  · exact Or.inr (Int32.lt_iff_toInt_lt.mp h)
theorem zsw_in {v lw hi : Int32} {a b : Int} (ha : lw.toInt = a) (hb : hi.toInt = b) (h : ¬ (v < lw ∨ hi < v)) : a ≤ v.toInt ∧ v.toInt ≤ b := by
  subst ha; subst hb
  exact ⟨Int.not_lt.mp fun q => h (Or.inl (Int32.lt_iff_toInt_lt.mpr q)), Int.not_lt.mp fun q => h (Or.inr (Int32.lt_iff_toInt_lt.mpr q))⟩
theorem zsw_at {v k : Int32} {a : Int} (hv : v = k) (hk : k.toInt = a) : v.toInt = a := by rw [hv]; exact hk
theorem zsw_ne {v k : Int32} {a : Int} (hk : k.toInt = a) (h : ¬ v = k) : v.toInt ≠ a := fun q => h (Int32.toInt_inj.mp (q.trans hk.symm))
theorem zsw_eq {v k : Int32} {a : Int} (hk : k.toInt = a) (h : v.toInt = a) : v = k := Int32.toInt_inj.mp (h.trans hk.symm)
section ZZ
variable {X : zX} {cc : ByteArray} {nL : Nat} {own : String} {ret : Option FieldType} {Rg : List zD} {fr lo pc : Nat} {L L' : List (Option zV)} {st : List zV} {Ms : List zM} {φ : Option zO} {α β : Type}
/-! what the value φ is made of -/
theorem zz_some {a : α} {κ : α → Option zO} (k : zZ X Rg fr lo nL pc L st Ms (κ a)) : zZ X Rg fr lo nL pc L st Ms (Option.bind (some a) κ) := k
theorem zz_bind {x : Option α} {f : α → Option β} {κ : β → Option zO} (k : zZ X Rg fr lo nL pc L st Ms (Option.bind x fun a => Option.bind (f a) κ)) : zZ X Rg fr lo nL pc L st Ms (Option.bind (Option.bind x f) κ) := by
  cases x <;> exact k
theorem zz_t {c : Prop} [Decidable c] {a b : Option α} {κ : α → Option zO} (h : c) (k : zZ X Rg fr lo nL pc L st Ms (Option.bind a κ)) : zZ X Rg fr lo nL pc L st Ms (Option.bind (if c then a else b) κ) := by
  rw [if_pos h]
  exact k
theorem zz_f {c : Prop} [Decidable c] {a b : Option α} {κ : α → Option zO} (h : ¬ c) (k : zZ X Rg fr lo nL pc L st Ms (Option.bind b κ)) : zZ X Rg fr lo nL pc L st Ms (Option.bind (if c then a else b) κ) := by
  rw [if_neg h]
  exact k
theorem zz_sw {c : Prop} [Decidable c] {a b : Option α} {κ : α → Option zO} (kt : c → zZ X Rg fr lo nL pc L st Ms (Option.bind a κ)) (kf : ¬ c → zZ X Rg fr lo nL pc L st Ms (Option.bind b κ)) : zZ X Rg fr lo nL pc L st Ms (Option.bind (if c then a else b) κ) := by
  by_cases h : c
  · exact zz_t h (kt h)
  · exact zz_f h (kf h)
theorem zz_none {κ : α → Option zO} : zZ X Rg fr lo nL pc L st Ms (Option.bind none κ) := by
  obtain ⟨p, l, e, s, m, args, below, meth, c, D, cA, ad, A⟩ := X
  intro o ho
  cases ho
/-- a test that must hold for there to be an outcome -/
def zg {α : Type} (c : Prop) [Decidable c] (x : Option α) : Option α := if c then x else none
theorem zz_g {c : Prop} [Decidable c] {x : Option α} {κ : α → Option zO} (k : c → zZ X Rg fr lo nL pc L st Ms (Option.bind x κ)) : zZ X Rg fr lo nL pc L st Ms (Option.bind (zg c x) κ) := by
  unfold zg
  by_cases h : c
  · rw [if_pos h]
    exact k h
  · rw [if_neg h]
    exact zz_none
/-- a name for a value -/
def zlet {α β : Type} (a : α) (f : α → β) : β := f a
theorem zz_let {a : α} {f : α → Option β} {κ : β → Option zO} (k : zZ X Rg fr lo nL pc L st Ms (Option.bind (f a) κ)) : zZ X Rg fr lo nL pc L st Ms (Option.bind (zlet a f) κ) := k
/-- an index into an array of n -/
def zix {α : Type} (i : Int32) (n : Nat) (f : Nat → Option α) : Option α := if i < 0 ∨ n ≤ i.toNatClampNeg then none else f i.toNatClampNeg
theorem zz_ix {i : Int32} {n : Nat} {f : Nat → Option α} {κ : α → Option zO} (k : ∀ j : Nat, j < n → vp_in i n → i.toNatClampNeg = j → zZ X Rg fr lo nL pc L st Ms (Option.bind (f j) κ)) : zZ X Rg fr lo nL pc L st Ms (Option.bind (zix i n f) κ) := by
  unfold zix
  by_cases h : i < 0 ∨ n ≤ i.toNatClampNeg
  · rw [if_pos h]
    exact zz_none
  · rw [if_neg h]
    exact k _ (Nat.not_le.mp fun q => h (Or.inr q)) h rfl
theorem zz_letm {a : α} {f : α → Option β} {κ : β → Option zO} {Mf : α → List zM} (k : ∀ v, zZ X Rg fr lo nL pc L st (Mf v) (Option.bind (f v) κ)) : zZ X Rg fr lo nL pc L st (Mf a) (Option.bind (zlet a f) κ) := k a
theorem zz_letl {a : α} {f : α → Option β} {κ : β → Option zO} {Lf : α → List (Option zV)} (k : ∀ v, zZ X Rg fr lo nL pc (Lf v) st Ms (Option.bind (f v) κ)) : zZ X Rg fr lo nL pc (Lf a) st Ms (Option.bind (zlet a f) κ) := k a
/-- a loop, at most n times round: a turn goes on (inl) or ends it (inr) -/
def ziter {σ β : Type} (b : σ → Option (σ ⊕ β)) : Nat → σ → Option β
  | 0, _ => none
  | n + 1, s => (b s).bind (Sum.elim (fun s' => ziter b n s') some)
theorem ziter_succ {σ β : Type} (b : σ → Option (σ ⊕ β)) (n : Nat) (s : σ) : ziter b (n + 1) s = (b s).bind (Sum.elim (ziter b n) some) := by
  rw [ziter]
theorem zz_iter {σ : Type} {b : σ → Option (σ ⊕ β)} {κ : β → Option zO} {Lf : σ → List (Option zV)} {Mf : σ → List zM} (h : ∀ (s : σ) (ψ : σ ⊕ β → Option zO), (∀ s', zZ X Rg fr lo nL pc (Lf s') st (Mf s') (ψ (.inl s'))) → (∀ x, ψ (.inr x) = κ x) → zZ X Rg fr lo nL pc (Lf s) st (Mf s) (Option.bind (b s) ψ)) : ∀ (n : Nat) (s : σ), zZ X Rg fr lo nL pc (Lf s) st (Mf s) (Option.bind (ziter b n s) κ)
  | 0, _ => zz_none
  | n + 1, s => by
    have h1 := h s (Sum.elim (fun s' => Option.bind (ziter b n s') κ) κ) (fun s' => zz_iter h n s') (fun _ => rfl)
    rw [ziter_succ]
    rw [show Option.bind ((b s).bind (Sum.elim (ziter b n) some)) κ = Option.bind (b s) (Sum.elim (fun s' => Option.bind (ziter b n s') κ) κ) by
      cases b s with
      | none => rfl
      | some r => cases r <;> rfl]
    exact h1
theorem zz_sub (hs : zsub L L') (k : zZ X Rg fr lo nL pc L' st Ms φ) : zZ X Rg fr lo nL pc L st Ms φ := by
  obtain ⟨p, l, e, s, m, args, below, meth, c, D, cA, ad, A⟩ := X
  exact fun o ho H locs ls hl hP hD hS => k o ho H locs ls (zlv_sub hl hs) hP hD hS

theorem zz_iadd (F : zFr X cc nL own ret) {x y : Int32} (hd : decode cc pc = .ok (.iadd, 1)) (k : zZ X Rg fr lo nL (pc + 1) L (zi (x + y) :: st) Ms φ) : zZ X Rg fr lo nL pc L (zi y :: zi x :: st) Ms φ := by
  obtain ⟨p, l, e, s, m, args, below, meth, c, D, cA, ad, A⟩ := X
  obtain ⟨hx, hb, hml, hown, hts, hlk, hK, hA, hE, htr, hex, hret⟩ := F
  exact fun o ho H locs ls hl hP hD hS => lv_iadd hx hb hd (k o ho H locs ls hl hP hD hS)

theorem zz_isub (F : zFr X cc nL own ret) {x y : Int32} (hd : decode cc pc = .ok (.isub, 1)) (k : zZ X Rg fr lo nL (pc + 1) L (zi (x - y) :: st) Ms φ) : zZ X Rg fr lo nL pc L (zi y :: zi x :: st) Ms φ := by
  obtain ⟨p, l, e, s, m, args, below, meth, c, D, cA, ad, A⟩ := X
  obtain ⟨hx, hb, hml, hown, hts, hlk, hK, hA, hE, htr, hex, hret⟩ := F
  exact fun o ho H locs ls hl hP hD hS => lv_isub hx hb hd (k o ho H locs ls hl hP hD hS)

theorem zz_imul (F : zFr X cc nL own ret) {x y : Int32} (hd : decode cc pc = .ok (.imul, 1)) (k : zZ X Rg fr lo nL (pc + 1) L (zi (x * y) :: st) Ms φ) : zZ X Rg fr lo nL pc L (zi y :: zi x :: st) Ms φ := by
  obtain ⟨p, l, e, s, m, args, below, meth, c, D, cA, ad, A⟩ := X
  obtain ⟨hx, hb, hml, hown, hts, hlk, hK, hA, hE, htr, hex, hret⟩ := F
  exact fun o ho H locs ls hl hP hD hS => lv_imul hx hb hd (k o ho H locs ls hl hP hD hS)

theorem zz_iand (F : zFr X cc nL own ret) {x y : Int32} (hd : decode cc pc = .ok (.iand, 1)) (k : zZ X Rg fr lo nL (pc + 1) L (zi (x &&& y) :: st) Ms φ) : zZ X Rg fr lo nL pc L (zi y :: zi x :: st) Ms φ := by
  obtain ⟨p, l, e, s, m, args, below, meth, c, D, cA, ad, A⟩ := X
  obtain ⟨hx, hb, hml, hown, hts, hlk, hK, hA, hE, htr, hex, hret⟩ := F
  exact fun o ho H locs ls hl hP hD hS => lv_iand hx hb hd (k o ho H locs ls hl hP hD hS)

theorem zz_ior (F : zFr X cc nL own ret) {x y : Int32} (hd : decode cc pc = .ok (.ior, 1)) (k : zZ X Rg fr lo nL (pc + 1) L (zi (x ||| y) :: st) Ms φ) : zZ X Rg fr lo nL pc L (zi y :: zi x :: st) Ms φ := by
  obtain ⟨p, l, e, s, m, args, below, meth, c, D, cA, ad, A⟩ := X
  obtain ⟨hx, hb, hml, hown, hts, hlk, hK, hA, hE, htr, hex, hret⟩ := F
  exact fun o ho H locs ls hl hP hD hS => lv_ior hx hb hd (k o ho H locs ls hl hP hD hS)

theorem zz_ixor (F : zFr X cc nL own ret) {x y : Int32} (hd : decode cc pc = .ok (.ixor, 1)) (k : zZ X Rg fr lo nL (pc + 1) L (zi (x ^^^ y) :: st) Ms φ) : zZ X Rg fr lo nL pc L (zi y :: zi x :: st) Ms φ := by
  obtain ⟨p, l, e, s, m, args, below, meth, c, D, cA, ad, A⟩ := X
  obtain ⟨hx, hb, hml, hown, hts, hlk, hK, hA, hE, htr, hex, hret⟩ := F
  exact fun o ho H locs ls hl hP hD hS => lv_ixor hx hb hd (k o ho H locs ls hl hP hD hS)

theorem zz_ishr (F : zFr X cc nL own ret) {x y : Int32} (hd : decode cc pc = .ok (.ishr, 1)) (k : zZ X Rg fr lo nL (pc + 1) L (zi (x >>> (y &&& 31)) :: st) Ms φ) : zZ X Rg fr lo nL pc L (zi y :: zi x :: st) Ms φ := by
  obtain ⟨p, l, e, s, m, args, below, meth, c, D, cA, ad, A⟩ := X
  obtain ⟨hx, hb, hml, hown, hts, hlk, hK, hA, hE, htr, hex, hret⟩ := F
  exact fun o ho H locs ls hl hP hD hS => lv_ishr hx hb hd (k o ho H locs ls hl hP hD hS)

theorem zz_ladd (F : zFr X cc nL own ret) {x y : Int64} (hd : decode cc pc = .ok (.ladd, 1)) (k : zZ X Rg fr lo nL (pc + 1) L (zl (x + y) :: st) Ms φ) : zZ X Rg fr lo nL pc L (zl y :: zl x :: st) Ms φ := by
  obtain ⟨p, l, e, s, m, args, below, meth, c, D, cA, ad, A⟩ := X
  obtain ⟨hx, hb, hml, hown, hts, hlk, hK, hA, hE, htr, hex, hret⟩ := F
  exact fun o ho H locs ls hl hP hD hS => lv_ladd hx hb hd (k o ho H locs ls hl hP hD hS)

theorem zz_lsub (F : zFr X cc nL own ret) {x y : Int64} (hd : decode cc pc = .ok (.lsub, 1)) (k : zZ X Rg fr lo nL (pc + 1) L (zl (x - y) :: st) Ms φ) : zZ X Rg fr lo nL pc L (zl y :: zl x :: st) Ms φ := by
  obtain ⟨p, l, e, s, m, args, below, meth, c, D, cA, ad, A⟩ := X
  obtain ⟨hx, hb, hml, hown, hts, hlk, hK, hA, hE, htr, hex, hret⟩ := F
  exact fun o ho H locs ls hl hP hD hS => lv_lsub hx hb hd (k o ho H locs ls hl hP hD hS)

theorem zz_lmul (F : zFr X cc nL own ret) {x y : Int64} (hd : decode cc pc = .ok (.lmul, 1)) (k : zZ X Rg fr lo nL (pc + 1) L (zl (x * y) :: st) Ms φ) : zZ X Rg fr lo nL pc L (zl y :: zl x :: st) Ms φ := by
  obtain ⟨p, l, e, s, m, args, below, meth, c, D, cA, ad, A⟩ := X
  obtain ⟨hx, hb, hml, hown, hts, hlk, hK, hA, hE, htr, hex, hret⟩ := F
  exact fun o ho H locs ls hl hP hD hS => lv_lmul hx hb hd (k o ho H locs ls hl hP hD hS)

theorem zz_idiv (F : zFr X cc nL own ret) {x y : Int32} (hd : decode cc pc = .ok (.idiv, 1)) (hne : ¬ y = 0) (k : zZ X Rg fr lo nL (pc + 1) L (zi (x / y) :: st) Ms φ) : zZ X Rg fr lo nL pc L (zi y :: zi x :: st) Ms φ := by
  obtain ⟨p, l, e, s, m, args, below, meth, c, D, cA, ad, A⟩ := X
  obtain ⟨hx, hb, hml, hown, hts, hlk, hK, hA, hE, htr, hex, hret⟩ := F
  exact fun o ho H locs ls hl hP hD hS => lv_idiv hx hb hd hne (k o ho H locs ls hl hP hD hS)

theorem zz_irem (F : zFr X cc nL own ret) {x y : Int32} (hd : decode cc pc = .ok (.irem, 1)) (hne : ¬ y = 0) (k : zZ X Rg fr lo nL (pc + 1) L (zi (x % y) :: st) Ms φ) : zZ X Rg fr lo nL pc L (zi y :: zi x :: st) Ms φ := by
  obtain ⟨p, l, e, s, m, args, below, meth, c, D, cA, ad, A⟩ := X
  obtain ⟨hx, hb, hml, hown, hts, hlk, hK, hA, hE, htr, hex, hret⟩ := F
  exact fun o ho H locs ls hl hP hD hS => lv_irem hx hb hd hne (by have h := k o ho H locs ls hl hP hD hS; rw [← irem_eq_mod] at h; exact h)

theorem zz_ineg (F : zFr X cc nL own ret) {x : Int32} (hd : decode cc pc = .ok (.ineg, 1)) (k : zZ X Rg fr lo nL (pc + 1) L (zi (-x) :: st) Ms φ) : zZ X Rg fr lo nL pc L (zi x :: st) Ms φ := by
  obtain ⟨p, l, e, s, m, args, below, meth, c, D, cA, ad, A⟩ := X
  obtain ⟨hx, hb, hml, hown, hts, hlk, hK, hA, hE, htr, hex, hret⟩ := F
  exact fun o ho H locs ls hl hP hD hS => lv_ineg hx hb hd (k o ho H locs ls hl hP hD hS)

theorem zz_i2l (F : zFr X cc nL own ret) {x : Int32} (hd : decode cc pc = .ok (.i2l, 1)) (k : zZ X Rg fr lo nL (pc + 1) L (zl x.toInt64 :: st) Ms φ) : zZ X Rg fr lo nL pc L (zi x :: st) Ms φ := by
  obtain ⟨p, l, e, s, m, args, below, meth, c, D, cA, ad, A⟩ := X
  obtain ⟨hx, hb, hml, hown, hts, hlk, hK, hA, hE, htr, hex, hret⟩ := F
  exact fun o ho H locs ls hl hP hD hS => lv_i2l hx hb hd rfl (k o ho H locs ls hl hP hD hS)

theorem zz_lcmp (F : zFr X cc nL own ret) {x y : Int64} (hd : decode cc pc = .ok (.lcmp, 1)) (k : zZ X Rg fr lo nL (pc + 1) L (zi (lg_cmp x y) :: st) Ms φ) : zZ X Rg fr lo nL pc L (zl y :: zl x :: st) Ms φ := by
  obtain ⟨p, l, e, s, m, args, below, meth, c, D, cA, ad, A⟩ := X
  obtain ⟨hx, hb, hml, hown, hts, hlk, hK, hA, hE, htr, hex, hret⟩ := F
  exact fun o ho H locs ls hl hP hD hS => W.lcmp hx hb hd (k o ho H locs ls hl hP hD hS)

theorem zz_iconst (F : zFr X cc nL own ret) {n : Int} {v : Int32} (hd : decode cc pc = .ok (.iconst n, 1)) (hv : Int32.ofInt n = v) (k : zZ X Rg fr lo nL (pc + 1) L (zi v :: st) Ms φ) : zZ X Rg fr lo nL pc L st Ms φ := by
  obtain ⟨p, l, e, s, m, args, below, meth, c, D, cA, ad, A⟩ := X
  obtain ⟨hx, hb, hml, hown, hts, hlk, hK, hA, hE, htr, hex, hret⟩ := F
  exact fun o ho H locs ls hl hP hD hS => lv_iconst hx hb hd hv (k o ho H locs ls hl hP hD hS)

theorem zz_bipush (F : zFr X cc nL own ret) {n : Int} {v : Int32} (hd : decode cc pc = .ok (.bipush n, 2)) (hv : (Int8.ofInt n).toInt32 = v) (k : zZ X Rg fr lo nL (pc + 2) L (zi v :: st) Ms φ) : zZ X Rg fr lo nL pc L st Ms φ := by
  obtain ⟨p, l, e, s, m, args, below, meth, c, D, cA, ad, A⟩ := X
  obtain ⟨hx, hb, hml, hown, hts, hlk, hK, hA, hE, htr, hex, hret⟩ := F
  exact fun o ho H locs ls hl hP hD hS => lv_bipush hx hb hd hv (k o ho H locs ls hl hP hD hS)

theorem zz_sipush (F : zFr X cc nL own ret) {n : Int} {v : Int32} (hd : decode cc pc = .ok (.sipush n, 3)) (hv : (Int16.ofInt n).toInt32 = v) (k : zZ X Rg fr lo nL (pc + 3) L (zi v :: st) Ms φ) : zZ X Rg fr lo nL pc L st Ms φ := by
  obtain ⟨p, l, e, s, m, args, below, meth, c, D, cA, ad, A⟩ := X
  obtain ⟨hx, hb, hml, hown, hts, hlk, hK, hA, hE, htr, hex, hret⟩ := F
  exact fun o ho H locs ls hl hP hD hS => lv_sipush hx hb hd hv (k o ho H locs ls hl hP hD hS)

theorem zz_lconst (F : zFr X cc nL own ret) {n : Fin 2} {v : Int64} (hd : decode cc pc = .ok (.lconst n, 1)) (hv : Int64.ofNat (n : Nat) = v) (k : zZ X Rg fr lo nL (pc + 1) L (zl v :: st) Ms φ) : zZ X Rg fr lo nL pc L st Ms φ := by
  obtain ⟨p, l, e, s, m, args, below, meth, c, D, cA, ad, A⟩ := X
  obtain ⟨hx, hb, hml, hown, hts, hlk, hK, hA, hE, htr, hex, hret⟩ := F
  exact fun o ho H locs ls hl hP hD hS => lv_lconst hx hb hd hv (k o ho H locs ls hl hP hD hS)

theorem zz_ldc2 (F : zFr X cc nL own ret) {idx : Nat} {v : Int64} (hd : decode cc pc = .ok (.ldc2_w idx, 3)) (hw : Cond.constantLong own idx v ∈ zTg) (k : zZ X Rg fr lo nL (pc + 3) L (zl v :: st) Ms φ) : zZ X Rg fr lo nL pc L st Ms φ := by
  obtain ⟨p, l, e, s, m, args, below, meth, c, D, cA, ad, A⟩ := X
  obtain ⟨hx, hb, hml, hown, hts, hlk, hK, hA, hE, htr, hex, hret⟩ := F
  exact fun o ho H locs ls hl hP hD hS => lv_ldc2 hx hb hown (hts _ hw) hd (k o ho H locs ls hl hP hD hS)

theorem zz_dup (F : zFr X cc nL own ret) {u : zV} (hd : decode cc pc = .ok (.dup, 1)) (uc : zcat u = 1) (k : zZ X Rg fr lo nL (pc + 1) L (u :: u :: st) Ms φ) : zZ X Rg fr lo nL pc L (u :: st) Ms φ := by
  obtain ⟨p, l, e, s, m, args, below, meth, c, D, cA, ad, A⟩ := X
  obtain ⟨hx, hb, hml, hown, hts, hlk, hK, hA, hE, htr, hex, hret⟩ := F
  exact fun o ho H locs ls hl hP hD hS => lv_dup hx hb hd ((zcat_t ad u).trans uc) (k o ho H locs ls hl hP hD hS)

theorem zz_pop (F : zFr X cc nL own ret) {u : zV} (hd : decode cc pc = .ok (.pop, 1)) (uc : zcat u = 1) (k : zZ X Rg fr lo nL (pc + 1) L st Ms φ) : zZ X Rg fr lo nL pc L (u :: st) Ms φ := by
  obtain ⟨p, l, e, s, m, args, below, meth, c, D, cA, ad, A⟩ := X
  obtain ⟨hx, hb, hml, hown, hts, hlk, hK, hA, hE, htr, hex, hret⟩ := F
  exact fun o ho H locs ls hl hP hD hS => lv_pop hx hb hd ((zcat_t ad u).trans uc) (k o ho H locs ls hl hP hD hS)

theorem zz_dup2 (F : zFr X cc nL own ret) {u v : zV} (hd : decode cc pc = .ok (.dup2, 1)) (uc : zcat u = 1) (vc : zcat v = 1) (k : zZ X Rg fr lo nL (pc + 1) L (u :: v :: u :: v :: st) Ms φ) : zZ X Rg fr lo nL pc L (u :: v :: st) Ms φ := by
  obtain ⟨p, l, e, s, m, args, below, meth, c, D, cA, ad, A⟩ := X
  obtain ⟨hx, hb, hml, hown, hts, hlk, hK, hA, hE, htr, hex, hret⟩ := F
  exact fun o ho H locs ls hl hP hD hS => lv_dup2_11 hx hb hd ((zcat_t ad u).trans uc) ((zcat_t ad v).trans vc) (k o ho H locs ls hl hP hD hS)

theorem zz_dup_x1 (F : zFr X cc nL own ret) {u v : zV} (hd : decode cc pc = .ok (.dup_x1, 1)) (uc : zcat u = 1) (vc : zcat v = 1) (k : zZ X Rg fr lo nL (pc + 1) L (u :: v :: u :: st) Ms φ) : zZ X Rg fr lo nL pc L (u :: v :: st) Ms φ := by
  obtain ⟨p, l, e, s, m, args, below, meth, c, D, cA, ad, A⟩ := X
  obtain ⟨hx, hb, hml, hown, hts, hlk, hK, hA, hE, htr, hex, hret⟩ := F
  exact fun o ho H locs ls hl hP hD hS => lv_dup_x1 hx hb hd ((zcat_t ad u).trans uc) ((zcat_t ad v).trans vc) (k o ho H locs ls hl hP hD hS)

theorem zz_goto (F : zFr X cc nL own ret) {off : Int} {tgt : Nat} (hd : decode cc pc = .ok (.goto off, 3)) (ht : (pc : Int) + off = (tgt : Int)) (k : zZ X Rg fr lo nL tgt L st Ms φ) : zZ X Rg fr lo nL pc L st Ms φ := by
  obtain ⟨p, l, e, s, m, args, below, meth, c, D, cA, ad, A⟩ := X
  obtain ⟨hx, hb, hml, hown, hts, hlk, hK, hA, hE, htr, hex, hret⟩ := F
  exact fun o ho H locs ls hl hP hD hS => lv_goto hx hb hd ht (k o ho H locs ls hl hP hD hS)

theorem zz_iload_n (F : zFr X cc nL own ret) {j : Fin 4} {i : Nat} {x : Int32} (hd : decode cc pc = .ok (.iload_n j, 1)) (hi : (j : Nat) = i) (hL : L[i]? = some (some (zi x))) (k : zZ X Rg fr lo nL (pc + 1) L (zi x :: st) Ms φ) : zZ X Rg fr lo nL pc L st Ms φ := by
  obtain ⟨p, l, e, s, m, args, below, meth, c, D, cA, ad, A⟩ := X
  obtain ⟨hx, hb, hml, hown, hts, hlk, hK, hA, hE, htr, hex, hret⟩ := F
  exact fun o ho H locs ls hl hP hD hS => lv_iload_n hx hb hd hi (hl.2.2 _ _ hL) (k o ho H locs ls hl hP hD hS)

theorem zz_iload (F : zFr X cc nL own ret) {i : Nat} {x : Int32} (hd : decode cc pc = .ok (.iload i, 2)) (hL : L[i]? = some (some (zi x))) (k : zZ X Rg fr lo nL (pc + 2) L (zi x :: st) Ms φ) : zZ X Rg fr lo nL pc L st Ms φ := by
  obtain ⟨p, l, e, s, m, args, below, meth, c, D, cA, ad, A⟩ := X
  obtain ⟨hx, hb, hml, hown, hts, hlk, hK, hA, hE, htr, hex, hret⟩ := F
  exact fun o ho H locs ls hl hP hD hS => lv_iload hx hb hd (hl.2.2 _ _ hL) (k o ho H locs ls hl hP hD hS)

theorem zz_aload_n (F : zFr X cc nL own ret) {j : Fin 4} {i : Nat} {r q q2 : Nat} (hd : decode cc pc = .ok (.aload_n j, 1)) (hi : (j : Nat) = i) (hL : L[i]? = some (some (zr r q q2))) (k : zZ X Rg fr lo nL (pc + 1) L (zr r q q2 :: st) Ms φ) : zZ X Rg fr lo nL pc L st Ms φ := by
  obtain ⟨p, l, e, s, m, args, below, meth, c, D, cA, ad, A⟩ := X
  obtain ⟨hx, hb, hml, hown, hts, hlk, hK, hA, hE, htr, hex, hret⟩ := F
  exact fun o ho H locs ls hl hP hD hS => lv_aload_n hx hb hd hi (hl.2.2 _ _ hL) (k o ho H locs ls hl hP hD hS)

theorem zz_aload (F : zFr X cc nL own ret) {i : Nat} {r q q2 : Nat} (hd : decode cc pc = .ok (.aload i, 2)) (hL : L[i]? = some (some (zr r q q2))) (k : zZ X Rg fr lo nL (pc + 2) L (zr r q q2 :: st) Ms φ) : zZ X Rg fr lo nL pc L st Ms φ := by
  obtain ⟨p, l, e, s, m, args, below, meth, c, D, cA, ad, A⟩ := X
  obtain ⟨hx, hb, hml, hown, hts, hlk, hK, hA, hE, htr, hex, hret⟩ := F
  exact fun o ho H locs ls hl hP hD hS => lv_aload hx hb hd (hl.2.2 _ _ hL) (k o ho H locs ls hl hP hD hS)

theorem zz_lload_n (F : zFr X cc nL own ret) {j : Fin 4} {i : Nat} {x : Int64} (hd : decode cc pc = .ok (.lload_n j, 1)) (hi : (j : Nat) = i) (hL : L[i]? = some (some (zl x))) (k : zZ X Rg fr lo nL (pc + 1) L (zl x :: st) Ms φ) : zZ X Rg fr lo nL pc L st Ms φ := by
  obtain ⟨p, l, e, s, m, args, below, meth, c, D, cA, ad, A⟩ := X
  obtain ⟨hx, hb, hml, hown, hts, hlk, hK, hA, hE, htr, hex, hret⟩ := F
  exact fun o ho H locs ls hl hP hD hS => lv_lload_n hx hb hd hi (hl.2.2 _ _ hL) (k o ho H locs ls hl hP hD hS)

theorem zz_lload (F : zFr X cc nL own ret) {i : Nat} {x : Int64} (hd : decode cc pc = .ok (.lload i, 2)) (hL : L[i]? = some (some (zl x))) (k : zZ X Rg fr lo nL (pc + 2) L (zl x :: st) Ms φ) : zZ X Rg fr lo nL pc L st Ms φ := by
  obtain ⟨p, l, e, s, m, args, below, meth, c, D, cA, ad, A⟩ := X
  obtain ⟨hx, hb, hml, hown, hts, hlk, hK, hA, hE, htr, hex, hret⟩ := F
  exact fun o ho H locs ls hl hP hD hS => lv_lload hx hb hd (hl.2.2 _ _ hL) (k o ho H locs ls hl hP hD hS)

theorem zz_istore_n (F : zFr X cc nL own ret) {j : Fin 4} {i : Nat} {x : Int32} (hd : decode cc pc = .ok (.istore_n j, 1)) (hi : (j : Nat) = i) (hn : i < nL) (hsf : zsafe L i = true) (hL : L.set i (some (zi x)) = L') (k : zZ X Rg fr lo nL (pc + 1) L' st Ms φ) : zZ X Rg fr lo nL pc L (zi x :: st) Ms φ := by
  obtain ⟨p, l, e, s, m, args, below, meth, c, D, cA, ad, A⟩ := X
  obtain ⟨hx, hb, hml, hown, hts, hlk, hK, hA, hE, htr, hex, hret⟩ := F
  subst hL
  exact fun o ho H locs ls hl hP hD hS => lv_istore_n hx hb hd hi (zlv_has hl) hn rfl fun ls' h' => k o ho H locs ls' (zlv_set (v := zi x) hsf rfl h') hP hD hS

theorem zz_istore (F : zFr X cc nL own ret) {i : Nat} {x : Int32} (hd : decode cc pc = .ok (.istore i, 2)) (hn : i < nL) (hsf : zsafe L i = true) (hL : L.set i (some (zi x)) = L') (k : zZ X Rg fr lo nL (pc + 2) L' st Ms φ) : zZ X Rg fr lo nL pc L (zi x :: st) Ms φ := by
  obtain ⟨p, l, e, s, m, args, below, meth, c, D, cA, ad, A⟩ := X
  obtain ⟨hx, hb, hml, hown, hts, hlk, hK, hA, hE, htr, hex, hret⟩ := F
  subst hL
  exact fun o ho H locs ls hl hP hD hS => lv_istore hx hb hd (zlv_has hl) hn rfl fun ls' h' => k o ho H locs ls' (zlv_set (v := zi x) hsf rfl h') hP hD hS

theorem zz_astore_n (F : zFr X cc nL own ret) {j : Fin 4} {i : Nat} {r q q2 : Nat} (hd : decode cc pc = .ok (.astore_n j, 1)) (hi : (j : Nat) = i) (hn : i < nL) (hsf : zsafe L i = true) (hL : L.set i (some (zr r q q2)) = L') (k : zZ X Rg fr lo nL (pc + 1) L' st Ms φ) : zZ X Rg fr lo nL pc L (zr r q q2 :: st) Ms φ := by
  obtain ⟨p, l, e, s, m, args, below, meth, c, D, cA, ad, A⟩ := X
  obtain ⟨hx, hb, hml, hown, hts, hlk, hK, hA, hE, htr, hex, hret⟩ := F
  subst hL
  exact fun o ho H locs ls hl hP hD hS => lv_astore_n hx hb hd hi (zlv_has hl) hn rfl fun ls' h' => k o ho H locs ls' (zlv_set (v := zr r q q2) hsf rfl h') hP hD hS

theorem zz_astore (F : zFr X cc nL own ret) {i : Nat} {r q q2 : Nat} (hd : decode cc pc = .ok (.astore i, 2)) (hn : i < nL) (hsf : zsafe L i = true) (hL : L.set i (some (zr r q q2)) = L') (k : zZ X Rg fr lo nL (pc + 2) L' st Ms φ) : zZ X Rg fr lo nL pc L (zr r q q2 :: st) Ms φ := by
  obtain ⟨p, l, e, s, m, args, below, meth, c, D, cA, ad, A⟩ := X
  obtain ⟨hx, hb, hml, hown, hts, hlk, hK, hA, hE, htr, hex, hret⟩ := F
  subst hL
  exact fun o ho H locs ls hl hP hD hS => lv_astore hx hb hd (zlv_has hl) hn rfl fun ls' h' => k o ho H locs ls' (zlv_set (v := zr r q q2) hsf rfl h') hP hD hS

theorem zz_lstore_n (F : zFr X cc nL own ret) {j : Fin 4} {i : Nat} {x : Int64} (hd : decode cc pc = .ok (.lstore_n j, 1)) (hi : (j : Nat) = i) (hn : i + 1 < nL) (hsf : zsafe L i = true) (hL : (L.set i (some (zl x))).set (i + 1) none = L') (k : zZ X Rg fr lo nL (pc + 1) L' st Ms φ) : zZ X Rg fr lo nL pc L (zl x :: st) Ms φ := by
  obtain ⟨p, l, e, s, m, args, below, meth, c, D, cA, ad, A⟩ := X
  obtain ⟨hx, hb, hml, hown, hts, hlk, hK, hA, hE, htr, hex, hret⟩ := F
  subst hL
  exact fun o ho H locs ls hl hP hD hS => lv_lstore_n hx hb hd hi (zlv_has hl) hn rfl fun ls' h' => k o ho H locs ls' (zlv_setl hsf h') hP hD hS

theorem zz_lstore (F : zFr X cc nL own ret) {i : Nat} {x : Int64} (hd : decode cc pc = .ok (.lstore i, 2)) (hn : i + 1 < nL) (hsf : zsafe L i = true) (hL : (L.set i (some (zl x))).set (i + 1) none = L') (k : zZ X Rg fr lo nL (pc + 2) L' st Ms φ) : zZ X Rg fr lo nL pc L (zl x :: st) Ms φ := by
  obtain ⟨p, l, e, s, m, args, below, meth, c, D, cA, ad, A⟩ := X
  obtain ⟨hx, hb, hml, hown, hts, hlk, hK, hA, hE, htr, hex, hret⟩ := F
  subst hL
  exact fun o ho H locs ls hl hP hD hS => lv_lstore hx hb hd (zlv_has hl) hn rfl fun ls' h' => k o ho H locs ls' (zlv_setl hsf h') hP hD hS

theorem zz_iinc (F : zFr X cc nL own ret) {i : Nat} {n : Int} {x v : Int32} (hd : decode cc pc = .ok (.iinc i n, 3)) (hx0 : L[i]? = some (some (zi x))) (hv : x + Int32.ofInt n = v) (hn : i < nL) (hsf : zsafe L i = true) (hL : L.set i (some (zi v)) = L') (k : zZ X Rg fr lo nL (pc + 3) L' st Ms φ) : zZ X Rg fr lo nL pc L st Ms φ := by
  obtain ⟨p, l, e, s, m, args, below, meth, c, D, cA, ad, A⟩ := X
  obtain ⟨hx, hb, hml, hown, hts, hlk, hK, hA, hE, htr, hex, hret⟩ := F
  subst hL
  intro o ho H locs ls hl hP hD hS
  obtain ⟨j, hj⟩ := List.getElem?_of_mem (zll_mem (ad := ad) hx0)
  exact lv_iinc hx hb hd (zlv_has hl) hj hv hn rfl fun ls' h' => k o ho H locs ls' (zlv_set (v := zi v) hsf rfl h') hP hD hS

theorem zz_icmp_eq (F : zFr X cc nL own ret) {x y : Int32} {off : Int} {tgt : Nat} (hd : decode cc pc = .ok (.if_icmp .eq off, 3)) (ht : (pc : Int) + off = (tgt : Int)) (kt : x = y → zZ X Rg fr lo nL tgt L st Ms φ) (kf : ¬ (x = y) → zZ X Rg fr lo nL (pc + 3) L st Ms φ) : zZ X Rg fr lo nL pc L (zi y :: zi x :: st) Ms φ := by
  obtain ⟨p, l, e, s, m, args, below, meth, c, D, cA, ad, A⟩ := X
  obtain ⟨hx, hb, hml, hown, hts, hlk, hK, hA, hE, htr, hex, hret⟩ := F
  exact fun o ho H locs ls hl hP hD hS => lv_icmp_eq hx hb hd ht (fun h => kt h o ho H locs ls hl hP hD hS) (fun h => kf h o ho H locs ls hl hP hD hS)

theorem zz_if_eq (F : zFr X cc nL own ret) {x : Int32} {off : Int} {tgt : Nat} (hd : decode cc pc = .ok (.ifCond .eq off, 3)) (ht : (pc : Int) + off = (tgt : Int)) (kt : x = 0 → zZ X Rg fr lo nL tgt L st Ms φ) (kf : ¬ (x = 0) → zZ X Rg fr lo nL (pc + 3) L st Ms φ) : zZ X Rg fr lo nL pc L (zi x :: st) Ms φ := by
  obtain ⟨p, l, e, s, m, args, below, meth, c, D, cA, ad, A⟩ := X
  obtain ⟨hx, hb, hml, hown, hts, hlk, hK, hA, hE, htr, hex, hret⟩ := F
  exact fun o ho H locs ls hl hP hD hS => lv_if_eq hx hb hd ht (fun h => kt h o ho H locs ls hl hP hD hS) (fun h => kf h o ho H locs ls hl hP hD hS)

theorem zz_icmp_ne (F : zFr X cc nL own ret) {x y : Int32} {off : Int} {tgt : Nat} (hd : decode cc pc = .ok (.if_icmp .ne off, 3)) (ht : (pc : Int) + off = (tgt : Int)) (kt : ¬ x = y → zZ X Rg fr lo nL tgt L st Ms φ) (kf : x = y → zZ X Rg fr lo nL (pc + 3) L st Ms φ) : zZ X Rg fr lo nL pc L (zi y :: zi x :: st) Ms φ := by
  obtain ⟨p, l, e, s, m, args, below, meth, c, D, cA, ad, A⟩ := X
  obtain ⟨hx, hb, hml, hown, hts, hlk, hK, hA, hE, htr, hex, hret⟩ := F
  exact fun o ho H locs ls hl hP hD hS => lv_icmp_ne hx hb hd ht (fun h => kt h o ho H locs ls hl hP hD hS) (fun h => kf h o ho H locs ls hl hP hD hS)

theorem zz_if_ne (F : zFr X cc nL own ret) {x : Int32} {off : Int} {tgt : Nat} (hd : decode cc pc = .ok (.ifCond .ne off, 3)) (ht : (pc : Int) + off = (tgt : Int)) (kt : ¬ x = 0 → zZ X Rg fr lo nL tgt L st Ms φ) (kf : x = 0 → zZ X Rg fr lo nL (pc + 3) L st Ms φ) : zZ X Rg fr lo nL pc L (zi x :: st) Ms φ := by
  obtain ⟨p, l, e, s, m, args, below, meth, c, D, cA, ad, A⟩ := X
  obtain ⟨hx, hb, hml, hown, hts, hlk, hK, hA, hE, htr, hex, hret⟩ := F
  exact fun o ho H locs ls hl hP hD hS => lv_if_ne hx hb hd ht (fun h => kt h o ho H locs ls hl hP hD hS) (fun h => kf h o ho H locs ls hl hP hD hS)

theorem zz_icmp_lt (F : zFr X cc nL own ret) {x y : Int32} {off : Int} {tgt : Nat} (hd : decode cc pc = .ok (.if_icmp .lt off, 3)) (ht : (pc : Int) + off = (tgt : Int)) (kt : x < y → zZ X Rg fr lo nL tgt L st Ms φ) (kf : ¬ (x < y) → zZ X Rg fr lo nL (pc + 3) L st Ms φ) : zZ X Rg fr lo nL pc L (zi y :: zi x :: st) Ms φ := by
  obtain ⟨p, l, e, s, m, args, below, meth, c, D, cA, ad, A⟩ := X
  obtain ⟨hx, hb, hml, hown, hts, hlk, hK, hA, hE, htr, hex, hret⟩ := F
  exact fun o ho H locs ls hl hP hD hS => lv_icmp_lt hx hb hd ht (fun h => kt h o ho H locs ls hl hP hD hS) (fun h => kf h o ho H locs ls hl hP hD hS)

theorem zz_if_lt (F : zFr X cc nL own ret) {x : Int32} {off : Int} {tgt : Nat} (hd : decode cc pc = .ok (.ifCond .lt off, 3)) (ht : (pc : Int) + off = (tgt : Int)) (kt : x < 0 → zZ X Rg fr lo nL tgt L st Ms φ) (kf : ¬ (x < 0) → zZ X Rg fr lo nL (pc + 3) L st Ms φ) : zZ X Rg fr lo nL pc L (zi x :: st) Ms φ := by
  obtain ⟨p, l, e, s, m, args, below, meth, c, D, cA, ad, A⟩ := X
  obtain ⟨hx, hb, hml, hown, hts, hlk, hK, hA, hE, htr, hex, hret⟩ := F
  exact fun o ho H locs ls hl hP hD hS => lv_if_lt hx hb hd ht (fun h => kt h o ho H locs ls hl hP hD hS) (fun h => kf h o ho H locs ls hl hP hD hS)

theorem zz_icmp_ge (F : zFr X cc nL own ret) {x y : Int32} {off : Int} {tgt : Nat} (hd : decode cc pc = .ok (.if_icmp .ge off, 3)) (ht : (pc : Int) + off = (tgt : Int)) (kt : y ≤ x → zZ X Rg fr lo nL tgt L st Ms φ) (kf : ¬ (y ≤ x) → zZ X Rg fr lo nL (pc + 3) L st Ms φ) : zZ X Rg fr lo nL pc L (zi y :: zi x :: st) Ms φ := by
  obtain ⟨p, l, e, s, m, args, below, meth, c, D, cA, ad, A⟩ := X
  obtain ⟨hx, hb, hml, hown, hts, hlk, hK, hA, hE, htr, hex, hret⟩ := F
  exact fun o ho H locs ls hl hP hD hS => lv_icmp_ge hx hb hd ht (fun h => kt h o ho H locs ls hl hP hD hS) (fun h => kf h o ho H locs ls hl hP hD hS)

theorem zz_if_ge (F : zFr X cc nL own ret) {x : Int32} {off : Int} {tgt : Nat} (hd : decode cc pc = .ok (.ifCond .ge off, 3)) (ht : (pc : Int) + off = (tgt : Int)) (kt : 0 ≤ x → zZ X Rg fr lo nL tgt L st Ms φ) (kf : ¬ (0 ≤ x) → zZ X Rg fr lo nL (pc + 3) L st Ms φ) : zZ X Rg fr lo nL pc L (zi x :: st) Ms φ := by
  obtain ⟨p, l, e, s, m, args, below, meth, c, D, cA, ad, A⟩ := X
  obtain ⟨hx, hb, hml, hown, hts, hlk, hK, hA, hE, htr, hex, hret⟩ := F
  exact fun o ho H locs ls hl hP hD hS => lv_if_ge hx hb hd ht (fun h => kt h o ho H locs ls hl hP hD hS) (fun h => kf h o ho H locs ls hl hP hD hS)

theorem zz_icmp_gt (F : zFr X cc nL own ret) {x y : Int32} {off : Int} {tgt : Nat} (hd : decode cc pc = .ok (.if_icmp .gt off, 3)) (ht : (pc : Int) + off = (tgt : Int)) (kt : y < x → zZ X Rg fr lo nL tgt L st Ms φ) (kf : ¬ (y < x) → zZ X Rg fr lo nL (pc + 3) L st Ms φ) : zZ X Rg fr lo nL pc L (zi y :: zi x :: st) Ms φ := by
  obtain ⟨p, l, e, s, m, args, below, meth, c, D, cA, ad, A⟩ := X
  obtain ⟨hx, hb, hml, hown, hts, hlk, hK, hA, hE, htr, hex, hret⟩ := F
  exact fun o ho H locs ls hl hP hD hS => lv_icmp_gt hx hb hd ht (fun h => kt h o ho H locs ls hl hP hD hS) (fun h => kf h o ho H locs ls hl hP hD hS)

theorem zz_if_gt (F : zFr X cc nL own ret) {x : Int32} {off : Int} {tgt : Nat} (hd : decode cc pc = .ok (.ifCond .gt off, 3)) (ht : (pc : Int) + off = (tgt : Int)) (kt : 0 < x → zZ X Rg fr lo nL tgt L st Ms φ) (kf : ¬ (0 < x) → zZ X Rg fr lo nL (pc + 3) L st Ms φ) : zZ X Rg fr lo nL pc L (zi x :: st) Ms φ := by
  obtain ⟨p, l, e, s, m, args, below, meth, c, D, cA, ad, A⟩ := X
  obtain ⟨hx, hb, hml, hown, hts, hlk, hK, hA, hE, htr, hex, hret⟩ := F
  exact fun o ho H locs ls hl hP hD hS => lv_if_gt hx hb hd ht (fun h => kt h o ho H locs ls hl hP hD hS) (fun h => kf h o ho H locs ls hl hP hD hS)

theorem zz_icmp_le (F : zFr X cc nL own ret) {x y : Int32} {off : Int} {tgt : Nat} (hd : decode cc pc = .ok (.if_icmp .le off, 3)) (ht : (pc : Int) + off = (tgt : Int)) (kt : x ≤ y → zZ X Rg fr lo nL tgt L st Ms φ) (kf : ¬ (x ≤ y) → zZ X Rg fr lo nL (pc + 3) L st Ms φ) : zZ X Rg fr lo nL pc L (zi y :: zi x :: st) Ms φ := by
  obtain ⟨p, l, e, s, m, args, below, meth, c, D, cA, ad, A⟩ := X
  obtain ⟨hx, hb, hml, hown, hts, hlk, hK, hA, hE, htr, hex, hret⟩ := F
  exact fun o ho H locs ls hl hP hD hS => lv_icmp_le hx hb hd ht (fun h => kt h o ho H locs ls hl hP hD hS) (fun h => kf h o ho H locs ls hl hP hD hS)

theorem zz_if_le (F : zFr X cc nL own ret) {x : Int32} {off : Int} {tgt : Nat} (hd : decode cc pc = .ok (.ifCond .le off, 3)) (ht : (pc : Int) + off = (tgt : Int)) (kt : x ≤ 0 → zZ X Rg fr lo nL tgt L st Ms φ) (kf : ¬ (x ≤ 0) → zZ X Rg fr lo nL (pc + 3) L st Ms φ) : zZ X Rg fr lo nL pc L (zi x :: st) Ms φ := by
  obtain ⟨p, l, e, s, m, args, below, meth, c, D, cA, ad, A⟩ := X
  obtain ⟨hx, hb, hml, hown, hts, hlk, hK, hA, hE, htr, hex, hret⟩ := F
  exact fun o ho H locs ls hl hP hD hS => lv_if_le hx hb hd ht (fun h => kt h o ho H locs ls hl hP hD hS) (fun h => kf h o ho H locs ls hl hP hD hS)

theorem zz_tableOut (F : zFr X cc nL own ret) {dflt lw hi : Int} {offs : Array Int} {len tgt : Nat} {x : Int32} (hd : decode cc pc = .ok (.tableswitch dflt lw hi offs, len)) (h : x.toInt < lw ∨ hi < x.toInt) (ht : (pc : Int) + dflt = (tgt : Int)) (k : zZ X Rg fr lo nL tgt L st Ms φ) : zZ X Rg fr lo nL pc L (zi x :: st) Ms φ := by
  obtain ⟨p, l, e, s, m, args, below, meth, c, D, cA, ad, A⟩ := X
  obtain ⟨hx, hb, hml, hown, hts, hlk, hK, hA, hE, htr, hex, hret⟩ := F
  exact fun o ho H locs ls hl hP hD hS => lv_tableOut hx hb hd h ht (k o ho H locs ls hl hP hD hS)
theorem zz_tableIn (F : zFr X cc nL own ret) {dflt lw hi off : Int} {offs : Array Int} {len tgt : Nat} {x : Int32} (hd : decode cc pc = .ok (.tableswitch dflt lw hi offs, len)) (h1 : ¬ x.toInt < lw) (h2 : ¬ hi < x.toInt) (ho : offs[(x.toInt - lw).toNat]? = some off) (ht : (pc : Int) + off = (tgt : Int)) (k : zZ X Rg fr lo nL tgt L st Ms φ) : zZ X Rg fr lo nL pc L (zi x :: st) Ms φ := by
  obtain ⟨p, l, e, s, m, args, below, meth, c, D, cA, ad, A⟩ := X
  obtain ⟨hx, hb, hml, hown, hts, hlk, hK, hA, hE, htr, hex, hret⟩ := F
  exact fun o ho' H locs ls hl hP hD hS => lv_tableIn hx hb hd h1 h2 ho ht (k o ho' H locs ls hl hP hD hS)

theorem zz_ireturn (F : zFr X cc nL own ret) {x : Int32} (hd : decode cc pc = .ok (.ireturn, 1)) (hr : ret = some .int) (hφ : φ = some (.inl (some (zi x)), Ms)) : zZ X Rg fr lo nL pc L [zi x] Ms φ := by
  obtain ⟨p, l, e, s, m, args, below, meth, c, D, cA, ad, A⟩ := X
  obtain ⟨hx, hb, hml, hown, hts, hlk, hK, hA, hE, htr, hex, hret⟩ := F
  intro o ho H locs ls hl hP hD hS
  rw [hφ] at ho
  cases ho
  exact W.iret hx hb (hret.trans hr) (fun t ht hW => ⟨rfl, by rw [ht]; exact hP, hS.F ht⟩) hS.2.2 hd hlk
theorem zz_zreturn (F : zFr X cc nL own ret) {x : Int32} (hd : decode cc pc = .ok (.ireturn, 1)) (hr : ret = some .boolean) (hn : narrow .boolean (.int x) = .int x) (hφ : φ = some (.inl (some (zi x)), Ms)) : zZ X Rg fr lo nL pc L [zi x] Ms φ := by
  obtain ⟨p, l, e, s, m, args, below, meth, c, D, cA, ad, A⟩ := X
  obtain ⟨hx, hb, hml, hown, hts, hlk, hK, hA, hE, htr, hex, hret⟩ := F
  intro o ho H locs ls hl hP hD hS
  rw [hφ] at ho
  cases ho
  exact W.zret hx hb (hret.trans hr) hn (fun t ht hW => ⟨rfl, by rw [ht]; exact hP, hS.F ht⟩) hS.2.2 hd hlk
theorem zz_lreturn (F : zFr X cc nL own ret) {x : Int64} (hd : decode cc pc = .ok (.lreturn, 1)) (hr : ret = some .long) (hφ : φ = some (.inl (some (zl x)), Ms)) : zZ X Rg fr lo nL pc L [zl x] Ms φ := by
  obtain ⟨p, l, e, s, m, args, below, meth, c, D, cA, ad, A⟩ := X
  obtain ⟨hx, hb, hml, hown, hts, hlk, hK, hA, hE, htr, hex, hret⟩ := F
  intro o ho H locs ls hl hP hD hS
  rw [hφ] at ho
  cases ho
  exact W.lret hx hb (hret.trans hr) (fun t ht hW => ⟨rfl, by rw [ht]; exact hP, hS.F ht⟩) hS.2.2 hd hlk
theorem zz_return (F : zFr X cc nL own ret) (hd : decode cc pc = .ok (.return_, 1)) (hr : ret = none) (hφ : φ = some (.inl none, Ms)) : zZ X Rg fr lo nL pc L [] Ms φ := by
  obtain ⟨p, l, e, s, m, args, below, meth, c, D, cA, ad, A⟩ := X
  obtain ⟨hx, hb, hml, hown, hts, hlk, hK, hA, hE, htr, hex, hret⟩ := F
  intro o ho H locs ls hl hP hD hS
  rw [hφ] at ho
  cases ho
  exact W.vret hx hb (hret.trans hr) (fun t ht hW => ⟨rfl, by rw [ht]; exact hP, hS.F ht⟩) hS.2.2 hd hlk

end ZZ
end
section
/-! ===== rows of the heap ===== -/
/-- the field that entry idx of the class own names: slot o of the class of number ci -/
def zFl (own : String) (idx ci o : Nat) : Prop := ∃ q : vw_C, zcl[ci]? = some q ∧ o < q.2.2 ∧ Cond.fieldLink own idx (q.2.1 o).1 (q.2.1 o).2.1 (q.2.1 o).2.2.1 ∈ zTg
def zFw (own : String) (idx ci o : Nat) (ty : FieldType) : Prop := ∃ q : vw_C, zcl[ci]? = some q ∧ o < q.2.2 ∧ Cond.fieldLink own idx (q.2.1 o).1 (q.2.1 o).2.1 (q.2.1 o).2.2.1 ∈ zTg ∧ (q.2.1 o).2.2.2 = false ∧ parseFieldDescriptor (q.2.1 o).2.2.1 = some ty
/-- of every class: its layout's words, its fields' types and names -/
def zCl (ci : Nat) : Prop := ∀ q : vw_C, zcl[ci]? = some q → (∀ w ∈ u_ws q.1 q.2.1 q.2.2, w ∈ zTg) ∧ (∃ ty0 : Nat → FieldType, ∀ k, k < q.2.2 → parseFieldDescriptor (q.2.1 k).2.2.1 = some (ty0 k)) ∧ ∀ a, a < q.2.2 → ∀ b, b < q.2.2 → a ≠ b → (q.2.1 a).2.1 ≠ (q.2.1 b).2.1
theorem zm_f {w : Cond} (i : Nat) (h : lw_tbl[i]? = some w) (hg : goodWord w = true) : w ∈ zTg := List.mem_filter.mpr ⟨List.mem_of_getElem? h, hg⟩
theorem zm_all {ws : List Cond} (h : ∀ w ∈ ws, w ∈ lw_tbl) (hg : ws.all goodWord = true) : ∀ w ∈ ws, w ∈ zTg := fun w hw => List.mem_filter.mpr ⟨h w hw, List.all_eq_true.mp hg w hw⟩
theorem zsv_i {ad : zR → Nat} {r : Nat} {lk : List Nat} {ty k i o : Nat} {f : Nat → Int32} (hrs : zrs ty k i o = none) (hbo : zbo ty k o = false) : zsv ad r lk ty k i f o = .int (f o) := by
  unfold zsv zrf
  rw [hrs]
  simp [hbo]
theorem zsv_b {ad : zR → Nat} {r : Nat} {lk : List Nat} {ty k i o : Nat} {f : Nat → Int32} (hrs : zrs ty k i o = none) (hbo : zbo ty k o = true) : zsv ad r lk ty k i f o = .int (f o &&& 1) := by
  unfold zsv zrf
  rw [hrs]
  simp [hbo]
theorem zsv_r {ad : zR → Nat} {r : Nat} {lk : List Nat} {ty k i o l' k' i' : Nat} {f : Nat → Int32} (hrs : zrs ty k i o = some (l', k', i')) : zsv ad r lk ty k i f o = .ref (ad ((if l' = 0 then r else lk.getD (l' - 1) r), k', i')) := by
  unfold zsv zrf
  rw [hrs]
  rfl
theorem zsv_map {ad : zR → Nat} {r : Nat} {lk : List Nat} {ty k i o n : Nat} {f : Nat → Int32} (h : o < n) : ((List.range n).map (zsv ad r lk ty k i f))[o]? = some (zsv ad r lk ty k i f o) := by
  rw [List.getElem?_map, List.getElem?_range h]
  rfl
theorem zsv_set {ad : zR → Nat} {r : Nat} {lk : List Nat} {ty k i o n : Nat} {f : Nat → Int32} {x : Int32} {v : Value} (hv : v = zsv ad r lk ty k i (upd f o x) o) : ((List.range n).map (zsv ad r lk ty k i f)).set o v = (List.range n).map (zsv ad r lk ty k i (upd f o x)) := by
  refine List.ext_getElem? fun j => ?_
  rcases Nat.lt_or_ge j n with h | h
  · rw [zsv_map h]
    by_cases hj : j = o
    · subst hj
      rw [List.getElem?_set_self (by simpa using h), hv]
    · rw [List.getElem?_set_ne (Ne.symm hj), zsv_map h]
      unfold zsv
      rw [show upd f o x j = f j from if_neg hj]
  · rw [List.getElem?_eq_none (by simpa using h), List.getElem?_eq_none (by simpa using h)]
section ZH
variable {X : zX} {cc : ByteArray} {nL : Nat} {own : String} {ret : Option FieldType} {Rg : List zD} {fr lo pc : Nat} {L L' : List (Option zV)} {st : List zV} {Ms Ms' : List zM} {φ : Option zO}

theorem zz_getf (F : zFr X cc nL own ret) {idx ci q r k i n : Nat} {σ : zM} (hd : decode cc pc = .ok (.getfield idx, 3)) (hf : zFl own idx ci q) (hcl : zCl ci) (hm : Ms[r]? = some σ) (hi : zin Rg (r, k, i)) (hs : (zsh (zty' Rg r) k).2 = .inl (ci, n)) (hq : q < n) (hrs : zrs (zty' Rg r) k i q = none) (hbo : zbo (zty' Rg r) k q = false) (kk : zZ X Rg fr lo nL (pc + 3) L (zi (σ k i q) :: st) Ms φ) : zZ X Rg fr lo nL pc L (zr r k i :: st) Ms φ := by
  obtain ⟨p, l, e, s, m, args, below, meth, c, D, cA, ad, A⟩ := X
  obtain ⟨hx, hb, hml, hown, hts, hlk, hK, hA, hE, htr, hex, hret⟩ := F
  intro o ho H locs ls hl hP hD hS
  obtain ⟨j, hj⟩ := zw_get (cA := cA) (ad := ad) (Ms := Ms) hi
  rw [zcq_at hm] at hj
  unfold zce at hj
  rw [hs] at hj
  obtain ⟨Q, hQ, hqn, hlink⟩ := hf
  refine va_get hx hb hts (hcl Q hQ).1 hown hK hP j hj hQ q hqn (hts _ hlink) (fun _ h => h) ((zsv_map hq).trans (congrArg some ?_)) hd (kk o ho H locs ls hl hP hD hS)
  exact zsv_i hrs hbo

theorem zz_getb (F : zFr X cc nL own ret) {idx ci q r k i n : Nat} {σ : zM} (hd : decode cc pc = .ok (.getfield idx, 3)) (hf : zFl own idx ci q) (hcl : zCl ci) (hm : Ms[r]? = some σ) (hi : zin Rg (r, k, i)) (hs : (zsh (zty' Rg r) k).2 = .inl (ci, n)) (hq : q < n) (hrs : zrs (zty' Rg r) k i q = none) (hbo : zbo (zty' Rg r) k q = true) (kk : zZ X Rg fr lo nL (pc + 3) L (zi (σ k i q &&& 1) :: st) Ms φ) : zZ X Rg fr lo nL pc L (zr r k i :: st) Ms φ := by
  obtain ⟨p, l, e, s, m, args, below, meth, c, D, cA, ad, A⟩ := X
  obtain ⟨hx, hb, hml, hown, hts, hlk, hK, hA, hE, htr, hex, hret⟩ := F
  intro o ho H locs ls hl hP hD hS
  obtain ⟨j, hj⟩ := zw_get (cA := cA) (ad := ad) (Ms := Ms) hi
  rw [zcq_at hm] at hj
  unfold zce at hj
  rw [hs] at hj
  obtain ⟨Q, hQ, hqn, hlink⟩ := hf
  refine va_get hx hb hts (hcl Q hQ).1 hown hK hP j hj hQ q hqn (hts _ hlink) (fun _ h => h) ((zsv_map hq).trans (congrArg some ?_)) hd (kk o ho H locs ls hl hP hD hS)
  exact zsv_b hrs hbo

theorem zz_getr (F : zFr X cc nL own ret) {idx ci q r k i n : Nat} {σ : zM} {l' k' i' r' : Nat} (hd : decode cc pc = .ok (.getfield idx, 3)) (hf : zFl own idx ci q) (hcl : zCl ci) (hm : Ms[r]? = some σ) (hi : zin Rg (r, k, i)) (hs : (zsh (zty' Rg r) k).2 = .inl (ci, n)) (hq : q < n) (hrs : zrs (zty' Rg r) k i q = some (l', k', i')) (hr : (if l' = 0 then r else (zlk Rg r).getD (l' - 1) r) = r') (kk : zZ X Rg fr lo nL (pc + 3) L (zr r' k' i' :: st) Ms φ) : zZ X Rg fr lo nL pc L (zr r k i :: st) Ms φ := by
  obtain ⟨p, l, e, s, m, args, below, meth, c, D, cA, ad, A⟩ := X
  obtain ⟨hx, hb, hml, hown, hts, hlk, hK, hA, hE, htr, hex, hret⟩ := F
  intro o ho H locs ls hl hP hD hS
  obtain ⟨j, hj⟩ := zw_get (cA := cA) (ad := ad) (Ms := Ms) hi
  rw [zcq_at hm] at hj
  unfold zce at hj
  rw [hs] at hj
  obtain ⟨Q, hQ, hqn, hlink⟩ := hf
  refine va_get hx hb hts (hcl Q hQ).1 hown hK hP j hj hQ q hqn (hts _ hlink) (fun _ h => h) ((zsv_map hq).trans (congrArg some ?_)) hd (kk o ho H locs ls hl hP hD hS)
  exact (zsv_r hrs).trans (by rw [hr]; rfl)

theorem zz_put (F : zFr X cc nL own ret) {idx ci q r k i n : Nat} {σ : zM} {x : Int32} (hd : decode cc pc = .ok (.putfield idx, 3)) (hf : zFw own idx ci q .int) (hcl : zCl ci) (hm : Ms[r]? = some σ) (hi : zin Rg (r, k, i)) (hs : (zsh (zty' Rg r) k).2 = .inl (ci, n)) (hq : q < n) (hrs : zrs (zty' Rg r) k i q = none) (hbo : zbo (zty' Rg r) k q = false) (hM : Ms.set r (zu σ k i q x) = Ms') (kk : zZ X Rg fr lo nL (pc + 3) L st Ms' φ) : zZ X Rg fr lo nL pc L (zi x :: zr r k i :: st) Ms φ := by
  obtain ⟨p, l, e, s, m, args, below, meth, c, D, cA, ad, A⟩ := X
  obtain ⟨hx, hb, hml, hown, hts, hlk, hK, hA, hE, htr, hex, hret⟩ := F
  intro o ho H locs ls hl hP hD hS
  obtain ⟨j, hj⟩ := zw_get (cA := cA) (ad := ad) (Ms := Ms) hi
  have hj0 := hj
  rw [zcq_at hm] at hj
  unfold zce at hj
  rw [hs] at hj
  obtain ⟨Q, hQ, hqn, hlink, hfin, hdsc⟩ := hf
  obtain ⟨hc1, ⟨ty0, hc2⟩, hc3⟩ := hcl Q hQ
  refine va_put hx hb hts hc1 ty0 hc2 hc3 hown hK hP hD hS j hj hQ q hqn (hts _ hlink) (fun _ h => h) hfin (v := .int x) hdsc rfl rfl (by simpa using hq) hd fun H1 locs1 hP1 hD1 hS1 => ?_
  have he : (zwl cA ad Rg Ms).set j (ad (r, k, i), .inr (ci, ((List.range n).map (zsv ad r (zlk Rg r) (zty' Rg r) k i (σ k i))).set q (.int x))) = zwl cA ad Rg Ms' := by
    subst hM
    refine zw_set hD hi hj0 ?_ (fun q' _ hne => zcq_row hm (fun _ _ h => zu_row h) q' hne)
    rw [zcq_here hm, zu_here]
    unfold zce
    rw [hs]
    refine congrArg (fun z => (Sum.inr (ci, z) : va_E)) (zsv_set (x := x) ?_).symm
    rw [zsv_i hrs hbo]
    show Value.int x = Value.int (upd (σ k i) q x q)
    rw [show upd (σ k i) q x q = x from if_pos rfl]
  rw [he] at hP1 hD1
  exact kk o ho H1 locs1 ls hl hP1 hD1 hS1

theorem zz_putb (F : zFr X cc nL own ret) {idx ci q r k i n : Nat} {σ : zM} {x : Int32} (hd : decode cc pc = .ok (.putfield idx, 3)) (hf : zFw own idx ci q .boolean) (hcl : zCl ci) (hm : Ms[r]? = some σ) (hi : zin Rg (r, k, i)) (hs : (zsh (zty' Rg r) k).2 = .inl (ci, n)) (hq : q < n) (hrs : zrs (zty' Rg r) k i q = none) (hbo : zbo (zty' Rg r) k q = true) (hn01 : x = 0 ∨ x = 1) (hM : Ms.set r (zu σ k i q x) = Ms') (kk : zZ X Rg fr lo nL (pc + 3) L st Ms' φ) : zZ X Rg fr lo nL pc L (zi x :: zr r k i :: st) Ms φ := by
  obtain ⟨p, l, e, s, m, args, below, meth, c, D, cA, ad, A⟩ := X
  obtain ⟨hx, hb, hml, hown, hts, hlk, hK, hA, hE, htr, hex, hret⟩ := F
  intro o ho H locs ls hl hP hD hS
  have hn : x &&& 1 = x := by rcases hn01 with h | h <;> (rw [h]; rfl)
  obtain ⟨j, hj⟩ := zw_get (cA := cA) (ad := ad) (Ms := Ms) hi
  have hj0 := hj
  rw [zcq_at hm] at hj
  unfold zce at hj
  rw [hs] at hj
  obtain ⟨Q, hQ, hqn, hlink, hfin, hdsc⟩ := hf
  obtain ⟨hc1, ⟨ty0, hc2⟩, hc3⟩ := hcl Q hQ
  refine va_put hx hb hts hc1 ty0 hc2 hc3 hown hK hP hD hS j hj hQ q hqn (hts _ hlink) (fun _ h => h) hfin (v := .int x) hdsc (by show Value.int (x &&& 1) = Value.int x; rw [hn]) (by first | exact decide_eq_true hn01 | simpa [fits] using hn01) (by simpa using hq) hd fun H1 locs1 hP1 hD1 hS1 => ?_
  have he : (zwl cA ad Rg Ms).set j (ad (r, k, i), .inr (ci, ((List.range n).map (zsv ad r (zlk Rg r) (zty' Rg r) k i (σ k i))).set q (.int x))) = zwl cA ad Rg Ms' := by
    subst hM
    refine zw_set hD hi hj0 ?_ (fun q' _ hne => zcq_row hm (fun _ _ h => zu_row h) q' hne)
    rw [zcq_here hm, zu_here]
    unfold zce
    rw [hs]
    refine congrArg (fun z => (Sum.inr (ci, z) : va_E)) (zsv_set (x := x) ?_).symm
    rw [zsv_b hrs hbo]
    show Value.int x = Value.int (upd (σ k i) q x q &&& 1)
    rw [show upd (σ k i) q x q = x from if_pos rfl, hn]
  rw [he] at hP1 hD1
  exact kk o ho H1 locs1 ls hl hP1 hD1 hS1

theorem zz_ial (F : zFr X cc nL own ret) {r k i n : Nat} {σ : zM} {j : Int32} {jn : Nat} (hd : decode cc pc = .ok (.iaload, 1)) (hm : Ms[r]? = some σ) (hi : zin Rg (r, k, i)) (hs : (zsh (zty' Rg r) k).2 = .inr (.inl n)) (hin : vp_in j n) (hjn : j.toNatClampNeg = jn) (kk : zZ X Rg fr lo nL (pc + 1) L (zi (σ k i jn) :: st) Ms φ) : zZ X Rg fr lo nL pc L (zi j :: zr r k i :: st) Ms φ := by
  obtain ⟨p, l, e, s, m, args, below, meth, c, D, cA, ad, A⟩ := X
  obtain ⟨hx, hb, hml, hown, hts, hlk, hK, hA, hE, htr, hex, hret⟩ := F
  subst hjn
  intro o ho H locs ls hl hP hD hS
  obtain ⟨q0, hj⟩ := zw_get (cA := cA) (ad := ad) (Ms := Ms) hi
  rw [zcq_at hm] at hj
  unfold zce at hj
  rw [hs] at hj
  exact va_iald hx hb hK hP q0 0 hj (ztl_at (by decide)) hin hd (kk o ho H locs ls hl hP hD hS)
theorem zz_ias (F : zFr X cc nL own ret) {r k i n : Nat} {σ : zM} {j x : Int32} {jn : Nat} (hd : decode cc pc = .ok (.iastore, 1)) (hm : Ms[r]? = some σ) (hi : zin Rg (r, k, i)) (hs : (zsh (zty' Rg r) k).2 = .inr (.inl n)) (hin : vp_in j n) (hjn : j.toNatClampNeg = jn) (hM : Ms.set r (zu σ k i jn x) = Ms') (kk : zZ X Rg fr lo nL (pc + 1) L st Ms' φ) : zZ X Rg fr lo nL pc L (zi x :: zi j :: zr r k i :: st) Ms φ := by
  obtain ⟨p, l, e, s, m, args, below, meth, c, D, cA, ad, A⟩ := X
  obtain ⟨hx, hb, hml, hown, hts, hlk, hK, hA, hE, htr, hex, hret⟩ := F
  subst hjn
  intro o ho H locs ls hl hP hD hS
  obtain ⟨q0, hj⟩ := zw_get (cA := cA) (ad := ad) (Ms := Ms) hi
  have hj0 := hj
  rw [zcq_at hm] at hj
  unfold zce at hj
  rw [hs] at hj
  refine va_iast hx hb hK hP hD hS q0 0 hj (ztl_at (by decide)) hin hd fun H1 locs1 hP1 hD1 hS1 => ?_
  have he : (zwl cA ad Rg Ms).set q0 (ad (r, k, i), .inl (cA 0, n, .inl (upd (σ k i) j.toNatClampNeg x))) = zwl cA ad Rg Ms' := by
    subst hM
    refine zw_set hD hi hj0 ?_ (fun q' _ hne => zcq_row hm (fun _ _ h => zu_row h) q' hne)
    rw [zcq_here hm, zu_here]
    unfold zce
    rw [hs]
  have hP2 : va_P D zcl ((zwl cA ad Rg Ms).set q0 (ad (r, k, i), .inl (cA 0, n, .inl (upd (σ k i) j.toNatClampNeg x)))) H1 := hP1
  rw [he] at hP2
  exact kk o ho H1 locs1 ls hl hP2 (zw_D Ms' hD) hS1
theorem zz_aal (F : zFr X cc nL own ret) {r k i n ca k' i' : Nat} {σ : zM} {j : Int32} {jn : Nat} (hd : decode cc pc = .ok (.aaload, 1)) (hm : Ms[r]? = some σ) (hi : zin Rg (r, k, i)) (hs : (zsh (zty' Rg r) k).2 = .inr (.inr (n, ca))) (hca : ca < zTn) (hrf : (zty ca).isReference = true) (hin : vp_in j n) (hjn : j.toNatClampNeg = jn) (hrs : zrs (zty' Rg r) k i jn = some (0, k', i')) (kk : zZ X Rg fr lo nL (pc + 1) L (zr r k' i' :: st) Ms φ) : zZ X Rg fr lo nL pc L (zi j :: zr r k i :: st) Ms φ := by
  obtain ⟨p, l, e, s, m, args, below, meth, c, D, cA, ad, A⟩ := X
  obtain ⟨hx, hb, hml, hown, hts, hlk, hK, hA, hE, htr, hex, hret⟩ := F
  subst hjn
  intro o ho H locs ls hl hP hD hS
  obtain ⟨q0, hj⟩ := zw_get (cA := cA) (ad := ad) (Ms := Ms) hi
  rw [zcq_at hm] at hj
  unfold zce at hj
  rw [hs] at hj
  have hlt : j.toNatClampNeg < n := Nat.not_le.mp fun q => hin (Or.inr q)
  have hv : zrf ad r (zlk Rg r) (zty' Rg r) k i j.toNatClampNeg = some (ad (r, k', i')) := by
    unfold zrf
    rw [hrs]
    rfl
  exact W.aald (v := .ref (ad (r, k', i'))) (ty := zty ca) hx hb (hP q0 _ hj) ((hK.2 ca _ (ztl_at hca)).1 n (fun j => va_rf (zrf ad r (zlk Rg r) (zty' Rg r) k i j))) hrf (fun q => by cases q) (by show ¬ (j < 0 ∨ (arrV _ _ _).slots.size ≤ _); rw [arrV_size]; exact hin) (by show (arrV _ _ _).slots[_]? = _; rw [arrV_read _ _ hlt, hv]; rfl) rfl rfl hd (kk o ho H locs ls hl hP hD hS)
theorem zz_gets (F : zFr X cc nL own ret) {idx j : Nat} {q : String × String × List Int32} (hd : decode cc pc = .ok (.getstatic idx, 3)) (hq : zst[j]? = some q) (hw : Cond.fieldLink own idx q.1 q.2.1 "[I" ∈ zTg) (kk : zZ X Rg fr lo nL (pc + 3) L (zr (100 + j) 0 0 :: st) Ms φ) : zZ X Rg fr lo nL pc L st Ms φ := by
  obtain ⟨p, l, e, s, m, args, below, meth, c, D, cA, ad, A⟩ := X
  obtain ⟨hx, hb, hml, hown, hts, hlk, hK, hA, hE, htr, hex, hret⟩ := F
  intro o ho H locs ls hl hP hD hS
  exact va_gets hx hb (hE.1 j q hq).1 hS hown (hts _ hw) (fun _ h => h) hd (kk o ho H locs ls hl hP hD hS)
theorem zz_getsN (F : zFr X cc nL own ret) {idx j : Nat} {host : String} {q : String × String × List Int32} (hd : decode cc pc = .ok (.getstatic idx, 3)) (hq : zst[j]? = some q) (hw : Cond.fieldLinkNest own idx q.1 q.2.1 "[I" host ∈ zNws) (kk : zZ X Rg fr lo nL (pc + 3) L (zr (100 + j) 0 0 :: st) Ms φ) : zZ X Rg fr lo nL pc L st Ms φ := by
  obtain ⟨p, l, e, s, m, args, below, meth, c, D, cA, ad, A⟩ := X
  obtain ⟨hx, hb, hml, hown, hts, hlk, hK, hA, hE, htr, hex, hret⟩ := F
  intro o ho H locs ls hl hP hD hS
  exact va_getsN hx hb (hE.1 j q hq).1 hS hown (va_Nw.use rfl (hE.2.2.1 _ hw)) (fun _ h => h) hd (kk o ho H locs ls hl hP hD hS)
theorem zz_tld (F : zFr X cc nL own ret) {j r : Nat} {q : String × String × List Int32} {x : Int32} {jn : Nat} (hd : decode cc pc = .ok (.iaload, 1)) (hr : r = 100 + j) (hq : zst[j]? = some q) (hin : vp_in x q.2.2.length) (hjn : x.toNatClampNeg = jn) (kk : zZ X Rg fr lo nL (pc + 1) L (zi (q.2.2.getD jn 0) :: st) Ms φ) : zZ X Rg fr lo nL pc L (zi x :: zr r 0 0 :: st) Ms φ := by
  obtain ⟨p, l, e, s, m, args, below, meth, c, D, cA, ad, A⟩ := X
  obtain ⟨hx, hb, hml, hown, hts, hlk, hK, hA, hE, htr, hex, hret⟩ := F
  subst hjn
  intro o ho H locs ls hl hP hD hS
  subst hr
  exact va_ti hx hb (hE.1 j q hq).2 hS hin rfl hd (kk o ho H locs ls hl hP hD hS)
theorem zz_tlen (F : zFr X cc nL own ret) {j r : Nat} {q : String × String × List Int32} {v : Int32} (hd : decode cc pc = .ok (.arraylength, 1)) (hr : r = 100 + j) (hq : zst[j]? = some q) (hv : Int32.ofNat q.2.2.length = v) (kk : zZ X Rg fr lo nL (pc + 1) L (zi v :: st) Ms φ) : zZ X Rg fr lo nL pc L (zr r 0 0 :: st) Ms φ := by
  obtain ⟨p, l, e, s, m, args, below, meth, c, D, cA, ad, A⟩ := X
  obtain ⟨hx, hb, hml, hown, hts, hlk, hK, hA, hE, htr, hex, hret⟩ := F
  intro o ho H locs ls hl hP hD hS
  subst hr
  exact va_tlen hx hb (hE.1 j q hq).2 hS hv hd (kk o ho H locs ls hl hP hD hS)
theorem zz_alen (F : zFr X cc nL own ret) {r k i n : Nat} {σ : zM} {v : Int32} (hd : decode cc pc = .ok (.arraylength, 1)) (hm : Ms[r]? = some σ) (hi : zin Rg (r, k, i)) (hs : (zsh (zty' Rg r) k).2 = .inr (.inl n)) (hv : Int32.ofNat n = v) (kk : zZ X Rg fr lo nL (pc + 1) L (zi v :: st) Ms φ) : zZ X Rg fr lo nL pc L (zr r k i :: st) Ms φ := by
  obtain ⟨p, l, e, s, m, args, below, meth, c, D, cA, ad, A⟩ := X
  obtain ⟨hx, hb, hml, hown, hts, hlk, hK, hA, hE, htr, hex, hret⟩ := F
  intro o ho H locs ls hl hP hD hS
  obtain ⟨q0, hj⟩ := zw_get (cA := cA) (ad := ad) (Ms := Ms) hi
  rw [zcq_at hm] at hj
  unfold zce at hj
  rw [hs] at hj
  exact va_alen hx hb hK hP q0 0 hj (ty := .int) (ztl_at (by decide)) hv hd (kk o ho H locs ls hl hP hD hS)

theorem zz_max (F : zFr X cc nL own ret) {idx : Nat} {x y : Int32} (hd : decode cc pc = .ok (.invokestatic idx, 3)) (hw : Cond.methodLink own idx Lib.Math.max.name ∈ zTg) (hwM : Cond.static Lib.Math.max.name ∈ zTg ∧ Cond.initialized "java/lang/Math" ∈ zTg ∧ Cond.code Lib.Math.max.name Lib.Math.max.code 2 (some .int) ∈ zTg) (hfr : 1 ≤ fr) (hlo : zcs st + 13 ≤ lo) (kk : zZ X Rg fr lo nL (pc + 3) L (zi (zmax x y) :: st) Ms φ) : zZ X Rg fr lo nL pc L (zi y :: zi x :: st) Ms φ := by
  obtain ⟨p, l, e, s, m, args, below, meth, c, D, cA, ad, A⟩ := X
  obtain ⟨hx, hb, hml, hown, hts, hlk, hK, hA, hE, htr, hex, hret⟩ := F
  intro o ho H locs ls hl hP hD hS
  exact va_mmax hx hb (hml.trans hl.1.symm) hown (hts _ hw) (hts _ hwM.1) (hts _ hwM.2.1) (hts _ hwM.2.2) (by rw [zrm_f]; exact hfr) (by rw [zcs_t, zrm_l]; exact hlo) (Nat.zero_le _) (Nat.zero_le _) hd (kk o ho H locs ls hl hP hD hS)

theorem zz_min (F : zFr X cc nL own ret) {idx : Nat} {x y : Int32} (hd : decode cc pc = .ok (.invokestatic idx, 3)) (hw : Cond.methodLink own idx Lib.Math.min.name ∈ zTg) (hwM : Cond.static Lib.Math.min.name ∈ zTg ∧ Cond.initialized "java/lang/Math" ∈ zTg ∧ Cond.code Lib.Math.min.name Lib.Math.min.code 2 (some .int) ∈ zTg) (hfr : 1 ≤ fr) (hlo : zcs st + 13 ≤ lo) (kk : zZ X Rg fr lo nL (pc + 3) L (zi (zmin x y) :: st) Ms φ) : zZ X Rg fr lo nL pc L (zi y :: zi x :: st) Ms φ := by
  obtain ⟨p, l, e, s, m, args, below, meth, c, D, cA, ad, A⟩ := X
  obtain ⟨hx, hb, hml, hown, hts, hlk, hK, hA, hE, htr, hex, hret⟩ := F
  intro o ho H locs ls hl hP hD hS
  exact va_mmin hx hb (hml.trans hl.1.symm) hown (hts _ hw) (hts _ hwM.1) (hts _ hwM.2.1) (hts _ hwM.2.2) (by rw [zrm_f]; exact hfr) (by rw [zcs_t, zrm_l]; exact hlo) (Nat.zero_le _) (Nat.zero_le _) hd (kk o ho H locs ls hl hP hD hS)

theorem zz_abs (F : zFr X cc nL own ret) {idx : Nat} {x : Int32} (hd : decode cc pc = .ok (.invokestatic idx, 3)) (hw : Cond.methodLink own idx Lib.Math.abs.name ∈ zTg) (hwM : Cond.static Lib.Math.abs.name ∈ zTg ∧ Cond.initialized "java/lang/Math" ∈ zTg ∧ Cond.code Lib.Math.abs.name Lib.Math.abs.code 1 (some .int) ∈ zTg) (hfr : 1 ≤ fr) (hlo : zcs st + 13 ≤ lo) (kk : zZ X Rg fr lo nL (pc + 3) L (zi (zabs x) :: st) Ms φ) : zZ X Rg fr lo nL pc L (zi x :: st) Ms φ := by
  obtain ⟨p, l, e, s, m, args, below, meth, c, D, cA, ad, A⟩ := X
  obtain ⟨hx, hb, hml, hown, hts, hlk, hK, hA, hE, htr, hex, hret⟩ := F
  intro o ho H locs ls hl hP hD hS
  exact va_mabs hx hb (hml.trans hl.1.symm) hown (hts _ hw) (hts _ hwM.1) (hts _ hwM.2.1) (hts _ hwM.2.2) (by rw [zrm_f]; exact hfr) (by rw [zcs_t, zrm_l]; exact hlo) (Nat.zero_le _) (Nat.zero_le _) hd (kk o ho H locs ls hl hP hD hS)

theorem zz_copy (F : zFr X cc nL own ret) {idx r0 k0 i0 n0 r1 k1 i1 n1 : Nat} {σ0 σ1 : zM} {sp dp n : Int32} (hd : decode cc pc = .ok (.invokestatic idx, 3)) (hw : Cond.methodLink own idx arraycopyName ∈ zTg) (hwM : Cond.native arraycopyName ∈ zTg ∧ Cond.static arraycopyName ∈ zTg ∧ Cond.initialized "java/lang/System" ∈ zTg)
    (hm0 : Ms[r0]? = some σ0) (hi0 : zin Rg (r0, k0, i0)) (hs0 : (zsh (zty' Rg r0) k0).2 = .inr (.inl n0)) (hm1 : Ms[r1]? = some σ1) (hi1 : zin Rg (r1, k1, i1)) (hs1 : (zsh (zty' Rg r1) k1).2 = .inr (.inl n1)) (h1 : ¬ sp < 0) (h2 : ¬ dp < 0) (h3 : ¬ n < 0) (h4 : sp.toNatClampNeg + n.toNatClampNeg ≤ n0) (h5 : dp.toNatClampNeg + n.toNatClampNeg ≤ n1)
    (hfr : 1 ≤ fr) (hlo : zcs st + (nativeFrameWords "java/lang/System" "arraycopy" 5 + 11) ≤ lo) (hM : Ms.set r1 (zur σ1 k1 i1 (va_cpy (σ0 k0 i0) (σ1 k1 i1) sp.toNatClampNeg dp.toNatClampNeg n.toNatClampNeg)) = Ms') (kk : zZ X Rg fr lo nL (pc + 3) L st Ms' φ) : zZ X Rg fr lo nL pc L (zi n :: zi dp :: zr r1 k1 i1 :: zi sp :: zr r0 k0 i0 :: st) Ms φ := by
  obtain ⟨p, l, e, s, m, args, below, meth, c, D, cA, ad, A⟩ := X
  obtain ⟨hx, hb, hml, hown, hts, hlk, hK, hA, hE, htr, hex, hret⟩ := F
  intro o ho H locs ls hl hP hD hS
  obtain ⟨q0, hj⟩ := zw_get (cA := cA) (ad := ad) (Ms := Ms) hi0
  obtain ⟨q1, hj1⟩ := zw_get (cA := cA) (ad := ad) (Ms := Ms) hi1
  have hj0 := hj1
  rw [zcq_at hm0] at hj
  rw [zcq_at hm1] at hj1
  unfold zce at hj hj1
  rw [hs0] at hj
  rw [hs1] at hj1
  refine va_copyi hx hb (hml.trans hl.1.symm) hown (hts _ hw) (hts _ hwM.1) (hts _ hwM.2.1) (hts _ hwM.2.2) hK hP hD hS q0 q1 0 0 hj hj1 (ty := .int) (ztl_at (by decide)) (ztl_at (by decide)) rfl h1 h2 h3 h4 h5 (fun i _ => rfl) (by rw [zrm_f]; exact hfr) (by rw [zcs_t, zrm_l]; exact hlo) hd fun H1 locs1 hP1 hD1 hS1 => ?_
  have he : (zwl cA ad Rg Ms).set q1 (ad (r1, k1, i1), .inl (cA 0, n1, .inl (va_cpy (σ0 k0 i0) (σ1 k1 i1) sp.toNatClampNeg dp.toNatClampNeg n.toNatClampNeg))) = zwl cA ad Rg Ms' := by
    subst hM
    refine zw_set hD hi1 hj0 ?_ (fun q' _ hne => zcq_row hm1 (fun _ _ h => zur_row h) q' hne)
    rw [zcq_here hm1, zur_here]
    unfold zce
    rw [hs1]
  rw [he] at hP1
  exact kk o ho H1 locs1 ls hl hP1 (zw_D Ms' hD) hS1
/-- throw new E("text") -/
theorem zz_throw (F : zFr X cc nL own ret) {cls text : String} {ik is ic : Nat} (d0 : decode cc pc = .ok (.new ik, 3)) (d3 : decode cc (pc + 3) = .ok (.dup, 1)) (d4 : decode cc (pc + 4) = .ok (.ldc is, 2)) (d6 : decode cc (pc + 6) = .ok (.invokespecial ic, 3)) (d9 : decode cc (pc + 9) = .ok (.athrow, 1))
    (hcls : Bundle.fit cls = true) (hk : Cond.classLink own ik cls ∈ zTg ∧ Cond.initialized cls ∈ zTg) (hstr : (own, is, text) ∈ zstr) (hg1 : ∀ w ∈ (vx_atS own ic cls ["java/lang/RuntimeException", "java/lang/Exception"]).filter goodWord, w ∈ zTg) (hg2 : ∀ w ∈ (vx_atS own ic cls ["java/lang/RuntimeException", "java/lang/Exception"]).filter (fun w => !goodWord w), w ∈ zNws)
    (hgood : ∀ w ∈ Cond.classLink own ik cls :: Cond.initialized cls :: vx_atS own ic cls ["java/lang/RuntimeException", "java/lang/Exception"], vx_ot w = true) (hfr : 5 < fr) (hlo : zcs st + 82 ≤ lo) (hφ : φ = some (.inr cls, Ms)) : zZ X Rg fr lo nL pc L st Ms φ := by
  obtain ⟨p, l, e, s, m, args, below, meth, c, D, cA, ad, A⟩ := X
  obtain ⟨hx, hb, hml, hown, hts, hlk, hK, hA, hE, htr, hex, hret⟩ := F
  intro o ho H locs ls hl hP hD hS
  rw [hφ] at ho
  cases ho
  obtain ⟨sa, hsa⟩ := hE.2.1 _ hstr
  refine vx_throwS hx hb htr (names := ["java/lang/RuntimeException", "java/lang/Exception"]) (A := A) (sa := sa) hown hcls (by decide) (hts _ hk.1) (hts _ hk.2) hsa (vx_hat (B := zNws) (fun w hw => hts w (hg1 w hw)) hg2 (fun w hw => va_Nw.use (zNw_on (List.all_eq_true.mp zNws_ok w hw)) (hE.2.2.1 w hw))) hgood hE.2.2.2.1 hE.2.2.2.2 hS (hl.1.trans hml.symm) d0 d3 d4 d6 d9 (fun x hx => (hex x hx).elim) (by exact hfr) (by rw [zcs_t]; exact hlo) (by exact Nat.le_refl _) (by exact Nat.le_refl _) hlk ?_ hS.2.2 (by exact Nat.le_refl _) (by exact Nat.le_refl _)
  intro t hal hsz hold
  exact ⟨rfl, hP.kept fun j x hx => hold x.1 ((hP j x hx).lt), Nat.le_trans hS.1 hsz, fun q h1 h2 => (hold q (Nat.lt_of_lt_of_le h1 hS.1)).trans (hS.2.1 q h1 h2)⟩
/-- throw new E("text") -/
theorem zz_throwW (F : zFr X cc nL own ret) {cls text : String} {ik is ic : Nat} (d0 : decode cc pc = .ok (.new ik, 3)) (d3 : decode cc (pc + 3) = .ok (.dup, 1)) (d4 : decode cc (pc + 4) = .ok (.ldc_w is, 3)) (d6 : decode cc (pc + 7) = .ok (.invokespecial ic, 3)) (d9 : decode cc (pc + 10) = .ok (.athrow, 1))
    (hcls : Bundle.fit cls = true) (hk : Cond.classLink own ik cls ∈ zTg ∧ Cond.initialized cls ∈ zTg) (hstr : (own, is, text) ∈ zstr) (hg1 : ∀ w ∈ (vx_atS own ic cls ["java/lang/RuntimeException", "java/lang/Exception"]).filter goodWord, w ∈ zTg) (hg2 : ∀ w ∈ (vx_atS own ic cls ["java/lang/RuntimeException", "java/lang/Exception"]).filter (fun w => !goodWord w), w ∈ zNws)
    (hgood : ∀ w ∈ Cond.classLink own ik cls :: Cond.initialized cls :: vx_atS own ic cls ["java/lang/RuntimeException", "java/lang/Exception"], vx_ot w = true) (hfr : 5 < fr) (hlo : zcs st + 82 ≤ lo) (hφ : φ = some (.inr cls, Ms)) : zZ X Rg fr lo nL pc L st Ms φ := by
  obtain ⟨p, l, e, s, m, args, below, meth, c, D, cA, ad, A⟩ := X
  obtain ⟨hx, hb, hml, hown, hts, hlk, hK, hA, hE, htr, hex, hret⟩ := F
  intro o ho H locs ls hl hP hD hS
  rw [hφ] at ho
  cases ho
  obtain ⟨sa, hsa⟩ := hE.2.1 _ hstr
  refine vx_throwSW hx hb htr (names := ["java/lang/RuntimeException", "java/lang/Exception"]) (A := A) (sa := sa) hown hcls (by decide) (hts _ hk.1) (hts _ hk.2) hsa (vx_hat (B := zNws) (fun w hw => hts w (hg1 w hw)) hg2 (fun w hw => va_Nw.use (zNw_on (List.all_eq_true.mp zNws_ok w hw)) (hE.2.2.1 w hw))) hgood hE.2.2.2.1 hE.2.2.2.2 hS (hl.1.trans hml.symm) d0 d3 d4 d6 d9 (fun x hx => (hex x hx).elim) (by exact hfr) (by rw [zcs_t]; exact hlo) (by exact Nat.le_refl _) (by exact Nat.le_refl _) hlk ?_ hS.2.2 (by exact Nat.le_refl _) (by exact Nat.le_refl _)
  intro t hal hsz hold
  exact ⟨rfl, hP.kept fun j x hx => hold x.1 ((hP j x hx).lt), Nat.le_trans hS.1 hsz, fun q h1 h2 => (hold q (Nat.lt_of_lt_of_le h1 hS.1)).trans (hS.2.1 q h1 h2)⟩

theorem zb01 (v : Int32) : v &&& 1 = 0 ∨ v &&& 1 = 1 := by
  obtain ⟨j, hj, e⟩ := pk_andE v (m := 1) 1 (by decide)
  rcases (show j = 0 ∨ j = 1 by omega) with rfl | rfl
  · exact Or.inl e
  · exact Or.inr e
end ZH
end
section
/-! ===== calls ===== -/
/-- a callee's place, seen by the caller: ρ names the caller's region of each of the callee's -/
def zmq (ρ : List Nat) (q : zR) : zR := (if q.1 < 100 then ρ.getD q.1 0 else q.1, q.2.1, q.2.2)
def zmv (ρ : List Nat) : zV → zV
  | .inl q => .inl (zmq ρ q)
  | .inr x => .inr x
theorem zt_mv (ad : zR → Nat) (ρ : List Nat) (v : zV) : zt (fun q => ad (zmq ρ q)) v = zt ad (zmv ρ v) := by
  rcases v with q | x | x <;> rfl
theorem zt_mvs (ad : zR → Nat) (ρ : List Nat) (vs : List zV) : vs.map (zt fun q => ad (zmq ρ q)) = (vs.map (zmv ρ)).map (zt ad) := by
  rw [List.map_map]
  exact List.map_congr_left fun v _ => zt_mv ad ρ v
def zRel (ρ : List Nat) (Rg Rg' : List zD) : Prop := Rg'.length ≤ 100 ∧ ρ.length = Rg'.length ∧
  (∀ r, r < Rg'.length → ρ.getD r 0 < Rg.length ∧ zty' Rg' r = zty' Rg (ρ.getD r 0) ∧ (zlk Rg' r).map (fun x => ρ.getD x 0) = zlk Rg (ρ.getD r 0) ∧ ∀ x ∈ zlk Rg' r, x < 100) ∧
  ∀ r, r < Rg'.length → ∀ r2, r2 < Rg'.length → ρ.getD r 0 = ρ.getD r2 0 → r = r2
theorem zmq_in {ρ : List Nat} {Rg Rg' : List zD} (h : zRel ρ Rg Rg') {q : zR} (hq : zin Rg' q) : zin Rg (zmq ρ q) := by
  obtain ⟨h1, h2, h3⟩ := hq
  obtain ⟨g1, -, g3, -⟩ := h
  obtain ⟨a1, a2, -, -⟩ := g3 _ h1
  unfold zmq
  rw [if_pos (Nat.lt_of_lt_of_le h1 g1)]
  exact ⟨a1, h2, by dsimp only; rw [← a2]; exact h3⟩
theorem zmq_inj {ρ : List Nat} {Rg Rg' : List zD} (h : zRel ρ Rg Rg') {q q' : zR} (hq : zin Rg' q) (hq' : zin Rg' q') (e : zmq ρ q = zmq ρ q') : q = q' := by
  obtain ⟨g1, -, -, g4⟩ := h
  obtain ⟨r, k, i⟩ := q
  obtain ⟨r', k', i'⟩ := q'
  have h1 : r < Rg'.length := hq.1
  have h2 : r' < Rg'.length := hq'.1
  unfold zmq at e
  dsimp only at e
  rw [if_pos (Nat.lt_of_lt_of_le h1 g1), if_pos (Nat.lt_of_lt_of_le h2 g1)] at e
  have e1 := g4 r h1 r' h2 (congrArg Prod.fst e)
  have e2 := congrArg Prod.snd e
  rw [e1]
  exact congrArg (Prod.mk r') e2
theorem zcq_mq {cA : Nat → ClassId} {ad : zR → Nat} {ρ : List Nat} {Rg Rg' : List zD} {Ms Ms' : List zM} (h : zRel ρ Rg Rg') {q : zR} (hq : zin Rg' q) (hM : Ms'.getD q.1 zm0 = Ms.getD (ρ.getD q.1 0) zm0) : zcq cA (fun q => ad (zmq ρ q)) Rg' Ms' q = zcq cA ad Rg Ms (zmq ρ q) := by
  obtain ⟨g1, g2, g3, -⟩ := h
  obtain ⟨r, k, i⟩ := q
  have h1 : r < Rg'.length := hq.1
  have h100 : r < 100 := Nat.lt_of_lt_of_le h1 g1
  obtain ⟨a1, a2, a3, a4⟩ := g3 _ h1
  dsimp only at hM
  generalize hr2 : ρ.getD r 0 = r2 at *
  have hz : zmq ρ (r, k, i) = (r2, k, i) := by
    unfold zmq
    dsimp only
    rw [if_pos h100, hr2]
  rw [hz]
  unfold zcq
  dsimp only
  rw [hM, a2]
  have hzrf : ∀ (ty k i o : Nat), zrf (fun q => ad (zmq ρ q)) r (zlk Rg' r) ty k i o = zrf ad r2 (zlk Rg r2) ty k i o := by
    intro ty k i o
    unfold zrf
    cases zrs ty k i o with
    | none => rfl
    | some q =>
      obtain ⟨l', k', i'⟩ := q
      show some (ad (zmq ρ _)) = some (ad _)
      unfold zmq
      dsimp only
      by_cases hl : l' = 0
      · rw [if_pos hl, if_pos hl, if_pos h100, hr2]
      · rw [if_neg hl, if_neg hl, ← a3]
        have e1 : ((zlk Rg' r).map fun x => ρ.getD x 0).getD (l' - 1) r2 = ρ.getD ((zlk Rg' r).getD (l' - 1) r) 0 := by
          rw [List.getD_eq_getElem?_getD] at hr2
          simp only [List.getD_eq_getElem?_getD, List.getElem?_map]
          cases hx : (zlk Rg' r)[l' - 1]? with
          | none => exact hr2.symm
          | some x => rfl
        have e2 : (zlk Rg' r).getD (l' - 1) r < 100 := by
          rw [List.getD_eq_getElem?_getD]
          cases hx : (zlk Rg' r)[l' - 1]? with
          | none => exact h100
          | some x => exact a4 x (List.mem_of_getElem? hx)
        rw [if_pos e2, e1]
  have hzsv : ∀ (ty k i : Nat) (f : Nat → Int32), zsv (fun q => ad (zmq ρ q)) r (zlk Rg' r) ty k i f = zsv ad r2 (zlk Rg r2) ty k i f := by
    intro ty k i f
    funext o
    unfold zsv
    rw [hzrf]
  unfold zce
  rw [show zrf (fun q => ad (zmq ρ q)) r (zlk Rg' r) (zty' Rg r2) k i = zrf ad r2 (zlk Rg r2) (zty' Rg r2) k i from funext fun o => hzrf _ _ _ o, hzsv]
theorem zids_nodup (Rg : List zD) : (zids Rg).Nodup := by
  unfold zids List.Nodup
  rw [List.pairwise_flatMap]
  refine ⟨fun r _ => ?_, ?_⟩
  · rw [List.pairwise_flatMap]
    refine ⟨fun k _ => ?_, ?_⟩
    · rw [List.pairwise_map]
      exact List.nodup_range.imp fun h e => h (congrArg (fun q : zR => q.2.2) e)
    · refine List.nodup_range.imp fun h x hx y hy e => ?_
      obtain ⟨i, -, rfl⟩ := List.mem_map.mp hx
      obtain ⟨j, -, rfl⟩ := List.mem_map.mp hy
      exact h (congrArg (fun q : zR => q.2.1) e)
  · refine List.nodup_range.imp fun h x hx y hy e => ?_
    obtain ⟨k, -, hx⟩ := List.mem_flatMap.mp hx
    obtain ⟨k', -, hy⟩ := List.mem_flatMap.mp hy
    obtain ⟨i, -, rfl⟩ := List.mem_map.mp hx
    obtain ⟨j, -, rfl⟩ := List.mem_map.mp hy
    exact h (congrArg (fun q : zR => q.1) e)
theorem zids_nd {Rg : List zD} {i j : Nat} {q : zR} (hi : (zids Rg)[i]? = some q) (hj : (zids Rg)[j]? = some q) : i = j :=
  (List.getElem?_inj (List.getElem?_eq_some_iff.mp hi).1 (zids_nodup Rg)).mp (hi.trans hj.symm)
/-- the callee's world out of the caller's -/
theorem zc_P {D : va_G} {cA : Nat → ClassId} {ad : zR → Nat} {ρ : List Nat} {Rg Rg' : List zD} {Ms Ms' : List zM} {H : Heap} (h : zRel ρ Rg Rg') (hM : ∀ r, r < Rg'.length → Ms'.getD r zm0 = Ms.getD (ρ.getD r 0) zm0) (hP : va_P D zcl (zwl cA ad Rg Ms) H) : va_P D zcl (zwl cA (fun q => ad (zmq ρ q)) Rg' Ms') H := by
  intro j x hx
  obtain ⟨q, -, hq, rfl⟩ := zw_of hx
  obtain ⟨j2, hj2⟩ := zw_get (cA := cA) (ad := ad) (Ms := Ms) (zmq_in h hq)
  rw [zcq_mq (Ms := Ms) h hq (hM _ hq.1)]
  exact hP j2 _ hj2
theorem zc_D {A : Nat → Prop} {cA : Nat → ClassId} {ad : zR → Nat} {ρ : List Nat} {Rg Rg' : List zD} {Ms : List zM} (Ms' : List zM) (h : zRel ρ Rg Rg') (hD : va_D A (zwl cA ad Rg Ms)) : va_D A (zwl cA (fun q => ad (zmq ρ q)) Rg' Ms') := by
  refine ⟨fun i j p q hi hj hpq => ?_, fun k q hk => ?_⟩
  · obtain ⟨q1, a1, a2, rfl⟩ := zw_of hi
    obtain ⟨q2, b1, b2, rfl⟩ := zw_of hj
    have e0 := zw_inj hD (zmq_in h a2) (zmq_in h b2) hpq
    have e : q1 = q2 := zmq_inj h a2 b2 e0
    subst e
    have f : ∀ (m : Nat), (zids Rg')[m]? = some q1 → (zwl cA (fun q => ad (zmq ρ q)) Rg' Ms')[m]? = some (ad (zmq ρ q1), zcq cA (fun q => ad (zmq ρ q)) Rg' Ms' q1) := fun m hm => by unfold zwl; rw [List.getElem?_map, hm]; rfl
    exact zids_nd a1 b1
  · obtain ⟨q1, a1, a2, rfl⟩ := zw_of hk
    obtain ⟨j2, hj2⟩ := zw_get (cA := cA) (ad := ad) (Ms := Ms) (zmq_in h a2)
    have := hD.2 j2 _ hj2
    exact this
/-- the caller's memories behind the call -/
def zput (ρ : List Nat) (Ms Ms' : List zM) : List zM := (List.range Ms.length).map fun r => match (List.range ρ.length).find? (fun r' => ρ.getD r' 0 == r) with
  | some r' => Ms'.getD r' zm0
  | none => Ms.getD r zm0
theorem zput_hit {ρ : List Nat} {Rg Rg' : List zD} {Ms Ms' : List zM} (h : zRel ρ Rg Rg') (hl : Ms.length = Rg.length) {r' : Nat} (hr : r' < Rg'.length) : (zput ρ Ms Ms').getD (ρ.getD r' 0) zm0 = Ms'.getD r' zm0 := by
  obtain ⟨g1, g2, g3, g4⟩ := h
  unfold zput
  rw [List.getD_eq_getElem?_getD, List.getElem?_map, List.getElem?_range (by rw [hl]; exact (g3 _ hr).1)]
  dsimp only [Option.map_some, Option.getD_some]
  cases hf : (List.range ρ.length).find? (fun r'' => ρ.getD r'' 0 == ρ.getD r' 0) with
  | none =>
    have := List.find?_eq_none.mp hf r' (List.mem_range.mpr (by rw [g2]; exact hr))
    exact absurd (beq_self_eq_true _) this
  | some r2 =>
    have h1 := List.find?_some hf
    have h2 := List.mem_range.mp (List.mem_of_find?_eq_some hf)
    rw [g4 r2 (by rw [← g2]; exact h2) r' hr (by simpa using h1)]
theorem zput_miss {ρ : List Nat} {Ms Ms' : List zM} {r : Nat} (hr : r < Ms.length) (h : ∀ r', r' < ρ.length → ρ.getD r' 0 ≠ r) : (zput ρ Ms Ms').getD r zm0 = Ms.getD r zm0 := by
  unfold zput
  rw [List.getD_eq_getElem?_getD, List.getElem?_map, List.getElem?_range hr]
  dsimp only [Option.map_some, Option.getD_some]
  cases hf : (List.range ρ.length).find? (fun r'' => ρ.getD r'' 0 == r) with
  | none => rfl
  | some r2 =>
    have h1 := List.find?_some hf
    have h2 := List.mem_range.mp (List.mem_of_find?_eq_some hf)
    exact absurd (by simpa using h1) (h r2 h2)
/-- the callee's cells are the caller's -/
theorem zc_A {A : Nat → Prop} {cA : Nat → ClassId} {ad : zR → Nat} {ρ : List Nat} {Rg Rg' : List zD} {Ms Ms' : List zM} {H0 H : Heap} {locs : List Loc} (h : zRel ρ Rg Rg') (hD : va_D A (zwl cA ad Rg Ms)) (hS : va_S A H0 H locs) (hA : ∀ q, H0.size ≤ q → A q) : ∀ q, va_A (zwl cA (fun q => ad (zmq ρ q)) Rg' Ms') H.size q → A q := by
  intro q hq
  rcases hq with ⟨k, e, hk⟩ | hq
  · obtain ⟨q1, -, a2, a3⟩ := zw_of hk
    obtain ⟨j, hj⟩ := zw_get (cA := cA) (ad := ad) (Ms := Ms) (zmq_in h a2)
    have := hD.2 j _ hj
    rw [show q = ad (zmq ρ q1) from congrArg Prod.fst a3]
    exact this
  · exact hA q (Nat.le_trans hS.1 hq)
/-- the caller's world behind the call -/
theorem zc_back {A : Nat → Prop} {D : va_G} {cA : Nat → ClassId} {ad : zR → Nat} {ρ : List Nat} {Rg Rg' : List zD} {Ms Ms' Ms'' : List zM} {H H1 : Heap} (h : zRel ρ Rg Rg') (hl : Ms.length = Rg.length) (hP : va_P D zcl (zwl cA ad Rg Ms) H) (hD : va_D A (zwl cA ad Rg Ms)) (hk : ∀ q : Nat, q < H.size → ¬ va_A (zwl cA (fun q => ad (zmq ρ q)) Rg' Ms') H.size q → H1[q]? = H[q]?) (hP1 : va_P D zcl (zwl cA (fun q => ad (zmq ρ q)) Rg' Ms'') H1) : va_P D zcl (zwl cA ad Rg (zput ρ Ms Ms'')) H1 := by
  intro j x hx
  obtain ⟨q, hq0, hq, rfl⟩ := zw_of hx
  by_cases hex : ∃ r', r' < Rg'.length ∧ ρ.getD r' 0 = q.1
  · obtain ⟨r', hr, e⟩ := hex
    obtain ⟨g1, g2, g3, g4⟩ := id h
    obtain ⟨r, k, i⟩ := q
    dsimp only at e
    have hq' : zin Rg' (r', k, i) := ⟨hr, hq.2.1, by
      have h3 := hq.2.2
      dsimp only at h3 ⊢
      rw [(g3 _ hr).2.1, e]
      exact h3⟩
    have ez : zmq ρ (r', k, i) = (r, k, i) := by
      unfold zmq
      dsimp only
      rw [if_pos (Nat.lt_of_lt_of_le hr g1), e]
    obtain ⟨j2, hj2⟩ := zw_get (cA := cA) (ad := fun q => ad (zmq ρ q)) (Ms := Ms'') hq'
    have hat := hP1 j2 _ hj2
    have e2 := zcq_mq (cA := cA) (ad := ad) (Ms := zput ρ Ms Ms'') (Ms' := Ms'') h hq' (zput_hit h hl hr).symm
    rw [e2, ez] at hat
    exact hat
  · have hmiss : ∀ r', r' < ρ.length → ρ.getD r' 0 ≠ q.1 := fun r' hr e => hex ⟨r', by rw [← h.2.1]; exact hr, e⟩
    obtain ⟨j2, hj2⟩ := zw_get (cA := cA) (ad := ad) (Ms := Ms) hq
    have hat := hP j2 _ hj2
    have hlt : ad q < H.size := hat.lt
    have hna : ¬ va_A (zwl cA (fun q => ad (zmq ρ q)) Rg' Ms') H.size (ad q) := by
      rintro (⟨k, e, hk⟩ | hk)
      · obtain ⟨q1, -, a2, a3⟩ := zw_of hk
        have e0 : q = zmq ρ q1 := zw_inj hD hq (zmq_in h a2) (congrArg Prod.fst a3)
        refine hmiss q1.1 (by rw [h.2.1]; exact a2.1) ?_
        rw [e0]
        unfold zmq
        rw [if_pos (Nat.lt_of_lt_of_le a2.1 h.1)]
      · omega
    have hz : zcq cA ad Rg (zput ρ Ms Ms'') q = zcq cA ad Rg Ms q := by
      unfold zcq
      rw [zput_miss (by rw [hl]; exact hq.1) hmiss]
    rw [hz]
    exact hat.kept (hk _ hlt hna)
/-! what a method does, as its callers see it: at every launch without stack traces, at all addresses -/
def zPc (D : va_G) (cA : Nat → ClassId) (ad : zR → Nat) (Rg : List zD) (as : List zV) (Ms : List zM) (sz : Nat) : Array Value → State → Prop := va_Pc (as.map (zt ad)) fun U =>
  U.heap.size = sz ∧ va_P D zcl (zwl cA ad Rg Ms) U.heap ∧ va_K D zcl (ztl cA) U ∧ va_D (fun _ => True) (zwl cA ad Rg Ms) ∧ zEv ad (va_A (zwl cA ad Rg Ms) sz) U U.heap
def zMet (y : MethodName) (cb : ByteArray) (nB : Nat) (rb : Option FieldType) (fb lb : Nat) (Rg : List zD) (as : List zV) (Ms : List zM) (o : zO) : Prop := ∀ (l : Launch), l.stackTraces = false → ∀ (D : va_G) (cA : Nat → ClassId) (ad : zR → Nat) (sz : Nat), match o.1 with
  | .inl v => Met l y (.code y cb nB rb :: zTg) (zrm fb lb o) (zPc D cA ad Rg as Ms sz) (zQc D cA ad (va_A (zwl cA ad Rg Ms) sz) Rg v o.2) 0 0 (va_A (zwl cA ad Rg Ms) sz)
  | .inr E => vx_Met l y (.code y cb nB rb :: zTg) (zrm fb lb o) (zPc D cA ad Rg as Ms sz) zNo (zXc D cA ad (va_A (zwl cA ad Rg Ms) sz) Rg E o.2) 1 6 (va_A (zwl cA ad Rg Ms) sz)
theorem zPc_blind {D : va_G} {cA : Nat → ClassId} {ad : zR → Nat} {Rg : List zD} {as : List zV} {Ms : List zM} {sz : Nat} : FrameBlind (zPc D cA ad Rg as Ms sz) := by
  rintro a U g mk ⟨q0, q1, q2, q3, q4, q5⟩
  exact ⟨q0, q1, q2, va_K.moved (u := U) (U := U.calling g mk a) (Vm.Alike.refl U.vm) q3, q4, zEv.same (s := U) (U := U.calling g mk a) rfl q5⟩
def zls (as : List zV) (nL : Nat) : List (Option zV) := as.flatMap (fun v => if zcat v = 2 then [some v, none] else [some v]) ++ List.replicate (nL - (as.flatMap fun v => if zcat v = 2 then [some v, none] else [some v]).length) none
end
section
/-! ===== calls: the rows ===== -/
section ZCR
variable {p : Program} {l : Launch} {e : Env} {R : Room} {s : State} {m : MethodId} {args : Array Value} {below : List Frame} {meth : Method} {c : Code} {H : Heap} {locs : List Loc} {Q : State → Prop}
variable {D : va_G} {cA : Nat → ClassId} {ad' : zR → Nat} {A0 A1 : Nat → Prop} {Rg' : List zD} {Ms'' : List zM} {H0 : Heap} {pc : Nat} {ls : Array Slot} {st0 rest : List Value} {free : Addr → Prop} {a : Array Value}
theorem zx_ret {v : Option zV} (hr : va_Run p l e R s m args below meth c H locs 0 0 0 0 (F0 m pc ls st0) rest (zQc D cA ad' A1 Rg' v Ms'' a) free) (hS : va_S A0 H0 H locs) (hA : ∀ q, q < H.size → A1 q → A0 q) (hf : ∀ q, free q → A0 q)
    (kk : ∀ (H1 : Heap) (locs1 : List Loc), va_P D zcl (zwl cA ad' Rg' Ms'') H1 → (∀ q : Nat, q < H.size → ¬ A1 q → H1[q]? = H[q]?) → va_S A0 H0 H1 locs1 → W p l e R s m args below meth c H1 locs1 0 0 Q (F0 m (pc + 3) ls ((v.map (zt ad')).toList ++ rest))) : W p l e R s m args below meth c H locs 0 0 Q (F0 m pc ls st0) := by
  intro T hT X
  obtain ⟨w, st₀, t, T', L, h0, X', hL, e1, e2, ⟨hv, hP1, hF⟩, st⟩ := hr T hT X
  cases hv
  obtain ⟨k1, k2, k3⟩ := vx_keep h0 e1 hS hA hf hL hF
  obtain ⟨t2, a1, b1⟩ := kk T'.heap (locs ++ L) (by rw [e1]; exact hP1) k2 k3 T' rfl X'
  exact ⟨t2, st t2 a1, b1⟩
theorem zx_thr {E : String} (hr : vx_Run p l e R s m args below meth c H locs 0 0 1 6 (F0 m pc ls st0) rest (zNo a) (zXc D cA ad' A1 Rg' E Ms'') free) (hS : va_S A0 H0 H locs) (hA : ∀ q, q < H.size → A1 q → A0 q) (hf : ∀ q, free q → A0 q)
    (kk : ∀ (ce : Cell) (q9 : Addr) (H1 : Heap) (locs1 : List Loc), va_P D zcl (zwl cA ad' Rg' Ms'') H1 → (∀ q : Nat, q < H.size → ¬ A1 q → H1[q]? = H[q]?) → va_S A0 H0 H1 locs1 → H1[q9]? = some ce → ce.vm = .none → s.vm.findClass E = some ce.cls → vx_W p l e R s m args below meth c H1 locs1 1 6 Q (F0 m pc ls rest) q9) : W p l e R s m args below meth c H locs 0 0 Q (F0 m pc ls st0) := by
  intro T hT X
  rcases hr T hT X with ⟨w, st₀, t, T', L, h0, X', hL, e1, e2, hno, st⟩ | ⟨q, st₀, t, T', L, E', ce, h0, X', hL, e1, e2, ⟨rfl, hP1, hF⟩, hce, hcv, hcl, st⟩
  · exact hno.elim
  · obtain ⟨k1, k2, k3⟩ := vx_keep h0 e1 hS hA hf hL hF
    obtain ⟨t2, a1, b1⟩ := kk ce q T'.heap (locs ++ L) (by rw [e1]; exact hP1) k2 k3 (by rw [e1]; exact hce) hcv hcl T' rfl X'
    exact ⟨t2, st.trans a1, b1⟩
end ZCR
theorem zgood {ws : List Cond} (h : ∀ w ∈ ws, w ∈ zTg) : GoodIn zTg ws := fun w hw => ⟨h w hw, good_of_word (List.mem_filter.mp (h w hw)).2⟩
theorem zrm_c0 {fr lo : Nat} {o : zO} {v : Option zV} (h : o.1 = .inl v) : (zrm fr lo o).cells = 0 ∧ (zrm fr lo o).slots = 0 := by unfold zrm; rw [h]; exact ⟨rfl, rfl⟩
theorem zrm_c1 {fr lo : Nat} {o : zO} {E : String} (h : o.1 = .inr E) : (zrm fr lo o).cells = 1 ∧ (zrm fr lo o).slots = 6 := by unfold zrm; rw [h]; exact ⟨rfl, rfl⟩
theorem zgetD_map {ρ : List Nat} {Ms : List zM} {r n : Nat} (hn : ρ.length = n) (h : r < n) : (ρ.map fun r => Ms.getD r zm0).getD r zm0 = Ms.getD (ρ.getD r 0) zm0 := by
  subst hn
  rw [List.getD_eq_getElem?_getD, List.getElem?_map, List.getElem?_eq_getElem h, List.getD_eq_getElem?_getD (l := ρ), List.getElem?_eq_getElem h]
  rfl
/-- what is asked of every call -/
def zCall (fr lo fb lb nB : Nat) (st : List zV) (ρ : List Nat) (Rg Rg' : List zD) (Ms Ms' : List zM) : Prop :=
  zRel ρ Rg Rg' ∧ Ms.length = Rg.length ∧ Ms' = ρ.map (fun r => Ms.getD r zm0) ∧ zcs st ≤ 8 ∧ fb + 1 ≤ fr ∧ 8 + (nB + 11) + lb ≤ lo
section ZZC
variable {X : zX} {cc : ByteArray} {nL : Nat} {own : String} {ret : Option FieldType} {Rg Rg' : List zD} {fr lo pc : Nat} {L : List (Option zV)} {st S as : List zV} {Ms Ms' : List zM} {α : Type} {x : Option α} {κ : α → Option zO} {toO : α → zO}
variable {y : MethodName} {cb : ByteArray} {nB fb lb idx n : Nat} {rb : Option FieldType} {C : String} {ρ : List Nat}
theorem zz_callV (F : zFr X cc nL own ret) {r0 k0 i0 ci nf N : Nat} {T : u_T} (hC : ∀ a, x = some a → zMet y cb nB rb fb lb Rg' (zr r0 k0 i0 :: as) Ms' (toO a)) (hd : decode cc pc = .ok (.invokevirtual idx, 3))
    (hw : Cond.methodLink own idx y ∈ zTg ∧ Cond.instanceMethod y ∈ zTg ∧ Cond.selects C y y ∈ zTg ∧ Cond.initialized C ∈ zTg ∧ Cond.code y cb nB rb ∈ zTg) (hy : y.cls = C ∧ y.cls ≠ "java/lang/invoke/MethodHandle" ∧ y.cls ≠ "java/lang/invoke/VarHandle" ∧ (parseMethodDescriptor y.desc).map (fun d => d.parameters.length) = some n) (hn : as.length = n)
    (hcall : zCall fr lo fb lb nB st ρ Rg Rg' Ms Ms') (hin0 : zin Rg' (r0, k0, i0)) (hsh : (zsh (zty' Rg' r0) k0).2 = .inl (ci, nf)) (hci : zcl[ci]? = some (C, T, N)) (hS0 : S = (as.map (zmv ρ)).reverse ++ zmv ρ (zr r0 k0 i0) :: st)
    (kk : ∀ a, x = some a → match (toO a).1 with
      | .inl v => zZ X Rg fr lo nL (pc + 3) L ((v.map (zmv ρ)).toList ++ st) (zput ρ Ms (toO a).2) (κ a)
      | .inr E => κ a = some (.inr E, zput ρ Ms (toO a).2)) : zZ X Rg fr lo nL pc L S Ms (Option.bind x κ) := by
  obtain ⟨p, l, e, s, m, args, below, meth, c, D, cA, ad, A⟩ := X
  obtain ⟨hx, hb, hml, hown, hts, hlk, hK, hA, hE, htr, hex, hret⟩ := F
  obtain ⟨hrel, hlen, hMs, hcs, hfr, hlo⟩ := hcall
  intro o ho H locs ls hl hP hD hS
  cases hxa : x with
  | none => rw [hxa] at ho; cases ho
  | some a =>
    rw [hxa] at ho
    have ho : κ a = some o := ho
    have hk := kk a hxa
    have hM := hC a hxa l htr D cA (fun q => ad (zmq ρ q)) H.size
    have hM1 : ∀ r, r < Rg'.length → Ms'.getD r zm0 = Ms.getD (ρ.getD r 0) zm0 := fun r hr => by rw [hMs]; exact zgetD_map hrel.2.1 hr
    have hP' := zc_P (D := D) (cA := cA) (ad := ad) hrel hM1 hP
    have hD' := zc_D (cA := cA) (ad := ad) Ms' hrel hD
    have hAA := zc_A (Ms' := Ms') (ad := ad) hrel hD hS hA
    have hW8 : 2 * 0 + ((st.map (zt ad)).map fun v => v.category).sum ≤ 8 := by rw [zcs_t]; omega
    have hstk : S.map (zt ad) = (as.map (zt fun q => ad (zmq ρ q))).reverse ++ .ref (ad (zmq ρ (r0, k0, i0))) :: st.map (zt ad) := by
      rw [hS0, List.map_append, List.map_cons, zt_mvs, List.map_reverse]
      rfl
    have hG : GoodIn zTg (wsV own idx C y (.code y cb nB rb :: zTg)) := zgood fun w hw' => by
      obtain ⟨w1, w2, w3, w4, w5⟩ := hw
      unfold wsV at hw'
      rcases List.mem_append.mp hw' with h | h
      · simp only [List.mem_cons, List.not_mem_nil, or_false] at h
        rcases h with rfl | rfl | rfl | rfl <;> assumption
      · rcases List.mem_cons.mp h with rfl | h
        · exact w5
        · exact h
    obtain ⟨j0, hj0⟩ := zw_get (cA := cA) (ad := fun q => ad (zmq ρ q)) (Ms := Ms') hin0
    unfold zcq zce at hj0
    dsimp only at hj0
    rw [hsh] at hj0
    have hpre : ∀ U : State, U.heap = H → s.WarmedH U.vm → zPc D cA (fun q => ad (zmq ρ q)) Rg' (zr r0 k0 i0 :: as) Ms' H.size (Value.ref (ad (zmq ρ (r0, k0, i0))) :: as.map (zt fun q => ad (zmq ρ q))).toArray U := fun U hU hW =>
      ⟨rfl, by rw [hU], by rw [hU]; exact hP', va_K.moved hW.alike hK, hD'.weaken fun _ _ _ _ => trivial, by
        rw [hU]
        exact zEv.warm hW ((hE.kept hS.2.1).narrow hAA fun j => by unfold zmq; dsimp only; rw [if_neg (by omega)])⟩
    cases h1 : (toO a).1 with
    | inl v =>
      rw [h1] at hk hM
      dsimp only at hk hM
      rw [hstk]
      refine zx_ret (va_runV (As := as.map (zt fun q => ad (zmq ρ q))) (rest := st.map (zt ad)) ⟨hx, hb, hml, hown, hts⟩ hM (cwV n hts hG rfl (zrm_c0 h1).1 (zrm_c0 h1).2 hy (by rw [zrm_f, zrm_f, zrm_l, zrm_l]; exact ⟨hfr, hlo⟩)) ⟨zPc_blind, va_recv hK hP' hci hj0, hpre⟩ rfl (by rw [List.length_map]; exact hn) hl.1 rfl hW8 hd ⟨Nat.zero_le _, Nat.zero_le _⟩) hS (fun q _ h => hAA q h) hAA fun H1 locs1 hP1 hk1 hS1 => ?_
      have h2 := hk o ho H1 locs1 ls hl (zc_back hrel hlen hP hD hk1 hP1) (zw_D _ hD) hS1
      rw [show (v.map (zt fun q => ad (zmq ρ q))).toList ++ st.map (zt ad) = ((v.map (zmv ρ)).toList ++ st).map (zt ad) by
        cases v with
        | none => rfl
        | some v => exact congrArg (· :: st.map (zt ad)) (zt_mv ad ρ v)]
      exact h2
    | inr E =>
      rw [h1] at hk hM
      dsimp only at hk hM
      rw [hstk]
      rw [hk] at ho
      cases ho
      refine zx_thr (vx_runV (As := as.map (zt fun q => ad (zmq ρ q))) (rest := st.map (zt ad)) ⟨hx, hb, hml, hown, hts⟩ hM (cwV n hts hG rfl (zrm_c1 h1).1 (zrm_c1 h1).2 hy (by rw [zrm_f, zrm_f, zrm_l, zrm_l]; exact ⟨hfr, hlo⟩)) ⟨zPc_blind, va_recv hK hP' hci hj0, hpre⟩ rfl (by rw [List.length_map]; exact hn) hl.1 rfl hW8 hd ⟨Nat.le_refl 1, Nat.le_refl 6⟩) hS (fun q _ h => hAA q h) hAA fun ce q9 H1 locs1 hP1 hk1 hS1 hce hcv hcl => ?_
      exact vx_out (fun x hx => (hex x hx).elim) hlk hce hcv hcl (fun t ht _ => ⟨rfl, by rw [ht]; exact zc_back hrel hlen hP hD hk1 hP1, hS1.F ht⟩) hS1.2.2 (Nat.le_refl _) (Nat.le_refl _)
theorem zz_callS (F : zFr X cc nL own ret) (hC : ∀ a, x = some a → zMet y cb nB rb fb lb Rg' as Ms' (toO a)) (hd : decode cc pc = .ok (.invokestatic idx, 3))
    (hw : Cond.methodLink own idx y ∈ zTg ∧ Cond.static y ∈ zTg ∧ Cond.initialized y.cls ∈ zTg ∧ Cond.code y cb nB rb ∈ zTg) (hy : y.cls ≠ "java/lang/invoke/MethodHandle" ∧ y.cls ≠ "java/lang/invoke/VarHandle" ∧ (parseMethodDescriptor y.desc).map (fun d => d.parameters.length) = some n) (hn : as.length = n)
    (hcall : zCall fr lo fb lb nB st ρ Rg Rg' Ms Ms') (hS0 : S = (as.map (zmv ρ)).reverse ++ st)
    (kk : ∀ a, x = some a → match (toO a).1 with
      | .inl v => zZ X Rg fr lo nL (pc + 3) L ((v.map (zmv ρ)).toList ++ st) (zput ρ Ms (toO a).2) (κ a)
      | .inr E => κ a = some (.inr E, zput ρ Ms (toO a).2)) : zZ X Rg fr lo nL pc L S Ms (Option.bind x κ) := by
  obtain ⟨p, l, e, s, m, args, below, meth, c, D, cA, ad, A⟩ := X
  obtain ⟨hx, hb, hml, hown, hts, hlk, hK, hA, hE, htr, hex, hret⟩ := F
  obtain ⟨hrel, hlen, hMs, hcs, hfr, hlo⟩ := hcall
  intro o ho H locs ls hl hP hD hS
  cases hxa : x with
  | none => rw [hxa] at ho; cases ho
  | some a =>
    rw [hxa] at ho
    have ho : κ a = some o := ho
    have hk := kk a hxa
    have hM := hC a hxa l htr D cA (fun q => ad (zmq ρ q)) H.size
    have hM1 : ∀ r, r < Rg'.length → Ms'.getD r zm0 = Ms.getD (ρ.getD r 0) zm0 := fun r hr => by rw [hMs]; exact zgetD_map hrel.2.1 hr
    have hP' := zc_P (D := D) (cA := cA) (ad := ad) hrel hM1 hP
    have hD' := zc_D (cA := cA) (ad := ad) Ms' hrel hD
    have hAA := zc_A (Ms' := Ms') (ad := ad) hrel hD hS hA
    have hW8 : 2 * 0 + ((st.map (zt ad)).map fun v => v.category).sum ≤ 8 := by rw [zcs_t]; omega
    have hstk : S.map (zt ad) = (as.map (zt fun q => ad (zmq ρ q))).reverse ++ st.map (zt ad) := by
      rw [hS0, List.map_append, zt_mvs, List.map_reverse]
    have hG : GoodIn zTg (va_wsS own idx y (.code y cb nB rb :: zTg)) := zgood fun w hw' => by
      obtain ⟨w1, w2, w3, w5⟩ := hw
      unfold va_wsS at hw'
      rcases List.mem_append.mp hw' with h | h
      · simp only [List.mem_cons, List.not_mem_nil, or_false] at h
        rcases h with rfl | rfl | rfl <;> assumption
      · rcases List.mem_cons.mp h with rfl | h
        · exact w5
        · exact h
    have hpre : ∀ U : State, U.heap = H → s.WarmedH U.vm → zPc D cA (fun q => ad (zmq ρ q)) Rg' as Ms' H.size (as.map (zt fun q => ad (zmq ρ q))).toArray U := fun U hU hW =>
      ⟨rfl, by rw [hU], by rw [hU]; exact hP', va_K.moved hW.alike hK, hD'.weaken fun _ _ _ _ => trivial, by
        rw [hU]
        exact zEv.warm hW ((hE.kept hS.2.1).narrow hAA fun j => by unfold zmq; dsimp only; rw [if_neg (by omega)])⟩
    cases h1 : (toO a).1 with
    | inl v =>
      rw [h1] at hk hM
      dsimp only at hk hM
      rw [hstk]
      refine zx_ret (va_runS (As := as.map (zt fun q => ad (zmq ρ q))) (rest := st.map (zt ad)) ⟨hx, hb, hml, hown, hts⟩ hM (va_cwS n hts hG rfl (zrm_c0 h1).1 (zrm_c0 h1).2 hy (by rw [zrm_f, zrm_f, zrm_l, zrm_l]; exact ⟨hfr, hlo⟩)) ⟨zPc_blind, hpre⟩ rfl (by rw [List.length_map]; exact hn) hl.1 rfl hW8 hd ⟨Nat.zero_le _, Nat.zero_le _⟩) hS (fun q _ h => hAA q h) hAA fun H1 locs1 hP1 hk1 hS1 => ?_
      have h2 := hk o ho H1 locs1 ls hl (zc_back hrel hlen hP hD hk1 hP1) (zw_D _ hD) hS1
      rw [show (v.map (zt fun q => ad (zmq ρ q))).toList ++ st.map (zt ad) = ((v.map (zmv ρ)).toList ++ st).map (zt ad) by
        cases v with
        | none => rfl
        | some v => exact congrArg (· :: st.map (zt ad)) (zt_mv ad ρ v)]
      exact h2
    | inr E =>
      rw [h1] at hk hM
      dsimp only at hk hM
      rw [hstk]
      rw [hk] at ho
      cases ho
      refine zx_thr (vx_runS (As := as.map (zt fun q => ad (zmq ρ q))) (rest := st.map (zt ad)) ⟨hx, hb, hml, hown, hts⟩ hM (va_cwS n hts hG rfl (zrm_c1 h1).1 (zrm_c1 h1).2 hy (by rw [zrm_f, zrm_f, zrm_l, zrm_l]; exact ⟨hfr, hlo⟩)) ⟨zPc_blind, hpre⟩ rfl (by rw [List.length_map]; exact hn) hl.1 rfl hW8 hd ⟨Nat.le_refl 1, Nat.le_refl 6⟩) hS (fun q _ h => hAA q h) hAA fun ce q9 H1 locs1 hP1 hk1 hS1 hce hcv hcl => ?_
      exact vx_out (fun x hx => (hex x hx).elim) hlk hce hcv hcl (fun t ht _ => ⟨rfl, by rw [ht]; exact zc_back hrel hlen hP hD hk1 hP1, hS1.F ht⟩) hS1.2.2 (Nat.le_refl _) (Nat.le_refl _)
/-- a static method of a nest mate, that returns -/
theorem zz_callSN (F : zFr X cc nL own ret) {host : String} (hC : ∀ a, x = some a → zMet y cb nB rb fb lb Rg' as Ms' (toO a)) (hd : decode cc pc = .ok (.invokestatic idx, 3))
    (hw : Cond.methodLinkNest own idx y host ∈ zNws ∧ Cond.static y ∈ zTg ∧ Cond.initialized y.cls ∈ zTg ∧ Cond.code y cb nB rb ∈ zTg) (hy : y.cls ≠ "java/lang/invoke/MethodHandle" ∧ y.cls ≠ "java/lang/invoke/VarHandle" ∧ (parseMethodDescriptor y.desc).map (fun d => d.parameters.length) = some n) (hn : as.length = n)
    (hcall : zCall fr lo fb lb nB st ρ Rg Rg' Ms Ms') (hS0 : S = (as.map (zmv ρ)).reverse ++ st)
    (kk : ∀ a, x = some a → ∃ v, (toO a).1 = .inl v ∧ zZ X Rg fr lo nL (pc + 3) L ((v.map (zmv ρ)).toList ++ st) (zput ρ Ms (toO a).2) (κ a)) : zZ X Rg fr lo nL pc L S Ms (Option.bind x κ) := by
  obtain ⟨p, l, e, s, m, args, below, meth, c, D, cA, ad, A⟩ := X
  obtain ⟨hx, hb, hml, hown, hts, hlk, hK, hA, hE, htr, hex, hret⟩ := F
  obtain ⟨hrel, hlen, hMs, hcs, hfr, hlo⟩ := hcall
  intro o ho H locs ls hl hP hD hS
  cases hxa : x with
  | none => rw [hxa] at ho; cases ho
  | some a =>
    rw [hxa] at ho
    have ho : κ a = some o := ho
    obtain ⟨v, h1, hk⟩ := kk a hxa
    have hM := hC a hxa l htr D cA (fun q => ad (zmq ρ q)) H.size
    have hM1 : ∀ r, r < Rg'.length → Ms'.getD r zm0 = Ms.getD (ρ.getD r 0) zm0 := fun r hr => by rw [hMs]; exact zgetD_map hrel.2.1 hr
    have hP' := zc_P (D := D) (cA := cA) (ad := ad) hrel hM1 hP
    have hD' := zc_D (cA := cA) (ad := ad) Ms' hrel hD
    have hAA := zc_A (Ms' := Ms') (ad := ad) hrel hD hS hA
    have hW8 : 2 * 0 + ((st.map (zt ad)).map fun v => v.category).sum ≤ 8 := by rw [zcs_t]; omega
    have hstk : S.map (zt ad) = (as.map (zt fun q => ad (zmq ρ q))).reverse ++ st.map (zt ad) := by
      rw [hS0, List.map_append, zt_mvs, List.map_reverse]
    have hG : GoodIn zTg (.code y cb nB rb :: zTg) := zgood fun w hw' => by
      rcases List.mem_cons.mp hw' with rfl | h
      · exact hw.2.2.2
      · exact h
    have hpre : ∀ U : State, U.heap = H → s.WarmedH U.vm → zPc D cA (fun q => ad (zmq ρ q)) Rg' as Ms' H.size (as.map (zt fun q => ad (zmq ρ q))).toArray U := fun U hU hW =>
      ⟨rfl, by rw [hU], by rw [hU]; exact hP', va_K.moved hW.alike hK, hD'.weaken fun _ _ _ _ => trivial, by
        rw [hU]
        exact zEv.warm hW ((hE.kept hS.2.1).narrow hAA fun j => by unfold zmq; dsimp only; rw [if_neg (by omega)])⟩
    rw [h1] at hM
    dsimp only at hM
    rw [hstk]
    refine zx_ret (va_runSN (As := as.map (zt fun q => ad (zmq ρ q))) (rest := st.map (zt ad)) ⟨hx, hb, hml, hown, hts⟩ hM ⟨va_cnB n hts hG rfl (zrm_c0 h1).1 (zrm_c0 h1).2 (hE.2.2.1 _ hw.1) (hts _ hw.2.2.1) hy (by rw [zrm_f, zrm_f, zrm_l, zrm_l]; exact ⟨hfr, hlo⟩), hts _ hw.2.1, trivial⟩ ⟨zPc_blind, hpre⟩ rfl (by rw [List.length_map]; exact hn) hl.1 rfl hW8 hd ⟨Nat.zero_le _, Nat.zero_le _⟩) hS (fun q _ h => hAA q h) hAA fun H1 locs1 hP1 hk1 hS1 => ?_
    have h2 := hk o ho H1 locs1 ls hl (zc_back hrel hlen hP hD hk1 hP1) (zw_D _ hD) hS1
    rw [show (v.map (zt fun q => ad (zmq ρ q))).toList ++ st.map (zt ad) = ((v.map (zmv ρ)).toList ++ st).map (zt ad) by
      cases v with
      | none => rfl
      | some v => exact congrArg (· :: st.map (zt ad)) (zt_mv ad ρ v)]
    exact h2
end ZZC
/-! a method's contract out of its body -/
def zlf (as : List zV) : List (Option zV) := as.flatMap fun v => if zcat v = 2 then [some v, none] else [some v]
theorem zlf_at (ad : zR → Nat) : ∀ (as : List zV) (k : Nat) (v : zV), (zlf as)[k]? = some (some v) → (lg_sl (as.map (zt ad)))[k]? = some (.val (zt ad v))
  | [], k, v, h => by cases h
  | a :: as, k, v, h => by
    have ih := zlf_at ad as
    unfold zlf lg_sl at *
    rw [List.flatMap_cons] at h
    rw [List.map_cons, List.flatMap_cons, zcat_t]
    by_cases hc : zcat a = 2
    · rw [if_pos hc] at h ⊢
      match k, h with
      | 0, h => cases h; rfl
      | 1, h => cases h
      | k + 2, h => exact ih k v h
    · rw [if_neg hc] at h ⊢
      match k, h with
      | 0, h => cases h; rfl
      | k + 1, h => exact ih k v h
theorem zMet_of {y : MethodName} {cb : ByteArray} {nB fb lb : Nat} {rb : Option FieldType} {Rg : List zD} {as : List zV} {Ms : List zM} {o : zO} {φ : Option zO} {L0 : List (Option zV)} (hy : plainName y.cls = true) (hsz : ∀ ad : zR → Nat, (lg_sl (as.map (zt ad))).length ≤ nB) (hL0 : ∀ (k : Nat) (v : zV), L0[k]? = some (some v) → (zlf as)[k]? = some (some v))
    (body : ∀ X : zX, zFr X cb nB y.cls rb → zZ X Rg fb lb nB 0 L0 [] Ms φ) (ho : φ = some o) : zMet y cb nB rb fb lb Rg as Ms o := by
  intro l htr D cA ad sz
  have key : ∀ p e s m args below meth c s₁, BodyLoose p l y (headSpec (.code y cb nB rb :: zTg) (zrm fb lb o)) cb nB rb e s m args below meth c s₁ → c.maxLocals = nB → zPc D cA ad Rg as Ms sz args s →
      W p l e (zrm fb lb o) s m args below meth c s.heap [] 0 0 (zQ (p, l, e, s, m, args, below, meth, c, D, cA, ad, va_A (zwl cA ad Rg Ms) sz) Rg o) (entryFrame m args nB) := by
    intro p e s m args below meth c s₁ B hml hv
    obtain ⟨rfl, hsz0, hP, hK, hD, hE⟩ := hv
    have hts := atoms_spec (ws := .code y cb nB rb :: zTg) B.pre
    have hex : ∀ x ∈ c.exceptionTable.toList, False := by
      obtain ⟨meth9, c9, h1, h2, -, -, -, -, h7, -⟩ := Cond.code_spec B.named (hts _ List.mem_cons_self)
      cases Option.some.inj (h1.symm.trans B.method)
      cases Option.some.inj (h2.symm.trans (Stand.of_body B).code)
      intro x hx
      rw [Array.isEmpty_iff.mp h7] at hx
      cases hx
    have F : zFr (p, l, e, s, m, (as.map (zt ad)).toArray, below, meth, c, D, cA, ad, va_A (zwl cA ad Rg Ms) sz) cb nB y.cls rb :=
      ⟨B.exec, B.bytes, hml, findClass_of_methodNamed B.named, fun w hw => hts w (List.mem_cons_of_mem _ hw), B.notSynchronized, hK, fun q h => Or.inr (by rw [← hsz0]; exact h), hE, htr, hex, B.returns⟩
    have hl := lv_entry (as.map (zt ad)) (n := nB) (hsz ad)
    rw [lg_entry_eq]
    refine body _ F o ho s.heap [] _ ⟨hl.1, hl.2.1, fun k v hk => ?_⟩ hP hD.self va_S.rf
    have h3 := zlf_at ad as k v (hL0 k v hk)
    have h4 := (List.getElem?_eq_some_iff.mp h3).1
    rw [List.getElem?_toArray, List.getElem?_append_left h4]
    exact h3
  cases h1 : o.1 with
  | inl v =>
    refine Met.ofW (cc := cb) (maxL := nB) (ret := rb) hy rfl ?_
    intro p e s m args below meth c s₁ B hml hv
    have h := key p e s m args below meth c s₁ B hml hv
    unfold zQ at h
    rw [h1] at h
    exact h
  | inr E =>
    refine vx_ofW (cc := cb) (maxL := nB) (ret := rb) hy rfl ?_
    intro p e s m args below meth c s₁ B hml _ hv
    have h := key p e s m args below meth c s₁ B hml hv
    unfold zQ at h
    rw [h1] at h
    exact h
end
section
/-! ===== calls as the program writes them ===== -/
section ZZD
variable {X : zX} {cc : ByteArray} {nL : Nat} {own : String} {ret : Option FieldType} {Rg Rg' : List zD} {fr lo pc : Nat} {L : List (Option zV)} {st S as : List zV} {Ms Ms' : List zM} {α β : Type} {x : Option α} {κ : α → Option zO}
variable {y : MethodName} {cb : ByteArray} {nB fb lb idx n : Nat} {rb : Option FieldType} {C : String} {ρ : List Nat}
variable {vo : α → Option zV} {mo : α → List zM} {so : α → List zV} {Mo : α → List zM}
theorem zz_callVr (F : zFr X cc nL own ret) {r0 k0 i0 ci nf N : Nat} {T : u_T} (hC : ∀ a, x = some a → zMet y cb nB rb fb lb Rg' (zr r0 k0 i0 :: as) Ms' (.inl (vo a), mo a)) (hd : decode cc pc = .ok (.invokevirtual idx, 3))
    (hw : Cond.methodLink own idx y ∈ zTg ∧ Cond.instanceMethod y ∈ zTg ∧ Cond.selects C y y ∈ zTg ∧ Cond.initialized C ∈ zTg ∧ Cond.code y cb nB rb ∈ zTg) (hy : y.cls = C ∧ y.cls ≠ "java/lang/invoke/MethodHandle" ∧ y.cls ≠ "java/lang/invoke/VarHandle" ∧ (parseMethodDescriptor y.desc).map (fun d => d.parameters.length) = some n) (hn : as.length = n)
    (hcall : zCall fr lo fb lb nB st ρ Rg Rg' Ms Ms') (hin0 : zin Rg' (r0, k0, i0)) (hsh : (zsh (zty' Rg' r0) k0).2 = .inl (ci, nf)) (hci : zcl[ci]? = some (C, T, N)) (hS0 : S = (as.map (zmv ρ)).reverse ++ zmv ρ (zr r0 k0 i0) :: st)
    (hso : ∀ a, ((vo a).map (zmv ρ)).toList ++ st = so a) (hMo : ∀ a, zput ρ Ms (mo a) = Mo a) (kk : ∀ a, zZ X Rg fr lo nL (pc + 3) L (so a) (Mo a) (κ a)) : zZ X Rg fr lo nL pc L S Ms (Option.bind x κ) :=
  zz_callV (toO := fun a => (.inl (vo a), mo a)) F hC hd hw hy hn hcall hin0 hsh hci hS0 fun a _ => by
    show zZ X Rg fr lo nL (pc + 3) L (((vo a).map (zmv ρ)).toList ++ st) (zput ρ Ms (mo a)) (κ a)
    rw [hso, hMo]
    exact kk a
theorem zz_callSr (F : zFr X cc nL own ret) (hC : ∀ a, x = some a → zMet y cb nB rb fb lb Rg' as Ms' (.inl (vo a), mo a)) (hd : decode cc pc = .ok (.invokestatic idx, 3))
    (hw : Cond.methodLink own idx y ∈ zTg ∧ Cond.static y ∈ zTg ∧ Cond.initialized y.cls ∈ zTg ∧ Cond.code y cb nB rb ∈ zTg) (hy : y.cls ≠ "java/lang/invoke/MethodHandle" ∧ y.cls ≠ "java/lang/invoke/VarHandle" ∧ (parseMethodDescriptor y.desc).map (fun d => d.parameters.length) = some n) (hn : as.length = n)
    (hcall : zCall fr lo fb lb nB st ρ Rg Rg' Ms Ms') (hS0 : S = (as.map (zmv ρ)).reverse ++ st)
    (hso : ∀ a, ((vo a).map (zmv ρ)).toList ++ st = so a) (hMo : ∀ a, zput ρ Ms (mo a) = Mo a) (kk : ∀ a, zZ X Rg fr lo nL (pc + 3) L (so a) (Mo a) (κ a)) : zZ X Rg fr lo nL pc L S Ms (Option.bind x κ) :=
  zz_callS (toO := fun a => (.inl (vo a), mo a)) F hC hd hw hy hn hcall hS0 fun a _ => by
    show zZ X Rg fr lo nL (pc + 3) L (((vo a).map (zmv ρ)).toList ++ st) (zput ρ Ms (mo a)) (κ a)
    rw [hso, hMo]
    exact kk a
theorem zz_callSNr (F : zFr X cc nL own ret) {host : String} (hC : ∀ a, x = some a → zMet y cb nB rb fb lb Rg' as Ms' (.inl (vo a), mo a)) (hd : decode cc pc = .ok (.invokestatic idx, 3))
    (hw : Cond.methodLinkNest own idx y host ∈ zNws ∧ Cond.static y ∈ zTg ∧ Cond.initialized y.cls ∈ zTg ∧ Cond.code y cb nB rb ∈ zTg) (hy : y.cls ≠ "java/lang/invoke/MethodHandle" ∧ y.cls ≠ "java/lang/invoke/VarHandle" ∧ (parseMethodDescriptor y.desc).map (fun d => d.parameters.length) = some n) (hn : as.length = n)
    (hcall : zCall fr lo fb lb nB st ρ Rg Rg' Ms Ms') (hS0 : S = (as.map (zmv ρ)).reverse ++ st)
    (hso : ∀ a, ((vo a).map (zmv ρ)).toList ++ st = so a) (hMo : ∀ a, zput ρ Ms (mo a) = Mo a) (kk : ∀ a, zZ X Rg fr lo nL (pc + 3) L (so a) (Mo a) (κ a)) : zZ X Rg fr lo nL pc L S Ms (Option.bind x κ) :=
  zz_callSN (toO := fun a => (.inl (vo a), mo a)) F hC hd hw hy hn hcall hS0 fun a _ => ⟨vo a, rfl, by
    show zZ X Rg fr lo nL (pc + 3) L (((vo a).map (zmv ρ)).toList ++ st) (zput ρ Ms (mo a)) (κ a)
    rw [hso, hMo]
    exact kk a⟩
/-! callees that may throw -/
def zts (vo : α → Option zV) (mo : α → List zM) (eo : β → String) (xo : β → List zM) : α ⊕ β → zO
  | .inl a => (.inl (vo a), mo a)
  | .inr b => (.inr (eo b), xo b)
variable {z : Option (α ⊕ β)} {κz : α ⊕ β → Option zO} {eo : β → String} {xo Xo : β → List zM}
theorem zz_callVx (F : zFr X cc nL own ret) {r0 k0 i0 ci nf N : Nat} {T : u_T} (hC : ∀ a, z = some a → zMet y cb nB rb fb lb Rg' (zr r0 k0 i0 :: as) Ms' (zts vo mo eo xo a)) (hd : decode cc pc = .ok (.invokevirtual idx, 3))
    (hw : Cond.methodLink own idx y ∈ zTg ∧ Cond.instanceMethod y ∈ zTg ∧ Cond.selects C y y ∈ zTg ∧ Cond.initialized C ∈ zTg ∧ Cond.code y cb nB rb ∈ zTg) (hy : y.cls = C ∧ y.cls ≠ "java/lang/invoke/MethodHandle" ∧ y.cls ≠ "java/lang/invoke/VarHandle" ∧ (parseMethodDescriptor y.desc).map (fun d => d.parameters.length) = some n) (hn : as.length = n)
    (hcall : zCall fr lo fb lb nB st ρ Rg Rg' Ms Ms') (hin0 : zin Rg' (r0, k0, i0)) (hsh : (zsh (zty' Rg' r0) k0).2 = .inl (ci, nf)) (hci : zcl[ci]? = some (C, T, N)) (hS0 : S = (as.map (zmv ρ)).reverse ++ zmv ρ (zr r0 k0 i0) :: st)
    (hso : ∀ a, ((vo a).map (zmv ρ)).toList ++ st = so a) (hMo : ∀ a, zput ρ Ms (mo a) = Mo a) (hXo : ∀ b, zput ρ Ms (xo b) = Xo b) (kx : ∀ b, κz (.inr b) = some (.inr (eo b), Xo b)) (kk : ∀ a, zZ X Rg fr lo nL (pc + 3) L (so a) (Mo a) (κz (.inl a))) : zZ X Rg fr lo nL pc L S Ms (Option.bind z κz) :=
  zz_callV (toO := zts vo mo eo xo) F hC hd hw hy hn hcall hin0 hsh hci hS0 fun a _ => by
    rcases a with a | b
    · show zZ X Rg fr lo nL (pc + 3) L (((vo a).map (zmv ρ)).toList ++ st) (zput ρ Ms (mo a)) (κz (.inl a))
      rw [hso, hMo]
      exact kk a
    · show κz (.inr b) = some (.inr (eo b), zput ρ Ms (xo b))
      rw [hXo]
      exact kx b
theorem zz_callSx (F : zFr X cc nL own ret) (hC : ∀ a, z = some a → zMet y cb nB rb fb lb Rg' as Ms' (zts vo mo eo xo a)) (hd : decode cc pc = .ok (.invokestatic idx, 3))
    (hw : Cond.methodLink own idx y ∈ zTg ∧ Cond.static y ∈ zTg ∧ Cond.initialized y.cls ∈ zTg ∧ Cond.code y cb nB rb ∈ zTg) (hy : y.cls ≠ "java/lang/invoke/MethodHandle" ∧ y.cls ≠ "java/lang/invoke/VarHandle" ∧ (parseMethodDescriptor y.desc).map (fun d => d.parameters.length) = some n) (hn : as.length = n)
    (hcall : zCall fr lo fb lb nB st ρ Rg Rg' Ms Ms') (hS0 : S = (as.map (zmv ρ)).reverse ++ st)
    (hso : ∀ a, ((vo a).map (zmv ρ)).toList ++ st = so a) (hMo : ∀ a, zput ρ Ms (mo a) = Mo a) (hXo : ∀ b, zput ρ Ms (xo b) = Xo b) (kx : ∀ b, κz (.inr b) = some (.inr (eo b), Xo b)) (kk : ∀ a, zZ X Rg fr lo nL (pc + 3) L (so a) (Mo a) (κz (.inl a))) : zZ X Rg fr lo nL pc L S Ms (Option.bind z κz) :=
  zz_callS (toO := zts vo mo eo xo) F hC hd hw hy hn hcall hS0 fun a _ => by
    rcases a with a | b
    · show zZ X Rg fr lo nL (pc + 3) L (((vo a).map (zmv ρ)).toList ++ st) (zput ρ Ms (mo a)) (κz (.inl a))
      rw [hso, hMo]
      exact kk a
    · show κz (.inr b) = some (.inr (eo b), zput ρ Ms (xo b))
      rw [hXo]
      exact kx b
end ZZD
section ZZJ
variable {X : zX} {cc : ByteArray} {nL : Nat} {own : String} {ret : Option FieldType} {Rg : List zD} {fr lo pc pj : Nat} {L : List (Option zV)} {st : List zV} {Ms : List zM} {φ : Option zO} {α β : Type}
/-- two ways that meet at pj -/
theorem zz_join {x : Option α} {f : α → Option β} {κ : β → Option zO} {Lj : α → List (Option zV)} {Sj : α → List zV} {Mj : α → List zM} (hj : ∀ a, zZ X Rg fr lo nL pj (Lj a) (Sj a) (Mj a) (Option.bind (f a) κ)) (k : ∀ κ' : α → Option zO, (∀ a, zZ X Rg fr lo nL pj (Lj a) (Sj a) (Mj a) (κ' a)) → zZ X Rg fr lo nL pc L st Ms (Option.bind x κ')) : zZ X Rg fr lo nL pc L st Ms (Option.bind (Option.bind x f) κ) :=
  zz_bind (k _ hj)
theorem zz_zret (F : zFr X cc nL own ret) {x : Int32} (hd : decode cc pc = .ok (.ireturn, 1)) (hr : ret = some .boolean) (hφ : φ = some (.inl (some (zi (x &&& 1))), Ms)) : zZ X Rg fr lo nL pc L [zi x] Ms φ := by
  obtain ⟨p, l, e, s, m, args, below, meth, c, D, cA, ad, A⟩ := X
  obtain ⟨hx, hb, hml, hown, hts, hlk, hK, hA, hE, htr, hex, hret⟩ := F
  intro o ho H locs ls hl hP hD hS
  rw [hφ] at ho
  cases ho
  intro T hT X
  have hr0 : meth.sig.returnType = some .boolean := hret.trans hr
  obtain ⟨fs, hret9, hrun, hended, hW, hframe⟩ := X.leave (v := some (.int (x &&& 1))) (fun h => by rw [hr0] at h; cases h) (hlocks := hlk)
  have hmeth' : T.vm.method? m = some meth := X.method'
  refine ⟨T.setFrames fs, ?_, .returned (some (.int (x &&& 1))), hrun, hended, ⟨rfl, by rw [show (T.setFrames fs).heap = H from hT]; exact hP, hS.F hT⟩, locs, ⟨⟨_, rfl⟩, hW, hframe⟩, hS.2.2⟩
  jvm_step X.here [X.here.top, hx, hb, hd, hmeth', hr0, narrow]
  refine ⟨x, [], ⟨rfl, rfl⟩, ?_⟩
  first | (intro acts; rw [hret9 _ acts rfl rfl rfl]) | rw [hret9 _ _ rfl rfl rfl]
  exact Steps.refl _
end ZZJ
theorem zl0 {L0 : List (Option zV)} {as : List zV} (n : Nat) (h : L0 = zlf as ++ List.replicate n none) : ∀ (k : Nat) (v : zV), L0[k]? = some (some v) → (zlf as)[k]? = some (some v) := by
  intro k v hk
  subst h
  rcases Nat.lt_or_ge k (zlf as).length with q | q
  · rw [List.getElem?_append_left q] at hk
    exact hk
  · rw [List.getElem?_append_right q] at hk
    have := List.mem_of_getElem? hk
    rw [List.mem_replicate] at this
    cases this.2
section ZZK
variable {X : zX} {nL : Nat} {Rg : List zD} {fr lo pc pj : Nat} {L : List (Option zV)} {st : List zV} {Ms : List zM} {α β ρ : Type}
/-- two ways that meet at pj, or end ahead of it -/
theorem zz_joinE {x : Option (α ⊕ ρ)} {f : α → Option β} {g : ρ → Option β} {κ : β → Option zO} {Lj : α → List (Option zV)} {Sj : α → List zV} {Mj : α → List zM} (hj : ∀ a, zZ X Rg fr lo nL pj (Lj a) (Sj a) (Mj a) (Option.bind (f a) κ)) (k : ∀ κ' : α ⊕ ρ → Option zO, (∀ a, zZ X Rg fr lo nL pj (Lj a) (Sj a) (Mj a) (κ' (.inl a))) → (∀ r, κ' (.inr r) = Option.bind (g r) κ) → zZ X Rg fr lo nL pc L st Ms (Option.bind x κ')) : zZ X Rg fr lo nL pc L st Ms (Option.bind (Option.bind x (Sum.elim f g)) κ) :=
  zz_bind (k (fun a => Option.bind (Sum.elim f g a) κ) hj fun _ => rfl)
end ZZK
end
section
theorem zCl_0 : zCl 0 := by
  intro q hq
  cases hq
  exact ⟨by decide +kernel, ⟨tyX0, tyX0_ok⟩, nmX0⟩
theorem zCl_1 : zCl 1 := by
  intro q hq
  cases hq
  exact ⟨by decide +kernel, ⟨tyX1, tyX1_ok⟩, nmX1⟩
theorem zCl_2 : zCl 2 := by
  intro q hq
  cases hq
  exact ⟨by decide +kernel, ⟨tyX2, tyX2_ok⟩, nmX2⟩
theorem zCl_3 : zCl 3 := by
  intro q hq
  cases hq
  exact ⟨by decide +kernel, ⟨tyX3, tyX3_ok⟩, nmX3⟩
theorem zCl_4 : zCl 4 := by
  intro q hq
  cases hq
  exact ⟨by decide +kernel, ⟨tyX4, tyX4_ok⟩, nmX4⟩
theorem zCl_5 : zCl 5 := by
  intro q hq
  cases hq
  exact ⟨by decide +kernel, ⟨tyX5, tyX5_ok⟩, nmX5⟩
theorem zCl_6 : zCl 6 := by
  intro q hq
  cases hq
  exact ⟨by decide +kernel, ⟨tyX6, tyX6_ok⟩, nmX6⟩
theorem zCl_7 : zCl 7 := by
  intro q hq
  cases hq
  exact ⟨by decide +kernel, ⟨tyX8, tyX8_ok⟩, nmX8⟩
theorem zCl_8 : zCl 8 := by
  intro q hq
  cases hq
  exact ⟨by decide +kernel, ⟨tyX9, tyX9_ok⟩, nmX9⟩
theorem zCl_9 : zCl 9 := by
  intro q hq
  cases hq
  exact ⟨by decide +kernel, ⟨tyX10, tyX10_ok⟩, nmX10⟩
theorem zCl_10 : zCl 10 := by
  intro q hq
  cases hq
  exact ⟨by decide +kernel, ⟨tyX11, tyX11_ok⟩, nmX11⟩
end
section
/-! ===== methods that make things: worlds as lists of cells ===== -/
theorem va_AOA.moved {ty : FieldType} {u U : State} (hvm : u.vm.Alike U.vm) (h : va_AOA ty u) : va_AOA ty U := Jvm.Stand.arrayOver_alikeB hvm h
/-- the words of arrays of references -/
def zAr (s : State) : Prop := (∀ C ∈ zao, va_AO C s) ∧ (∀ ty ∈ zaa, va_AOA ty s) ∧ ∀ q ∈ znc, va_Nc q.1 q.2 s
theorem zAr.moved {s U : State} (hvm : s.vm.Alike U.vm) (h : zAr s) : zAr U := ⟨fun C hC => (h.1 C hC).moved hvm, fun ty hty => (h.2.1 ty hty).moved hvm, fun q hq => (h.2.2 q hq).moved hvm⟩
/-- a class id by its name is one -/
theorem zcls_eq {s : State} {n : String} {a b : ClassId} (h1 : s.vm.findClass n = some a) (h2 : s.vm.findClass n = some b) : a = b := Option.some.inj (h1.symm.trans h2)
theorem va_P_perm {D : va_G} {cl : List vw_C} {ws ws' : va_W} {H : Heap} (h : va_P D cl ws H) (hs : ∀ x ∈ ws', x ∈ ws) : va_P D cl ws' H := by
  intro k q hk
  obtain ⟨j, hj⟩ := List.getElem?_of_mem (hs q (List.mem_of_getElem? hk))
  exact h j q hj
def zNq (D : va_G) (A : Nat → Prop) (B : Option Value → va_W → Prop) : Array Value → State → Outcome → State → Prop := fun _ st oc t =>
  ∃ v, oc = .returned v ∧ (∃ ws, B v ws ∧ va_P D zcl ws t.heap ∧ va_D A ws) ∧ va_F A st t
/-- a frame whose world is a list of cells -/
def zLr (X : zX) (cc : ByteArray) (nL : Nat) (own : String) : Prop := match X with
  | (p, l, e, s, m, args, below, meth, c, D, cA, ad, A) => (p.tables.exec = Jvm.exec ∧ c.code = cc ∧ c.maxLocals = nL ∧ s.vm.findClass own = some m.cls ∧ (∀ w ∈ zTg, w.before args s = true) ∧ meth.locks = false ∧ va_K D zcl (ztl cA) s ∧ (∀ q : Nat, s.heap.size ≤ q → A q) ∧ zEv ad A s s.heap ∧ l.stackTraces = false) ∧ zAr s
def zIn (X : zX) : Prop := match X with
  | (p, l, e, s, m, args, below, meth, c, D, cA, ad, A) => meth.name = "<init>"
def zRt (X : zX) (ret : Option FieldType) : Prop := match X with
  | (p, l, e, s, m, args, below, meth, c, D, cA, ad, A) => meth.sig.returnType = ret
def zNQ (X : zX) (mc ms : Nat) (B : Option Value → va_W → Prop) : State → Prop := match X with
  | (p, l, e, s, m, args, below, meth, c, D, cA, ad, A) => MQ below (zNq D A B) args s mc ms A
def zN (X : zX) (mc ms fr lo : Nat) (B : State → Prop) (nL pc : Nat) (lv : List (Nat × Value)) (st : List Value) (ws : va_W) (ck sk : Nat) : Prop := match X with
  | (p, l, e, s, m, args, below, meth, c, D, cA, ad, A) => ∀ (H : Heap) (locs : List Loc) (ls : Array Slot), lv_has ls nL lv → va_P D zcl ws H → va_D A ws → va_S A s.heap H locs →
      W p l e { frames := fr, cells := mc, slots := ms, locals := lo } s m args below meth c H locs ck sk B (F0 m pc ls st)
section ZN
variable {X : zX} {cc : ByteArray} {nL : Nat} {own : String} {mc ms fr lo pc ck sk : Nat} {B : State → Prop} {lv lv' : List (Nat × Value)} {st : List Value} {ws ws' : va_W}
theorem zn_aload_n (F : zLr X cc nL own) {j : Fin 4} {i x k : Nat} (hd : decode cc pc = .ok (.aload_n j, 1)) (hi : (j : Nat) = i) (hL : lv[k]? = some (i, .ref x)) (kk : zN X mc ms fr lo B nL (pc + 1) lv (.ref x :: st) ws ck sk) : zN X mc ms fr lo B nL pc lv st ws ck sk := by
  obtain ⟨p, l, e, s, m, args, below, meth, c, D, cA, ad, A⟩ := X
  obtain ⟨⟨hx, hb, hml, hown, hts, hlk, hK, hA, hE, htr⟩, hAr⟩ := F
  exact fun H locs ls hl hP hD hS => lv_aload_n hx hb hd hi (lv_at hl k hL) (kk H locs ls hl hP hD hS)
theorem zn_iload_n (F : zLr X cc nL own) {j : Fin 4} {i k : Nat} {x : Int32} (hd : decode cc pc = .ok (.iload_n j, 1)) (hi : (j : Nat) = i) (hL : lv[k]? = some (i, .int x)) (kk : zN X mc ms fr lo B nL (pc + 1) lv (.int x :: st) ws ck sk) : zN X mc ms fr lo B nL pc lv st ws ck sk := by
  obtain ⟨p, l, e, s, m, args, below, meth, c, D, cA, ad, A⟩ := X
  obtain ⟨⟨hx, hb, hml, hown, hts, hlk, hK, hA, hE, htr⟩, hAr⟩ := F
  exact fun H locs ls hl hP hD hS => lv_iload_n hx hb hd hi (lv_at hl k hL) (kk H locs ls hl hP hD hS)
theorem zn_iconst (F : zLr X cc nL own) {n : Int} {v : Int32} (hd : decode cc pc = .ok (.iconst n, 1)) (hv : Int32.ofInt n = v) (kk : zN X mc ms fr lo B nL (pc + 1) lv (.int v :: st) ws ck sk) : zN X mc ms fr lo B nL pc lv st ws ck sk := by
  obtain ⟨p, l, e, s, m, args, below, meth, c, D, cA, ad, A⟩ := X
  obtain ⟨⟨hx, hb, hml, hown, hts, hlk, hK, hA, hE, htr⟩, hAr⟩ := F
  exact fun H locs ls hl hP hD hS => lv_iconst hx hb hd hv (kk H locs ls hl hP hD hS)
theorem zn_bipush (F : zLr X cc nL own) {n : Int} {v : Int32} (hd : decode cc pc = .ok (.bipush n, 2)) (hv : (Int8.ofInt n).toInt32 = v) (kk : zN X mc ms fr lo B nL (pc + 2) lv (.int v :: st) ws ck sk) : zN X mc ms fr lo B nL pc lv st ws ck sk := by
  obtain ⟨p, l, e, s, m, args, below, meth, c, D, cA, ad, A⟩ := X
  obtain ⟨⟨hx, hb, hml, hown, hts, hlk, hK, hA, hE, htr⟩, hAr⟩ := F
  exact fun H locs ls hl hP hD hS => lv_bipush hx hb hd hv (kk H locs ls hl hP hD hS)
theorem zn_sipush (F : zLr X cc nL own) {n : Int} {v : Int32} (hd : decode cc pc = .ok (.sipush n, 3)) (hv : (Int16.ofInt n).toInt32 = v) (kk : zN X mc ms fr lo B nL (pc + 3) lv (.int v :: st) ws ck sk) : zN X mc ms fr lo B nL pc lv st ws ck sk := by
  obtain ⟨p, l, e, s, m, args, below, meth, c, D, cA, ad, A⟩ := X
  obtain ⟨⟨hx, hb, hml, hown, hts, hlk, hK, hA, hE, htr⟩, hAr⟩ := F
  exact fun H locs ls hl hP hD hS => lv_sipush hx hb hd hv (kk H locs ls hl hP hD hS)
theorem zn_dup (F : zLr X cc nL own) {v : Value} (hd : decode cc pc = .ok (.dup, 1)) (hv : v.category = 1) (kk : zN X mc ms fr lo B nL (pc + 1) lv (v :: v :: st) ws ck sk) : zN X mc ms fr lo B nL pc lv (v :: st) ws ck sk := by
  obtain ⟨p, l, e, s, m, args, below, meth, c, D, cA, ad, A⟩ := X
  obtain ⟨⟨hx, hb, hml, hown, hts, hlk, hK, hA, hE, htr⟩, hAr⟩ := F
  exact fun H locs ls hl hP hD hS => lv_dup hx hb hd hv (kk H locs ls hl hP hD hS)
theorem zn_goto (F : zLr X cc nL own) {off : Int} {tgt : Nat} (hd : decode cc pc = .ok (.goto off, 3)) (ht : (pc : Int) + off = (tgt : Int)) (kk : zN X mc ms fr lo B nL tgt lv st ws ck sk) : zN X mc ms fr lo B nL pc lv st ws ck sk := by
  obtain ⟨p, l, e, s, m, args, below, meth, c, D, cA, ad, A⟩ := X
  obtain ⟨⟨hx, hb, hml, hown, hts, hlk, hK, hA, hE, htr⟩, hAr⟩ := F
  exact fun H locs ls hl hP hD hS => lv_goto hx hb hd ht (kk H locs ls hl hP hD hS)
theorem zn_ge_t (F : zLr X cc nL own) {x y : Int32} {off : Int} {tgt : Nat} (hd : decode cc pc = .ok (.if_icmp .ge off, 3)) (ht : (pc : Int) + off = (tgt : Int)) (h : y ≤ x) (kk : zN X mc ms fr lo B nL tgt lv st ws ck sk) : zN X mc ms fr lo B nL pc lv (.int y :: .int x :: st) ws ck sk := by
  obtain ⟨p, l, e, s, m, args, below, meth, c, D, cA, ad, A⟩ := X
  obtain ⟨⟨hx, hb, hml, hown, hts, hlk, hK, hA, hE, htr⟩, hAr⟩ := F
  exact fun H locs ls hl hP hD hS => lv_icmp_ge hx hb hd ht (fun _ => kk H locs ls hl hP hD hS) (fun q => absurd h q)
theorem zn_ge_f (F : zLr X cc nL own) {x y : Int32} {off : Int} {tgt : Nat} (hd : decode cc pc = .ok (.if_icmp .ge off, 3)) (ht : (pc : Int) + off = (tgt : Int)) (h : ¬ y ≤ x) (kk : zN X mc ms fr lo B nL (pc + 3) lv st ws ck sk) : zN X mc ms fr lo B nL pc lv (.int y :: .int x :: st) ws ck sk := by
  obtain ⟨p, l, e, s, m, args, below, meth, c, D, cA, ad, A⟩ := X
  obtain ⟨⟨hx, hb, hml, hown, hts, hlk, hK, hA, hE, htr⟩, hAr⟩ := F
  exact fun H locs ls hl hP hD hS => lv_icmp_ge hx hb hd ht (fun q => absurd q h) (fun _ => kk H locs ls hl hP hD hS)
theorem zn_istore_n (F : zLr X cc nL own) {j : Fin 4} {i : Nat} {x : Int32} (hd : decode cc pc = .ok (.istore_n j, 1)) (hi : (j : Nat) = i) (hn : i < nL) (hL : (i, Value.int x) :: lv.filter (fun q => !(q.1 == i) && !(q.1 + 1 == i && q.2.category == 2)) = lv') (kk : zN X mc ms fr lo B nL (pc + 1) lv' st ws ck sk) : zN X mc ms fr lo B nL pc lv (.int x :: st) ws ck sk := by
  obtain ⟨p, l, e, s, m, args, below, meth, c, D, cA, ad, A⟩ := X
  obtain ⟨⟨hx, hb, hml, hown, hts, hlk, hK, hA, hE, htr⟩, hAr⟩ := F
  exact fun H locs ls hl hP hD hS => lv_istore_n hx hb hd hi hl hn hL fun ls' h' => kk H locs ls' h' hP hD hS
theorem zn_iinc (F : zLr X cc nL own) {i k : Nat} {n : Int} {x v : Int32} (hd : decode cc pc = .ok (.iinc i n, 3)) (hk : lv[k]? = some (i, .int x)) (hv : x + Int32.ofInt n = v) (hn : i < nL) (hL : (i, Value.int v) :: lv.filter (fun q => !(q.1 == i) && !(q.1 + 1 == i && q.2.category == 2)) = lv') (kk : zN X mc ms fr lo B nL (pc + 3) lv' st ws ck sk) : zN X mc ms fr lo B nL pc lv st ws ck sk := by
  obtain ⟨p, l, e, s, m, args, below, meth, c, D, cA, ad, A⟩ := X
  obtain ⟨⟨hx, hb, hml, hown, hts, hlk, hK, hA, hE, htr⟩, hAr⟩ := F
  exact fun H locs ls hl hP hD hS => lv_iinc hx hb hd hl hk hv hn hL fun ls' h' => kk H locs ls' h' hP hD hS
theorem zn_obj (F : zLr X cc nL own) {idx a : Nat} (hd : decode cc pc = .ok (.invokespecial idx, 3)) (hw : Cond.methodLink own idx Lib.objectInit ∈ zTg ∧ Cond.instanceMethod Lib.objectInit ∈ zTg ∧ Cond.code Lib.objectInit ⟨#[0xb1]⟩ 1 none ∈ zTg) (hfr : 1 ≤ fr) (hlo : (st.map fun v => v.category).sum + 12 ≤ lo) (kk : zN X mc ms fr lo B nL (pc + 3) lv st ws ck sk) : zN X mc ms fr lo B nL pc lv (.ref a :: st) ws ck sk := by
  obtain ⟨p, l, e, s, m, args, below, meth, c, D, cA, ad, A⟩ := X
  obtain ⟨⟨hx, hb, hml, hown, hts, hlk, hK, hA, hE, htr⟩, hAr⟩ := F
  exact fun H locs ls hl hP hD hS => W.objInit hx hb hown (hts _ hw.1) (hts _ hw.2.1) (hts _ hw.2.2) (g := F0 m pc ls (.ref a :: st)) rfl (hl.1.trans hml.symm) rfl hd hfr (by show 2 * 0 + _ + 12 ≤ lo; omega) (kk H locs ls hl hP hD hS)
/-- an int field that isn't final -/
theorem zn_put (F : zLr X cc nL own) {idx ci q a j : Nat} {fs : List Value} {x : Int32} (hd : decode cc pc = .ok (.putfield idx, 3)) (hf : zFw own idx ci q .int) (hcl : zCl ci) (he : ws[j]? = some (a, .inr (ci, fs))) (hq : q < fs.length) (hws : ws.set j (a, .inr (ci, fs.set q (.int x))) = ws') (kk : zN X mc ms fr lo B nL (pc + 3) lv st ws' ck sk) : zN X mc ms fr lo B nL pc lv (.int x :: .ref a :: st) ws ck sk := by
  obtain ⟨p, l, e, s, m, args, below, meth, c, D, cA, ad, A⟩ := X
  obtain ⟨⟨hx, hb, hml, hown, hts, hlk, hK, hA, hE, htr⟩, hAr⟩ := F
  subst hws
  obtain ⟨Q, hQ, hqn, hlink, hfin, hdsc⟩ := hf
  obtain ⟨hc1, ⟨ty0, hc2⟩, hc3⟩ := hcl Q hQ
  exact fun H locs ls hl hP hD hS => va_put hx hb hts hc1 ty0 hc2 hc3 hown hK hP hD hS j he hQ q hqn (hts _ hlink) (fun _ h => h) hfin (v := .int x) hdsc rfl rfl hq hd fun H1 locs1 hP1 hD1 hS1 => kk H1 locs1 ls hl hP1 hD1 hS1
/-- a final field of references -/
theorem zn_putF (F : zLr X cc nL own) (hin : zIn X) {idx ci q a j b : Nat} {fs : List Value} {ty : FieldType} (hd : decode cc pc = .ok (.putfield idx, 3)) (hf : ∃ Q : vw_C, zcl[ci]? = some Q ∧ q < Q.2.2 ∧ Cond.fieldLink own idx (Q.2.1 q).1 (Q.2.1 q).2.1 (Q.2.1 q).2.2.1 ∈ zTg ∧ (Q.2.1 q).2.2.2 = true ∧ (Q.2.1 q).1 = own ∧ parseFieldDescriptor (Q.2.1 q).2.2.1 = some ty) (hty : narrow ty (.ref b) = .ref b ∧ fits ty (.ref b) = true) (hcl : zCl ci) (he : ws[j]? = some (a, .inr (ci, fs))) (hq : q < fs.length) (hws : ws.set j (a, .inr (ci, fs.set q (.ref b))) = ws') (kk : zN X mc ms fr lo B nL (pc + 3) lv st ws' ck sk) : zN X mc ms fr lo B nL pc lv (.ref b :: .ref a :: st) ws ck sk := by
  obtain ⟨p, l, e, s, m, args, below, meth, c, D, cA, ad, A⟩ := X
  obtain ⟨⟨hx, hb, hml, hown, hts, hlk, hK, hA, hE, htr⟩, hAr⟩ := F
  subst hws
  obtain ⟨Q, hQ, hqn, hlink, hfin, hdc, hdsc⟩ := hf
  obtain ⟨hc1, ⟨ty0, hc2⟩, hc3⟩ := hcl Q hQ
  exact fun H locs ls hl hP hD hS => va_putF hx hb hts hc1 ty0 hc2 hc3 hown hK hP hD hS j he hQ q hqn (hts _ hlink) (fun _ h => h) hfin hin hdc (v := .ref b) hdsc hty.1 hty.2 hq hd fun H1 locs1 hP1 hD1 hS1 => kk H1 locs1 ls hl hP1 hD1 hS1
theorem zn_get (F : zLr X cc nL own) {idx ci q a j : Nat} {fs : List Value} {v : Value} (hd : decode cc pc = .ok (.getfield idx, 3)) (hf : zFl own idx ci q) (hcl : zCl ci) (he : ws[j]? = some (a, .inr (ci, fs))) (hv : fs[q]? = some v) (kk : zN X mc ms fr lo B nL (pc + 3) lv (v :: st) ws ck sk) : zN X mc ms fr lo B nL pc lv (.ref a :: st) ws ck sk := by
  obtain ⟨p, l, e, s, m, args, below, meth, c, D, cA, ad, A⟩ := X
  obtain ⟨⟨hx, hb, hml, hown, hts, hlk, hK, hA, hE, htr⟩, hAr⟩ := F
  obtain ⟨Q, hQ, hqn, hlink⟩ := hf
  exact fun H locs ls hl hP hD hS => va_get hx hb hts (hcl Q hQ).1 hown hK hP j he hQ q hqn (hts _ hlink) (fun _ h => h) hv hd (kk H locs ls hl hP hD hS)
theorem zn_newa (F : zLr X cc nL own) {n : Int32} {N : Nat} (hd : decode cc pc = .ok (.newarray .int, 2)) (hw : Cond.arrayClass .int ∈ zTg) (hn : ¬ n < 0) (hN : n.toNatClampNeg = N) (hb4 : N * 4 ≤ 536870912) (hck : ck + 1 ≤ mc) (hsk : sk + N ≤ ms) (kk : ∀ q : Nat, zN X mc ms fr lo B nL (pc + 2) lv (.ref q :: st) (ws ++ [(q, .inl (X.2.2.2.2.2.2.2.2.2.2.1 0, N, .inl (fun _ => 0)))]) (ck + 1) (sk + N)) : zN X mc ms fr lo B nL pc lv (.int n :: st) ws ck sk := by
  obtain ⟨p, l, e, s, m, args, below, meth, c, D, cA, ad, A⟩ := X
  obtain ⟨⟨hx, hb, hml, hown, hts, hlk, hK, hA, hE, htr⟩, hAr⟩ := F
  intro H locs ls hl hP hD hS
  refine va_newa hx hb (atype := .int) (hts _ hw) (ty := .int) rfl hK hP hD hS hA (a0 := (N, .inl (fun _ => 0))) (fun _ => rfl) hn hN hb4 hck hsk hd fun q cA' H1 hK1 hP1 hD1 hS1 => ?_
  have e1 : s.vm.findClass ("[" ++ FieldType.int.toString) = some (cA 0) := (hK.2 0 _ (ztl_at (by decide))).2
  have e2 : s.vm.findClass ("[" ++ FieldType.int.toString) = some cA' := (hK1.2 (ztl cA).length (cA', .int) (by rw [List.getElem?_append_right (Nat.le_refl _), Nat.sub_self]; rfl)).2
  cases zcls_eq e1 e2
  exact kk q H1 locs ls hl hP1 hD1 hS1
theorem zn_anewa (F : zLr X cc nL own) {n : Int32} {N idx j : Nat} {C : String} (hd : decode cc pc = .ok (.anewarray idx, 3)) (hw : Cond.classLink own idx C ∈ zTg) (hC : C ∈ zao) (hj : j < zTn) (hty : zty j = .object C) (hn : ¬ n < 0) (hN : n.toNatClampNeg = N) (hb4 : N * 4 ≤ 536870912) (hck : ck + 1 ≤ mc) (hsk : sk + N ≤ ms) (kk : ∀ q : Nat, zN X mc ms fr lo B nL (pc + 3) lv (.ref q :: st) (ws ++ [(q, .inl (X.2.2.2.2.2.2.2.2.2.2.1 j, N, .inr (.inr (.inr (.inr (fun _ => none))))))]) (ck + 1) (sk + N)) : zN X mc ms fr lo B nL pc lv (.int n :: st) ws ck sk := by
  obtain ⟨p, l, e, s, m, args, below, meth, c, D, cA, ad, A⟩ := X
  obtain ⟨⟨hx, hb, hml, hown, hts, hlk, hK, hA, hE, htr⟩, hAr⟩ := F
  intro H locs ls hl hP hD hS
  refine va_newq hx hb hown (hts _ hw) (hAr.1 C hC) hK hP hD hS hA hn hN hb4 hck hsk hd fun q cA' H1 hK1 hP1 hD1 hS1 => ?_
  have e1 := (hK.2 j _ (ztl_at hj)).2
  rw [hty] at e1
  obtain ⟨kA, comp, -, -, -, e1⟩ := e1
  obtain ⟨kA2, comp2, -, -, -, e2⟩ := (hK1.2 (ztl cA).length (cA', .object C) (by rw [List.getElem?_append_right (Nat.le_refl _), Nat.sub_self]; rfl)).2
  cases zcls_eq e1 e2
  exact kk q H1 locs ls hl hP1 hD1 hS1
theorem zn_new (F : zLr X cc nL own) {idx ci N : Nat} {C : String} {T : u_T} {fs : List Value} {ty : Nat → FieldType} (hd : decode cc pc = .ok (.new idx, 3)) (hc : zcl[ci]? = some (C, T, N)) (hcl : zCl ci) (hty : ∀ k, k < N → parseFieldDescriptor (T k).2.2.1 = some (ty k)) (hw : Cond.classLink own idx C ∈ zTg ∧ Cond.instantiable C N ∈ zTg ∧ Cond.initialized C ∈ zTg) (hfs : ∀ j, j < N → defaultValue (ty j) = vp_V fs j) (hck : ck + 1 ≤ mc) (hsk : sk + N ≤ ms) (kk : ∀ q : Nat, zN X mc ms fr lo B nL (pc + 3) lv (.ref q :: st) (ws ++ [(q, .inr (ci, fs))]) (ck + 1) (sk + N)) : zN X mc ms fr lo B nL pc lv st ws ck sk := by
  obtain ⟨p, l, e, s, m, args, below, meth, c, D, cA, ad, A⟩ := X
  obtain ⟨⟨hx, hb, hml, hown, hts, hlk, hK, hA, hE, htr⟩, hAr⟩ := F
  intro H locs ls hl hP hD hS
  exact va_new hx hb hts (hcl _ hc).1 ty hty hown (hts _ hw.1) (hts _ hw.2.1) (hts _ hw.2.2) hK hP hD hS hA hc hfs hck hsk hd fun q H1 hP1 hD1 hS1 => kk q H1 locs ls hl hP1 hD1 hS1
theorem zn_aast (F : zLr X cc nL own) {a v q0 qk ci N t n : Nat} {C : String} {T : u_T} {vs : List Value} {f : Nat → Option Nat} {i : Int32} {jn : Nat} (hd : decode cc pc = .ok (.aastore, 1)) (ha : ws[q0]? = some (a, .inl (X.2.2.2.2.2.2.2.2.2.2.1 t, n, .inr (.inr (.inr (.inr f)))))) (ht : t < zTn) (hty : zty t = .object C) (hv : ws[qk]? = some (v, .inr (ci, vs))) (hc : zcl[ci]? = some (C, T, N)) (hin0 : vp_in i n) (hjn : i.toNatClampNeg = jn) (hws : ws.set q0 (a, .inl (X.2.2.2.2.2.2.2.2.2.2.1 t, n, .inr (.inr (.inr (.inr (va_up f jn (some v))))))) = ws') (kk : zN X mc ms fr lo B nL (pc + 1) lv st ws' ck sk) : zN X mc ms fr lo B nL pc lv (.ref v :: .int i :: .ref a :: st) ws ck sk := by
  obtain ⟨p, l, e, s, m, args, below, meth, c, D, cA, ad, A⟩ := X
  obtain ⟨⟨hx, hb, hml, hown, hts, hlk, hK, hA, hE, htr⟩, hAr⟩ := F
  subst hjn; subst hws
  intro H locs ls hl hP hD hS
  exact va_astq hx hb hK hP hD hS q0 t qk ci ha (by rw [ztl_at ht, hty]) hv hc hin0 hd fun H1 locs1 hP1 hD1 hS1 => kk H1 locs1 ls hl hP1 hD1 hS1
theorem zn_iast (F : zLr X cc nL own) {a q0 n : Nat} {f : Nat → Int32} {i x : Int32} {jn : Nat} (hd : decode cc pc = .ok (.iastore, 1)) (ha : ws[q0]? = some (a, .inl (X.2.2.2.2.2.2.2.2.2.2.1 0, n, .inl f))) (hin0 : vp_in i n) (hjn : i.toNatClampNeg = jn) (hws : ws.set q0 (a, .inl (X.2.2.2.2.2.2.2.2.2.2.1 0, n, .inl (upd f jn x))) = ws') (kk : zN X mc ms fr lo B nL (pc + 1) lv st ws' ck sk) : zN X mc ms fr lo B nL pc lv (.int x :: .int i :: .ref a :: st) ws ck sk := by
  obtain ⟨p, l, e, s, m, args, below, meth, c, D, cA, ad, A⟩ := X
  obtain ⟨⟨hx, hb, hml, hown, hts, hlk, hK, hA, hE, htr⟩, hAr⟩ := F
  subst hjn; subst hws
  intro H locs ls hl hP hD hS
  exact va_iast hx hb hK hP hD hS q0 0 ha (ztl_at (by decide)) hin0 hd fun H1 locs1 hP1 hD1 hS1 => kk H1 locs1 ls hl hP1 hD1 hS1
/-- the cells in another order, or fewer -/
theorem zn_sub (is : List Nat) (hs : is.map (fun i => ws[i]?) = ws'.map some) (hn : va_nd is = true) (kk : zN X mc ms fr lo B nL pc lv st ws' ck sk) : zN X mc ms fr lo B nL pc lv st ws ck sk := by
  obtain ⟨p, l, e, s, m, args, below, meth, c, D, cA, ad, A⟩ := X
  refine fun H locs ls hl hP hD hS => kk H locs ls hl (va_P_perm hP fun x hx => ?_) (hD.sub is hn hs) hS
  have h1 : some x ∈ ws'.map some := List.mem_map.mpr ⟨x, hx, rfl⟩
  rw [← hs] at h1
  obtain ⟨i, -, hi⟩ := List.mem_map.mp h1
  exact List.mem_of_getElem? hi
theorem zn_ret (F : zLr X cc nL own) (hr : zRt X none) {Bo : Option Value → va_W → Prop} (hd : decode cc pc = .ok (.return_, 1)) (hB : Bo none ws) (hck : ck ≤ mc) (hsk : sk ≤ ms) : zN X mc ms fr lo (zNQ X mc ms Bo) nL pc lv [] ws ck sk := by
  obtain ⟨p, l, e, s, m, args, below, meth, c, D, cA, ad, A⟩ := X
  obtain ⟨⟨hx, hb, hml, hown, hts, hlk, hK, hA, hE, htr⟩, hAr⟩ := F
  intro H locs ls hl hP hD hS
  refine W.widen (k := mc) (n := ms) hck hsk ?_
  exact W.vret hx hb hr (fun t ht hW => ⟨none, rfl, ⟨ws, hB, by rw [ht]; exact hP, hD⟩, hS.F ht⟩) hS.2.2 hd hlk
end ZN
/-- what a constructor does with the new object at h0: Bo says what there is behind it -/
def zMk (y : MethodName) (cb : ByteArray) (nB fb lb mc ms : Nat) (raw : va_E) (Bo : (Nat → ClassId) → Nat → va_W → Prop) : Prop := ∀ (l : Launch), l.stackTraces = false → ∀ (D : va_G) (cA : Nat → ClassId) (ad : zR → Nat) (h0 sz : Nat),
  Met l y (.code y cb nB none :: zTg) { frames := fb, cells := mc, slots := ms, locals := lb } (va_Pc [.ref h0] fun U => U.heap.size = sz ∧ va_P D zcl [(h0, raw)] U.heap ∧ va_K D zcl (ztl cA) U ∧ va_D (fun _ => True) [(h0, raw)] ∧ zEv ad (va_A [(h0, raw)] sz) U U.heap ∧ zAr U) (zNq D (va_A [(h0, raw)] sz) fun v ws => v = none ∧ Bo cA h0 ws) mc ms (va_A [(h0, raw)] sz)
theorem zMk_of {y : MethodName} {cb : ByteArray} {nB fb lb mc ms : Nat} {raw : va_E} {Bo : (Nat → ClassId) → Nat → va_W → Prop} (hy : plainName y.cls = true) (hi : y.name = "<init>") (hnB : 1 ≤ nB)
    (body : ∀ (X : zX) (h0 : Nat), zLr X cb nB y.cls → zIn X → zRt X none → zN X mc ms fb lb (zNQ X mc ms fun v ws => v = none ∧ Bo X.2.2.2.2.2.2.2.2.2.2.1 h0 ws) nB 0 [(0, .ref h0)] [] [(h0, raw)] 0 0) : zMk y cb nB fb lb mc ms raw Bo := by
  intro l htr D cA ad h0 sz
  refine Met.ofW (cc := cb) (maxL := nB) (ret := none) hy rfl ?_
  intro p e s m args below meth c s₁ B hml hv
  obtain ⟨rfl, hsz0, hP, hK, hD, hE, hAr⟩ := hv
  have hts := atoms_spec (ws := .code y cb nB none :: zTg) B.pre
  have F : zLr (p, l, e, s, m, ([.ref h0] : List Value).toArray, below, meth, c, D, cA, ad, va_A [(h0, raw)] sz) cb nB y.cls :=
    ⟨⟨B.exec, B.bytes, hml, findClass_of_methodNamed B.named, fun w hw => hts w (List.mem_cons_of_mem _ hw), B.notSynchronized, hK, fun q h => Or.inr (by rw [← hsz0]; exact h), hE, htr⟩, hAr⟩
  have hl := lv_entry ([.ref h0] : List Value) (n := nB) hnB
  rw [lg_entry_eq]
  exact body _ h0 F ((name_of_methodNamed B.named B.method).1.trans hi) B.returns s.heap [] _ hl hP hD.self va_S.rf
section ZNC
variable {p : Program} {l : Launch} {e : Env} {R : Room} {s : State} {m : MethodId} {args : Array Value} {below : List Frame} {meth : Method} {c : Code} {H : Heap} {locs : List Loc} {cells slots mc ms : Nat} {Q : State → Prop}
variable {D : va_G} {A0 A1 : Nat → Prop} {B : Option Value → va_W → Prop} {H0 : Heap} {pc : Nat} {ls : Array Slot} {st0 rest : List Value} {free : Addr → Prop} {a : Array Value}
theorem zx_new (hr : va_Run p l e R s m args below meth c H locs cells slots mc ms (F0 m pc ls st0) rest (zNq D A1 B a) free) (hS : va_S A0 H0 H locs) (hA : ∀ q, q < H.size → A1 q → A0 q) (hf : ∀ q, free q → A0 q)
    (kk : ∀ (v : Option Value) (w1 : va_W) (H1 : Heap) (locs1 : List Loc), B v w1 → va_P D zcl w1 H1 → va_D A1 w1 → H.size ≤ H1.size → (∀ q : Nat, q < H.size → ¬ A1 q → H1[q]? = H[q]?) → va_S A0 H0 H1 locs1 → W p l e R s m args below meth c H1 locs1 (cells + mc) (slots + ms) Q (F0 m (pc + 3) ls (v.toList ++ rest))) : W p l e R s m args below meth c H locs cells slots Q (F0 m pc ls st0) := by
  intro T hT X
  obtain ⟨w, st₀, t, T', L, h0, X', hL, e1, e2, ⟨v, hv, ⟨w1, hB, hP1, hD1⟩, hF⟩, st⟩ := hr T hT X
  cases hv
  obtain ⟨k1, k2, k3⟩ := vx_keep h0 e1 hS hA hf hL hF
  obtain ⟨t2, a1, b1⟩ := kk _ w1 T'.heap (locs ++ L) hB (by rw [e1]; exact hP1) hD1 k1 k2 k3 T' rfl X'
  exact ⟨t2, st t2 a1, b1⟩
/-- the caller's other cells beside what the constructor leaves -/
theorem zx_beside {cl : List vw_C} {ws0 w1 : va_W} {h1 : Nat} {raw : va_E} {H1 : Heap} (hP : va_P D cl (ws0 ++ [(h1, raw)]) H) (hD : va_D A0 (ws0 ++ [(h1, raw)])) (hk : ∀ q : Nat, q < H.size → ¬ va_A [(h1, raw)] H.size q → H1[q]? = H[q]?) (hF : ∀ q, va_A [(h1, raw)] H.size q → A0 q) (hP1 : va_P D cl w1 H1) (hD1 : va_D (va_A [(h1, raw)] H.size) w1) : va_P D cl (ws0 ++ w1) H1 ∧ va_D A0 (ws0 ++ w1) := by
  have hlast : (ws0 ++ [(h1, raw)])[ws0.length]? = some (h1, raw) := by rw [List.getElem?_append_right (Nat.le_refl _), Nat.sub_self]; rfl
  have apart : ∀ (k : Nat) (x : Nat × va_E), ws0[k]? = some x → x.1 < H.size ∧ ¬ va_A [(h1, raw)] H.size x.1 := by
    intro k x hx
    have hk1 := (List.getElem?_eq_some_iff.mp hx).1
    have hx' : (ws0 ++ [(h1, raw)])[k]? = some x := by rw [List.getElem?_append_left hk1]; exact hx
    have hl := (hP k x hx').lt
    refine ⟨hl, fun h => ?_⟩
    rcases h with ⟨k2, e, h⟩ | h
    · have hk2 : k2 < 1 := (List.getElem?_eq_some_iff.mp h).1
      rw [show k2 = 0 by omega] at h
      cases h
      have := hD.1 k ws0.length x _ hx' hlast rfl
      omega
    · omega
  refine ⟨va_P.app (fun k x hx => ?_) hP1, va_D.app ⟨fun i j x y hi hj hxy => ?_, fun k x hx => ?_⟩ (hD1.weaken fun k q _ h => hF q.1 h) (fun i j x y hx hy hxy => (apart i x hx).2 (by rw [hxy]; exact hD1.2 j y hy))⟩
  · have hk1 := (List.getElem?_eq_some_iff.mp hx).1
    exact (hP k x (by rw [List.getElem?_append_left hk1]; exact hx)).kept (hk x.1 (apart k x hx).1 (apart k x hx).2)
  · have h1 := (List.getElem?_eq_some_iff.mp hi).1
    have h2 := (List.getElem?_eq_some_iff.mp hj).1
    exact hD.1 i j x y (by rw [List.getElem?_append_left h1]; exact hi) (by rw [List.getElem?_append_left h2]; exact hj) hxy
  · have h1 := (List.getElem?_eq_some_iff.mp hx).1
    exact hD.2 k x (by rw [List.getElem?_append_left h1]; exact hx)
end ZNC
section ZND
variable {X : zX} {cc : ByteArray} {nL : Nat} {own : String} {mc ms fr lo pc ck sk : Nat} {B : State → Prop} {lv : List (Nat × Value)} {st : List Value} {ws ws0 : va_W}
variable {y : MethodName} {cb : ByteArray} {nB fb lb mcc msc idx h1 : Nat} {raw : va_E} {Bo : (Nat → ClassId) → Nat → va_W → Prop}
theorem zn_call (F : zLr X cc nL own) (hC : zMk y cb nB fb lb mcc msc raw Bo) (hd : decode cc pc = .ok (.invokespecial idx, 3)) (hw : Cond.methodLink own idx y ∈ zTg ∧ Cond.instanceMethod y ∈ zTg ∧ Cond.initialized y.cls ∈ zTg ∧ Cond.code y cb nB none ∈ zTg) (hy : y.name = "<init>" ∧ y.cls ≠ "java/lang/invoke/MethodHandle" ∧ y.cls ≠ "java/lang/invoke/VarHandle" ∧ (parseMethodDescriptor y.desc).map (fun d => d.parameters.length) = some 0) (hws : ws = ws0 ++ [(h1, raw)]) (hcs : (st.map fun v => v.category).sum ≤ 8) (hfr : fb + 1 ≤ fr) (hlo : 8 + (nB + 11) + lb ≤ lo) (hck : ck + mcc ≤ mc) (hsk : sk + msc ≤ ms)
    (kk : ∀ w1, Bo X.2.2.2.2.2.2.2.2.2.2.1 h1 w1 → zN X mc ms fr lo B nL (pc + 3) lv st (ws0 ++ w1) (ck + mcc) (sk + msc)) : zN X mc ms fr lo B nL pc lv (.ref h1 :: st) ws ck sk := by
  obtain ⟨p, l, e, s, m, args, below, meth, c, D, cA, ad, A⟩ := X
  obtain ⟨⟨hx, hb, hml, hown, hts, hlk, hK, hA, hE, htr⟩, hAr⟩ := F
  subst hws
  intro H locs ls hl hP hD hS
  have hM := hC l htr D cA ad h1 H.size
  have hlast : (ws0 ++ [(h1, raw)])[ws0.length]? = some (h1, raw) := by rw [List.getElem?_append_right (Nat.le_refl _), Nat.sub_self]; rfl
  have h0l : ∀ (k : Nat) (q : Nat × va_E), ([(h1, raw)] : va_W)[k]? = some q → (ws0 ++ [(h1, raw)])[ws0.length + k]? = some q := fun k q h => by rw [List.getElem?_append_right (Nat.le_add_right _ _), Nat.add_sub_cancel_left]; exact h
  have hP1 : va_P D zcl [(h1, raw)] H := fun k q h => hP _ q (h0l k q h)
  have hD1 : va_D A [(h1, raw)] := ⟨fun i j x y hi hj _ => by
    have a1 : i < 1 := (List.getElem?_eq_some_iff.mp hi).1
    have a2 : j < 1 := (List.getElem?_eq_some_iff.mp hj).1
    omega, fun k q h => hD.2 _ q (h0l k q h)⟩
  have hAA : ∀ q, va_A [(h1, raw)] H.size q → A q := by
    rintro q (⟨k, e, h⟩ | h)
    · exact hD1.2 k _ h
    · exact hA q (Nat.le_trans hS.1 h)
  have hG : GoodIn zTg (.code y cb nB none :: zTg) := zgood fun w hw' => by
    rcases List.mem_cons.mp hw' with rfl | h
    · exact hw.2.2.2
    · exact h
  refine zx_new (va_runI (As := []) (rest := st) ⟨hx, hb, hml, hown, hts⟩ hM (cwI 0 hts hG rfl rfl rfl (hts _ hw.2.2.1) (hts _ hw.1) (hts _ hw.2.1) hy.1 hy.2 ⟨hfr, hlo⟩) ⟨?_, fun U hU hW => ⟨rfl, by rw [hU], by rw [hU]; exact hP1, va_K.moved hW.alike hK, hD1.weaken fun _ _ _ _ => trivial, by rw [hU]; exact zEv.warm hW ((hE.kept hS.2.1).narrow hAA fun _ => rfl), hAr.moved hW.alike⟩⟩ rfl rfl hl.1 rfl (by show 2 * 0 + _ ≤ 8; omega) hd ⟨hck, hsk⟩) hS (fun q _ h => hAA q h) hAA fun v w1 H1 locs1 hB hP2 hD2 hz hk hS1 => ?_
  · rintro a U g mk ⟨q0, q1, q2, q3, q4, q5, q6⟩
    exact ⟨q0, q1, q2, va_K.moved (u := U) (U := U.calling g mk a) (Vm.Alike.refl U.vm) q3, q4, zEv.same (s := U) (U := U.calling g mk a) rfl q5, q6.moved (s := U) (U := U.calling g mk a) (Vm.Alike.refl U.vm)⟩
  · obtain ⟨a1, a2⟩ := zx_beside hP hD hk hAA hP2 hD2
    obtain ⟨rfl, hB⟩ := hB
    exact kk w1 hB H1 locs1 ls hl a1 a2 hS1
/-- the same, of a nest mate's private constructor -/
theorem zn_callN (F : zLr X cc nL own) {host : String} (hC : zMk y cb nB fb lb mcc msc raw Bo) (hd : decode cc pc = .ok (.invokespecial idx, 3)) (hw : Cond.methodLinkNest own idx y host ∈ zNws ∧ Cond.instanceMethod y ∈ zTg ∧ Cond.initialized y.cls ∈ zTg ∧ Cond.code y cb nB none ∈ zTg) (hy : y.name = "<init>" ∧ y.cls ≠ "java/lang/invoke/MethodHandle" ∧ y.cls ≠ "java/lang/invoke/VarHandle" ∧ (parseMethodDescriptor y.desc).map (fun d => d.parameters.length) = some 0) (hws : ws = ws0 ++ [(h1, raw)]) (hcs : (st.map fun v => v.category).sum ≤ 8) (hfr : fb + 1 ≤ fr) (hlo : 8 + (nB + 11) + lb ≤ lo) (hck : ck + mcc ≤ mc) (hsk : sk + msc ≤ ms)
    (kk : ∀ w1, Bo X.2.2.2.2.2.2.2.2.2.2.1 h1 w1 → zN X mc ms fr lo B nL (pc + 3) lv st (ws0 ++ w1) (ck + mcc) (sk + msc)) : zN X mc ms fr lo B nL pc lv (.ref h1 :: st) ws ck sk := by
  obtain ⟨p, l, e, s, m, args, below, meth, c, D, cA, ad, A⟩ := X
  obtain ⟨⟨hx, hb, hml, hown, hts, hlk, hK, hA, hE, htr⟩, hAr⟩ := F
  subst hws
  intro H locs ls hl hP hD hS
  have hM := hC l htr D cA ad h1 H.size
  have hlast : (ws0 ++ [(h1, raw)])[ws0.length]? = some (h1, raw) := by rw [List.getElem?_append_right (Nat.le_refl _), Nat.sub_self]; rfl
  have h0l : ∀ (k : Nat) (q : Nat × va_E), ([(h1, raw)] : va_W)[k]? = some q → (ws0 ++ [(h1, raw)])[ws0.length + k]? = some q := fun k q h => by rw [List.getElem?_append_right (Nat.le_add_right _ _), Nat.add_sub_cancel_left]; exact h
  have hP1 : va_P D zcl [(h1, raw)] H := fun k q h => hP _ q (h0l k q h)
  have hD1 : va_D A [(h1, raw)] := ⟨fun i j x y hi hj _ => by
    have a1 : i < 1 := (List.getElem?_eq_some_iff.mp hi).1
    have a2 : j < 1 := (List.getElem?_eq_some_iff.mp hj).1
    omega, fun k q h => hD.2 _ q (h0l k q h)⟩
  have hAA : ∀ q, va_A [(h1, raw)] H.size q → A q := by
    rintro q (⟨k, e, h⟩ | h)
    · exact hD1.2 k _ h
    · exact hA q (Nat.le_trans hS.1 h)
  have hG : GoodIn zTg (.code y cb nB none :: zTg) := zgood fun w hw' => by
    rcases List.mem_cons.mp hw' with rfl | h
    · exact hw.2.2.2
    · exact h
  refine zx_new (va_runIN (As := []) (rest := st) ⟨hx, hb, hml, hown, hts⟩ hM ⟨va_cnB 0 hts hG rfl rfl rfl (hE.2.2.1 _ hw.1) (hts _ hw.2.2.1) hy.2 ⟨hfr, hlo⟩, hy.1, hts _ hw.2.1⟩ ⟨?_, fun U hU hW => ⟨rfl, by rw [hU], by rw [hU]; exact hP1, va_K.moved hW.alike hK, hD1.weaken fun _ _ _ _ => trivial, by rw [hU]; exact zEv.warm hW ((hE.kept hS.2.1).narrow hAA fun _ => rfl), hAr.moved hW.alike⟩⟩ rfl rfl hl.1 rfl (by show 2 * 0 + _ ≤ 8; omega) hd ⟨hck, hsk⟩) hS (fun q _ h => hAA q h) hAA fun v w1 H1 locs1 hB hP2 hD2 hz hk hS1 => ?_
  · rintro a U g mk ⟨q0, q1, q2, q3, q4, q5, q6⟩
    exact ⟨q0, q1, q2, va_K.moved (u := U) (U := U.calling g mk a) (Vm.Alike.refl U.vm) q3, q4, zEv.same (s := U) (U := U.calling g mk a) rfl q5, q6.moved (s := U) (U := U.calling g mk a) (Vm.Alike.refl U.vm)⟩
  · obtain ⟨a1, a2⟩ := zx_beside hP hD hk hAA hP2 hD2
    obtain ⟨rfl, hB⟩ := hB
    exact kk w1 hB H1 locs1 ls hl a1 a2 hS1
end ZND
abbrev zcA (X : zX) : Nat → ClassId := X.2.2.2.2.2.2.2.2.2.2.1
theorem zn_ws {X : zX} {nL : Nat} {mc ms fr lo pc ck sk : Nat} {B : State → Prop} {lv : List (Nat × Value)} {st : List Value} {ws ws' : va_W} (h : ws = ws') (kk : zN X mc ms fr lo B nL pc lv st ws' ck sk) : zN X mc ms fr lo B nL pc lv st ws ck sk := by
  rw [h]
  exact kk
end
section
/-! ===== constructors: arrays of arrays, the end's order ===== -/
section ZNM
variable {X : zX} {cc : ByteArray} {nL : Nat} {own : String} {mc ms fr lo pc ck sk : Nat} {B : State → Prop} {lv lv' : List (Nat × Value)} {st : List Value} {ws : va_W}
theorem zn_mna (F : zLr X cc nL own) {idx N K : Nat} {n k : Int32} {ws' : Nat → (Nat → Nat) → va_W} (hd : decode cc pc = .ok (.multianewarray idx 2, 4)) (hw : Cond.classLink own idx "[[I" ∈ zTg) (hwa : Cond.arrayClass .int ∈ zTg) (hza : FieldType.int ∈ zaa) (hn : ¬ n < 0) (hk : ¬ k < 0) (hN : n.toNatClampNeg = N) (hK0 : k.toNatClampNeg = K) (hb1 : N * 4 ≤ 536870912) (hb2 : K * componentBytes .int ≤ 536870912) (hb3 : K ≤ 536870912) (hck : ck + (1 + N) ≤ mc) (hsk : sk + (N + N * K) ≤ ms)
    (hws : ∀ (q : Nat) (r : Nat → Nat), ws ++ (q, .inl (X.2.2.2.2.2.2.2.2.2.2.1 4, N, .inr (.inr (.inr (.inr (fun i => if i < N then some (r i) else none)))))) :: (List.range N).map (fun i => (r i, .inl (X.2.2.2.2.2.2.2.2.2.2.1 0, K, .inl (fun _ => 0)))) = ws' q r)
    (kk : ∀ (q : Nat) (r : Nat → Nat), zN X mc ms fr lo B nL (pc + 4) lv (.ref q :: st) (ws' q r) (ck + 1 + N) (sk + N + N * K)) : zN X mc ms fr lo B nL pc lv (.int k :: .int n :: st) ws ck sk := by
  obtain ⟨p, l, e, s, m, args, below, meth, c, D, cA, ad, A⟩ := X
  obtain ⟨⟨hx, hb, hml, hown, hts, hlk, hK, hA, hE, htr⟩, hAr⟩ := F
  intro H locs ls hl hP hD hS
  have e0 : s.vm.findClass ("[" ++ FieldType.int.toString) = some (cA 0) := (hK.2 0 _ (ztl_at (by decide))).2
  have e1 : s.vm.findClass ("[" ++ (FieldType.array .int).toString) = some (cA 4) := (hK.2 4 _ (ztl_at (by decide))).2
  have hP0 : va_P D zcl (ws ++ va_pl [] (fun _ => .inl (0, 0, .inl fun _ => 0))) H := by rw [show va_pl [] (fun _ => .inl (0, 0, .inl fun _ => 0)) = [] from rfl, List.append_nil]; exact hP
  have hD0 : va_D A (ws ++ va_pl [] (fun _ => .inl (0, 0, .inl fun _ => 0))) := by rw [show va_pl [] (fun _ => .inl (0, 0, .inl fun _ => 0)) = [] from rfl, List.append_nil]; exact hD
  refine va_mna (ty := .int) (z := (K, .inl fun _ => 0)) (cy := cA 0) hx hb hown (hts _ hw) (hAr.2.1 _ hza) (hts _ hwa) e0 hK hP0 hD0 hS hA hn hk hN hK0 hb1 hb2 hb3 rfl rfl hck hsk (fun c => arrV_new c K (.int 0)) hd fun q r cA' H1 hr hr2 hK1 hP1 hD1 hS1 => ?_
  have e2 : s.vm.findClass ("[" ++ (FieldType.array .int).toString) = some cA' := (hK1.2 (ztl cA).length (cA', .array .int) (by rw [List.getElem?_append_right (Nat.le_refl _), Nat.sub_self]; rfl)).2
  cases zcls_eq e1 e2
  have e3 : (ws ++ [(q, .inl (cA 4, N, .inr (.inr (.inr (.inr (fun i => if i < N then some (r i) else none))))))]) ++ va_pl ([] ++ (List.range N).map r) (vr_up (fun _ => .inl (0, 0, .inl fun _ => 0)) ((List.range N).map r) (.inl (cA 0, K, .inl fun _ => 0))) = ws' q r := by
    rw [← hws q r, List.append_assoc]
    congr 1
    show _ :: _ = _ :: _
    congr 1
    unfold va_pl
    rw [List.nil_append, List.map_map]
    refine List.map_congr_left fun i hi => ?_
    show (r i, vr_up _ _ _ (r i)) = _
    rw [vr_up_in (List.mem_map.mpr ⟨i, hi, rfl⟩)]
  rw [e3] at hP1 hD1
  exact kk q r H1 locs ls hl hP1 hD1 hS1
end ZNM
theorem arrV_to {c : ClassId} {n : Nat} {f g : Nat → Value} (h : ∀ j, j < n → f j = g j) : arrV c n f = arrV c n g := by
  unfold arrV
  have : (Array.ofFn (n := n) fun j => f j.val) = Array.ofFn (n := n) fun j => g j.val := by
    congr 1
    funext j
    exact h j.val j.isLt
  rw [this]
/-- the same cells, but for what a row of references says behind its end -/
def zWs (a b : va_W) : Prop := ∀ (k : Nat) (y : Nat × va_E), b[k]? = some y → ∃ x, a[k]? = some x ∧ x.1 = y.1 ∧ ∀ (D : va_G) (cl : List vw_C) (H : Heap), va_at D cl x H → va_at D cl y H
theorem zWs.z : zWs [] [] := by
  intro k y h
  cases h
theorem zWs.k {x : Nat × va_E} {a b : va_W} (h0 : zWs a b) : zWs (x :: a) (x :: b) := by
  intro k y h
  cases k with
  | zero => exact ⟨y, h, rfl, fun _ _ _ h => h⟩
  | succ k => exact h0 k y h
theorem zWs.r {q : Nat} {c : ClassId} {n : Nat} {f g : Nat → Option Nat} {a b : va_W} (hf : ∀ j, j < n → f j = g j) (h0 : zWs a b) : zWs ((q, .inl (c, n, .inr (.inr (.inr (.inr f))))) :: a) ((q, .inl (c, n, .inr (.inr (.inr (.inr g))))) :: b) := by
  intro k y h
  cases k with
  | zero =>
    cases h
    refine ⟨_, rfl, rfl, fun D cl H h => ?_⟩
    refine Eq.trans h ?_
    show some (vp_cell c (n, .inr (.inr (.inr (.inr f))))) = some (vp_cell c (n, .inr (.inr (.inr (.inr g)))))
    rw [vp_cell_q, vp_cell_q, arrV_to (fun j hj => congrArg va_rf (hf j hj))]
  | succ k => exact h0 k y h
theorem zWs.get {a b : va_W} (h : zWs a b) : ∀ (k : Nat) (y : Nat × va_E), b[k]? = some y → ∃ x, a[k]? = some x ∧ x.1 = y.1 ∧ ∀ (D : va_G) (cl : List vw_C) (H : Heap), va_at D cl x H → va_at D cl y H := h
section ZNE
variable {X : zX} {nL : Nat} {mc ms fr lo pc ck sk : Nat} {B : State → Prop} {lv : List (Nat × Value)} {st : List Value} {ws ws' : va_W}
theorem zn_ext (h : zWs ws ws') (kk : zN X mc ms fr lo B nL pc lv st ws' ck sk) : zN X mc ms fr lo B nL pc lv st ws ck sk := by
  obtain ⟨p, l, e, s, m, args, below, meth, c, D, cA, ad, A⟩ := X
  refine fun H locs ls hl hP hD hS => kk H locs ls hl (fun k y hy => ?_) ⟨fun i j x y hi hj hxy => ?_, fun k y hy => ?_⟩ hS
  · obtain ⟨x, h1, -, h3⟩ := h.get k y hy
    exact h3 D zcl H (hP k x h1)
  · obtain ⟨x', h1, h2, -⟩ := h.get i x hi
    obtain ⟨y', g1, g2, -⟩ := h.get j y hj
    exact hD.1 i j x' y' h1 g1 (by rw [h2, g2, hxy])
  · obtain ⟨x', h1, h2, -⟩ := h.get k y hy
    rw [← h2]
    exact hD.2 k x' h1
end ZNE
/-- a fresh region's names: one list, cut by kinds -/
def zaf (off : Nat → Nat) (l : List Nat) (k i : Nat) : Nat := l.getD (off k + i) 0
def zLm (n : Nat) : Nat → Int32 := fun k => if k < n then -1 else 0
theorem zLm_0 : zLm 0 = fun _ => 0 := by
  funext k
  unfold zLm
  rw [if_neg (Nat.not_lt_zero k)]
theorem zLm_s (n : Nat) : upd (zLm n) n (-1) = zLm (n + 1) := by
  funext k
  unfold upd zLm
  by_cases h : k = n
  · subst h
    rw [if_pos rfl, if_pos (Nat.lt_succ_self k)]
  · rw [if_neg h]
    by_cases h2 : k < n
    · rw [if_pos h2, if_pos (Nat.lt_succ_of_lt h2)]
    · rw [if_neg h2, if_neg (fun q => h (Nat.le_antisymm (Nat.le_of_lt_succ q) (Nat.le_of_not_lt h2)))]
end
section
/-! ===== methods over lists of cells: what they promise, and their calls ===== -/
def zAlP (D : va_G) (cA : Nat → ClassId) (ad : zR → Nat) (W0 : va_W) (as : List Value) (sz : Nat) : Array Value → State → Prop := va_Pc as fun U => U.heap.size = sz ∧ va_P D zcl W0 U.heap ∧ va_K D zcl (ztl cA) U ∧ va_D (fun _ => True) W0 ∧ zEv ad (va_A W0 sz) U U.heap ∧ zAr U
def zAl (y : MethodName) (cb : ByteArray) (nB : Nat) (rb : Option FieldType) (fb lb mc ms : Nat) (as : List Value) (W0 : (Nat → ClassId) → va_W) (Bo : (Nat → ClassId) → Option Value → va_W → Prop) : Prop := ∀ (l : Launch), l.stackTraces = false → ∀ (D : va_G) (cA : Nat → ClassId) (ad : zR → Nat) (sz : Nat),
  Met l y (.code y cb nB rb :: zTg) { frames := fb, cells := mc, slots := ms, locals := lb } (zAlP D cA ad (W0 cA) as sz) (zNq D (va_A (W0 cA) sz) (Bo cA)) mc ms (va_A (W0 cA) sz)
theorem zAlP_blind {D : va_G} {cA : Nat → ClassId} {ad : zR → Nat} {W0 : va_W} {as : List Value} {sz : Nat} : FrameBlind (zAlP D cA ad W0 as sz) := by
  rintro a U g mk ⟨q0, q1, q2, q3, q4, q5, q6⟩
  exact ⟨q0, q1, q2, va_K.moved (u := U) (U := U.calling g mk a) (Vm.Alike.refl U.vm) q3, q4, zEv.same (s := U) (U := U.calling g mk a) rfl q5, q6.moved (s := U) (U := U.calling g mk a) (Vm.Alike.refl U.vm)⟩
theorem zAl_of {y : MethodName} {cb : ByteArray} {nB fb lb mc ms : Nat} {rb : Option FieldType} {as : List Value} {W0 : (Nat → ClassId) → va_W} {Bo : (Nat → ClassId) → Option Value → va_W → Prop} (hy : plainName y.cls = true) (hnB : (lg_sl as).length ≤ nB)
    (body : ∀ (X : zX), zLr X cb nB y.cls → zRt X rb → (∀ x ∈ X.2.2.2.2.2.2.2.2.1.exceptionTable.toList, False) → zN X mc ms fb lb (zNQ X mc ms (Bo X.2.2.2.2.2.2.2.2.2.2.1)) nB 0 (lv_args 0 as) [] (W0 X.2.2.2.2.2.2.2.2.2.2.1) 0 0) : zAl y cb nB rb fb lb mc ms as W0 Bo := by
  intro l htr D cA ad sz
  refine Met.ofW (cc := cb) (maxL := nB) (ret := rb) hy rfl ?_
  intro p e s m args below meth c s₁ B hml hv
  obtain ⟨rfl, hsz0, hP, hK, hD, hE, hAr⟩ := hv
  have hts := atoms_spec (ws := .code y cb nB rb :: zTg) B.pre
  have hex : ∀ x ∈ c.exceptionTable.toList, False := by
    obtain ⟨meth9, c9, h1, h2, -, -, -, -, h7, -⟩ := Cond.code_spec B.named (hts _ List.mem_cons_self)
    cases Option.some.inj (h1.symm.trans B.method)
    cases Option.some.inj (h2.symm.trans (Stand.of_body B).code)
    intro x hx
    rw [Array.isEmpty_iff.mp h7] at hx
    cases hx
  have F : zLr (p, l, e, s, m, as.toArray, below, meth, c, D, cA, ad, va_A (W0 cA) sz) cb nB y.cls :=
    ⟨⟨B.exec, B.bytes, hml, findClass_of_methodNamed B.named, fun w hw => hts w (List.mem_cons_of_mem _ hw), B.notSynchronized, hK, fun q h => Or.inr (by rw [← hsz0]; exact h), hE, htr⟩, hAr⟩
  have hl := lv_entry as (n := nB) hnB
  rw [lg_entry_eq]
  exact body _ F B.returns hex s.heap [] _ hl hP hD.self va_S.rf
/-- the caller's other cells beside what the callee leaves -/
theorem zy_beside {D : va_G} {A0 : Nat → Prop} {cl : List vw_C} {w0 w1 wsB : va_W} {H H1 : Heap} (hP : va_P D cl (w0 ++ wsB) H) (hD : va_D A0 (w0 ++ wsB)) (hk : ∀ q : Nat, q < H.size → ¬ va_A w0 H.size q → H1[q]? = H[q]?) (hF : ∀ q, va_A w0 H.size q → A0 q) (hP1 : va_P D cl w1 H1) (hD1 : va_D (va_A w0 H.size) w1) : va_P D cl (w1 ++ wsB) H1 ∧ va_D A0 (w1 ++ wsB) := by
  have at2 : ∀ (k : Nat) (x : Nat × va_E), wsB[k]? = some x → (w0 ++ wsB)[w0.length + k]? = some x := fun k x h => by rw [List.getElem?_append_right (Nat.le_add_right _ _), Nat.add_sub_cancel_left]; exact h
  have apart : ∀ (k : Nat) (x : Nat × va_E), wsB[k]? = some x → x.1 < H.size ∧ ¬ va_A w0 H.size x.1 := by
    intro k x hx
    have hl := (hP _ x (at2 k x hx)).lt
    refine ⟨hl, fun h => ?_⟩
    rcases h with ⟨k2, e, h⟩ | h
    · have hk2 := (List.getElem?_eq_some_iff.mp h).1
      have := hD.1 k2 (w0.length + k) _ x ((List.getElem?_append_left hk2).trans h) (at2 k x hx) rfl
      omega
    · omega
  refine ⟨va_P.app hP1 (fun k x hx => (hP _ x (at2 k x hx)).kept (hk x.1 (apart k x hx).1 (apart k x hx).2)), va_D.app (hD1.weaken fun k q _ h => hF q.1 h) ⟨fun i j x y hi hj hxy => ?_, fun k x hx => hD.2 _ x (at2 k x hx)⟩ (fun i j x y hx hy hxy => (apart j y hy).2 (by rw [← hxy]; exact hD1.2 i x hx))⟩
  have := hD.1 _ _ x y (at2 i x hi) (at2 j y hj) hxy
  omega
theorem zMet_conv {l : Launch} {y : MethodName} {ws : List Cond} {rm : Room} {Pc Pc' : Array Value → State → Prop} {Qc Qc' : Array Value → State → Outcome → State → Prop} {mc ms : Nat} {free free' : Addr → Prop} (h : Met l y ws rm Pc Qc mc ms free) (hp : ∀ a U, Pc' a U → Pc a U) (hf : ∀ q, free q → free' q) (hq : ∀ a st o t, Pc' a st → Qc a st o t → Qc' a st o t) : Met l y ws rm Pc' Qc' mc ms free' := by
  intro p e ha hc hcl s m args below hs hS hP hK
  obtain ⟨n, o, h1, h2, h3, h4, L, h5, h6⟩ := h p e ha hc hcl s m args below hs hS (hp _ _ hP) hK
  exact ⟨n, o, h1, h2, h3, hq _ _ _ _ hP h4, L, h5, fun q hq => hf _ (h6 q hq)⟩
theorem zwl_cong {cA : Nat → ClassId} {ad ad' : zR → Nat} {Rg : List zD} {Ms : List zM} (hl : Rg.length ≤ 100) (hlk : ∀ r ∈ Rg, ∀ x ∈ r.2, x < 100) (h : ∀ q, q.1 < 100 → ad' q = ad q) : zwl cA ad' Rg Ms = zwl cA ad Rg Ms := by
  unfold zwl
  refine List.map_congr_left fun q hq => ?_
  have hin := zids_iff.mp hq
  have h1 : q.1 < 100 := Nat.lt_of_lt_of_le hin.1 hl
  have hrf : ∀ ty k i o, zrf ad' q.1 (zlk Rg q.1) ty k i o = zrf ad q.1 (zlk Rg q.1) ty k i o := by
    intro ty k i o
    unfold zrf
    cases zrs ty k i o with
    | none => rfl
    | some z =>
      refine congrArg some (h _ ?_)
      show (if z.1 = 0 then q.1 else (zlk Rg q.1).getD (z.1 - 1) q.1) < 100
      split
      · exact h1
      · rw [List.getD_eq_getElem?_getD]
        cases hz : (zlk Rg q.1)[z.1 - 1]? with
        | none => exact h1
        | some x =>
          refine hlk (Rg.getD q.1 (0, [])) ?_ x (List.mem_of_getElem? hz)
          rw [List.getD_eq_getElem?_getD, List.getElem?_eq_getElem hin.1]
          exact List.getElem_mem hin.1
  have e1 : zcq cA ad' Rg Ms q = zcq cA ad Rg Ms q := by
    unfold zcq zce
    have e2 : ∀ ty k i, zrf ad' q.1 (zlk Rg q.1) ty k i = zrf ad q.1 (zlk Rg q.1) ty k i := fun ty k i => funext fun o => hrf ty k i o
    have e3 : ∀ ty k i f, zsv ad' q.1 (zlk Rg q.1) ty k i f = zsv ad q.1 (zlk Rg q.1) ty k i f := fun ty k i f => funext fun o => by unfold zsv; rw [hrf]
    rw [e2, e3]
  rw [h q h1, e1]
/-- a method of regions is one of lists of cells -/
theorem zAl_of_zMet {y : MethodName} {cb : ByteArray} {nB fb lb : Nat} {rb : Option FieldType} {Rg : List zD} {as : List zV} {Ms Ms' : List zM} {v : Option zV} (h : zMet y cb nB rb fb lb Rg as Ms (.inl v, Ms')) (hl : Rg.length ≤ 100) (hlk : ∀ r ∈ Rg, ∀ x ∈ r.2, x < 100) (has : ∀ x ∈ as, ∀ q, x = .inl q → q.1 < 100) (hv : ∀ q, v = some (.inl q) → q.1 < 100) (ad1 : zR → Nat) :
    zAl y cb nB rb fb lb 0 0 (as.map (zt ad1)) (fun cA => zwl cA ad1 Rg Ms) (fun cA v' ws => v' = v.map (zt ad1) ∧ ws = zwl cA ad1 Rg Ms') := by
  intro l htr D cA ad sz
  have h1 := h l htr D cA (fun q => if q.1 < 100 then ad1 q else ad q) sz
  dsimp only at h1
  have had : ∀ q : zR, q.1 < 100 → (fun q : zR => if q.1 < 100 then ad1 q else ad q) q = ad1 q := fun q hq => if_pos hq
  have hw : ∀ Ms, zwl cA (fun q => if q.1 < 100 then ad1 q else ad q) Rg Ms = zwl cA ad1 Rg Ms := fun Ms => zwl_cong hl hlk had
  have ht : ∀ x : zV, (∀ q, x = .inl q → q.1 < 100) → zt (fun q => if q.1 < 100 then ad1 q else ad q) x = zt ad1 x := by
    intro x hx
    rcases x with q | x | x
    · exact congrArg Value.ref (had q (hx q rfl))
    · rfl
    · rfl
  have hta : as.map (zt fun q => if q.1 < 100 then ad1 q else ad q) = as.map (zt ad1) := List.map_congr_left fun x hx => ht x (has x hx)
  refine zMet_conv h1 (fun a U hP => ?_) (fun q hq => by rw [hw] at hq; exact hq) (fun a st o t hP hQ => ?_)
  · obtain ⟨q0, q1, q2, q3, q4, q5, q6⟩ := hP
    refine ⟨by rw [hta]; exact q0, q1, by rw [hw]; exact q2, q3, by rw [hw]; exact q4, ?_⟩
    rw [hw]
    exact q5.narrow (fun _ h => h) fun j => by dsimp only; rw [if_neg (by omega)]
  · obtain ⟨q0, q1, q2, q3, q4, q5, q6⟩ := hP
    obtain ⟨g1, g2, g3⟩ := hQ
    rw [hw] at g2 g3
    refine ⟨_, g1, ⟨_, ⟨?_, rfl⟩, g2, zw_D _ q4.self⟩, g3⟩
    cases v with
    | none => rfl
    | some x => exact congrArg some (ht x fun q hq => hv q (by rw [hq]))
section ZNA
variable {X : zX} {cc : ByteArray} {nL : Nat} {own : String} {mc ms fr lo pc ck sk : Nat} {B : State → Prop} {lv : List (Nat × Value)} {S st as : List Value} {ws wsB : va_W}
variable {y : MethodName} {cb : ByteArray} {nB fb lb mcc msc idx n : Nat} {rb : Option FieldType} {C host : String} {W0 : (Nat → ClassId) → va_W} {Bo : (Nat → ClassId) → Option Value → va_W → Prop}
theorem zn_callV (F : zLr X cc nL own) {h0 j0 ci N : Nat} {T : u_T} {vs : List Value} (hC : zAl y cb nB rb fb lb mcc msc (.ref h0 :: as) W0 Bo) (hd : decode cc pc = .ok (.invokevirtual idx, 3))
    (hw : Cond.methodLink own idx y ∈ zTg ∧ Cond.instanceMethod y ∈ zTg ∧ Cond.selects C y y ∈ zTg ∧ Cond.initialized C ∈ zTg ∧ Cond.code y cb nB rb ∈ zTg) (hy : y.cls = C ∧ y.cls ≠ "java/lang/invoke/MethodHandle" ∧ y.cls ≠ "java/lang/invoke/VarHandle" ∧ (parseMethodDescriptor y.desc).map (fun d => d.parameters.length) = some n) (hn : as.length = n)
    (hws : ws = W0 X.2.2.2.2.2.2.2.2.2.2.1 ++ wsB) (hci : zcl[ci]? = some (C, T, N)) (hj : (W0 X.2.2.2.2.2.2.2.2.2.2.1)[j0]? = some (h0, .inr (ci, vs))) (hS0 : S = as.reverse ++ .ref h0 :: st) (hcs : (st.map fun v => v.category).sum ≤ 8) (hfr : fb + 1 ≤ fr) (hlo : 8 + (nB + 11) + lb ≤ lo) (hck : ck + mcc ≤ mc) (hsk : sk + msc ≤ ms)
    (kk : ∀ v w1, Bo X.2.2.2.2.2.2.2.2.2.2.1 v w1 → zN X mc ms fr lo B nL (pc + 3) lv (v.toList ++ st) (w1 ++ wsB) (ck + mcc) (sk + msc)) : zN X mc ms fr lo B nL pc lv S ws ck sk := by
  obtain ⟨p, l, e, s, m, args, below, meth, c, D, cA, ad, A⟩ := X
  obtain ⟨⟨hx, hb, hml, hown, hts, hlk, hK, hA, hE, htr⟩, hAr⟩ := F
  subst hws; subst hS0
  intro H locs ls hl hP hD hS
  have hM := hC l htr D cA ad H.size
  have h0l : ∀ (k : Nat) (q : Nat × va_E), (W0 cA)[k]? = some q → (W0 cA ++ wsB)[k]? = some q := fun k q h => by rw [List.getElem?_append_left (List.getElem?_eq_some_iff.mp h).1]; exact h
  have hP1 : va_P D zcl (W0 cA) H := fun k q h => hP _ q (h0l k q h)
  have hD1 : va_D A (W0 cA) := ⟨fun i j x y hi hj h => hD.1 i j x y (h0l i x hi) (h0l j y hj) h, fun k q h => hD.2 _ q (h0l k q h)⟩
  have hAA : ∀ q, va_A (W0 cA) H.size q → A q := by
    rintro q (⟨k, e, h⟩ | h)
    · exact hD1.2 k _ h
    · exact hA q (Nat.le_trans hS.1 h)
  have hG : GoodIn zTg (wsV own idx C y (.code y cb nB rb :: zTg)) := zgood fun w hw' => by
    obtain ⟨w1, w2, w3, w4, w5⟩ := hw
    unfold wsV at hw'
    rcases List.mem_append.mp hw' with h | h
    · simp only [List.mem_cons, List.not_mem_nil, or_false] at h
      rcases h with rfl | rfl | rfl | rfl <;> assumption
    · rcases List.mem_cons.mp h with rfl | h
      · exact w5
      · exact h
  refine zx_new (va_runV (As := as) (rest := st) ⟨hx, hb, hml, hown, hts⟩ hM (cwV n hts hG rfl rfl rfl hy ⟨hfr, hlo⟩) ⟨zAlP_blind, va_recv hK hP1 hci hj, fun U hU hW => ⟨rfl, by rw [hU], by rw [hU]; exact hP1, va_K.moved hW.alike hK, hD1.weaken fun _ _ _ _ => trivial, by rw [hU]; exact zEv.warm hW ((hE.kept hS.2.1).narrow hAA fun _ => rfl), hAr.moved hW.alike⟩⟩ rfl hn hl.1 rfl (by show 2 * 0 + _ ≤ 8; omega) hd ⟨hck, hsk⟩) hS (fun q _ h => hAA q h) hAA fun v w1 H1 locs1 hB hP2 hD2 hz hk hS1 => ?_
  obtain ⟨a1, a2⟩ := zy_beside hP hD hk hAA hP2 hD2
  exact kk v w1 hB H1 locs1 ls hl a1 a2 hS1
theorem zn_callS (F : zLr X cc nL own) (hC : zAl y cb nB rb fb lb mcc msc as W0 Bo) (hd : decode cc pc = .ok (.invokestatic idx, 3))
    (hw : Cond.methodLink own idx y ∈ zTg ∧ Cond.static y ∈ zTg ∧ Cond.initialized y.cls ∈ zTg ∧ Cond.code y cb nB rb ∈ zTg) (hy : y.cls ≠ "java/lang/invoke/MethodHandle" ∧ y.cls ≠ "java/lang/invoke/VarHandle" ∧ (parseMethodDescriptor y.desc).map (fun d => d.parameters.length) = some n) (hn : as.length = n)
    (hws : ws = W0 X.2.2.2.2.2.2.2.2.2.2.1 ++ wsB) (hS0 : S = as.reverse ++ st) (hcs : (st.map fun v => v.category).sum ≤ 8) (hfr : fb + 1 ≤ fr) (hlo : 8 + (nB + 11) + lb ≤ lo) (hck : ck + mcc ≤ mc) (hsk : sk + msc ≤ ms)
    (kk : ∀ v w1, Bo X.2.2.2.2.2.2.2.2.2.2.1 v w1 → zN X mc ms fr lo B nL (pc + 3) lv (v.toList ++ st) (w1 ++ wsB) (ck + mcc) (sk + msc)) : zN X mc ms fr lo B nL pc lv S ws ck sk := by
  obtain ⟨p, l, e, s, m, args, below, meth, c, D, cA, ad, A⟩ := X
  obtain ⟨⟨hx, hb, hml, hown, hts, hlk, hK, hA, hE, htr⟩, hAr⟩ := F
  subst hws; subst hS0
  intro H locs ls hl hP hD hS
  have hM := hC l htr D cA ad H.size
  have h0l : ∀ (k : Nat) (q : Nat × va_E), (W0 cA)[k]? = some q → (W0 cA ++ wsB)[k]? = some q := fun k q h => by rw [List.getElem?_append_left (List.getElem?_eq_some_iff.mp h).1]; exact h
  have hP1 : va_P D zcl (W0 cA) H := fun k q h => hP _ q (h0l k q h)
  have hD1 : va_D A (W0 cA) := ⟨fun i j x y hi hj h => hD.1 i j x y (h0l i x hi) (h0l j y hj) h, fun k q h => hD.2 _ q (h0l k q h)⟩
  have hAA : ∀ q, va_A (W0 cA) H.size q → A q := by
    rintro q (⟨k, e, h⟩ | h)
    · exact hD1.2 k _ h
    · exact hA q (Nat.le_trans hS.1 h)
  have hG : GoodIn zTg (va_wsS own idx y (.code y cb nB rb :: zTg)) := zgood fun w hw' => by
    obtain ⟨w1, w2, w3, w4⟩ := hw
    unfold va_wsS at hw'
    rcases List.mem_append.mp hw' with h | h
    · simp only [List.mem_cons, List.not_mem_nil, or_false] at h
      rcases h with rfl | rfl | rfl <;> assumption
    · rcases List.mem_cons.mp h with rfl | h
      · exact w4
      · exact h
  refine zx_new (va_runS (As := as) (rest := st) ⟨hx, hb, hml, hown, hts⟩ hM (va_cwS n hts hG rfl rfl rfl hy ⟨hfr, hlo⟩) ⟨zAlP_blind, fun U hU hW => ⟨rfl, by rw [hU], by rw [hU]; exact hP1, va_K.moved hW.alike hK, hD1.weaken fun _ _ _ _ => trivial, by rw [hU]; exact zEv.warm hW ((hE.kept hS.2.1).narrow hAA fun _ => rfl), hAr.moved hW.alike⟩⟩ rfl hn hl.1 rfl (by show 2 * 0 + _ ≤ 8; omega) hd ⟨hck, hsk⟩) hS (fun q _ h => hAA q h) hAA fun v w1 H1 locs1 hB hP2 hD2 hz hk hS1 => ?_
  obtain ⟨a1, a2⟩ := zy_beside hP hD hk hAA hP2 hD2
  exact kk v w1 hB H1 locs1 ls hl a1 a2 hS1
end ZNA
end
section
/-! ===== more rules over lists of cells ===== -/
section ZNR
variable {X : zX} {cc : ByteArray} {nL : Nat} {own : String} {mc ms fr lo pc ck sk : Nat} {B : State → Prop} {lv lv' : List (Nat × Value)} {st : List Value} {ws ws' : va_W}

theorem zn_iadd (F : zLr X cc nL own) {x y : Int32} (hd : decode cc pc = .ok (.iadd, 1)) (kk : zN X mc ms fr lo B nL (pc + 1) lv (.int (x + y) :: st) ws ck sk) : zN X mc ms fr lo B nL pc lv (.int y :: .int x :: st) ws ck sk := by
  obtain ⟨p, l, e, s, m, args, below, meth, c, D, cA, ad, A⟩ := X
  obtain ⟨⟨hx, hb, hml, hown, hts, hlk, hK, hA, hE, htr⟩, hAr⟩ := F
  exact fun H locs ls hl hP hD hS => lv_iadd hx hb hd (kk H locs ls hl hP hD hS)

theorem zn_isub (F : zLr X cc nL own) {x y : Int32} (hd : decode cc pc = .ok (.isub, 1)) (kk : zN X mc ms fr lo B nL (pc + 1) lv (.int (x - y) :: st) ws ck sk) : zN X mc ms fr lo B nL pc lv (.int y :: .int x :: st) ws ck sk := by
  obtain ⟨p, l, e, s, m, args, below, meth, c, D, cA, ad, A⟩ := X
  obtain ⟨⟨hx, hb, hml, hown, hts, hlk, hK, hA, hE, htr⟩, hAr⟩ := F
  exact fun H locs ls hl hP hD hS => lv_isub hx hb hd (kk H locs ls hl hP hD hS)

theorem zn_imul (F : zLr X cc nL own) {x y : Int32} (hd : decode cc pc = .ok (.imul, 1)) (kk : zN X mc ms fr lo B nL (pc + 1) lv (.int (x * y) :: st) ws ck sk) : zN X mc ms fr lo B nL pc lv (.int y :: .int x :: st) ws ck sk := by
  obtain ⟨p, l, e, s, m, args, below, meth, c, D, cA, ad, A⟩ := X
  obtain ⟨⟨hx, hb, hml, hown, hts, hlk, hK, hA, hE, htr⟩, hAr⟩ := F
  exact fun H locs ls hl hP hD hS => lv_imul hx hb hd (kk H locs ls hl hP hD hS)

theorem zn_iand (F : zLr X cc nL own) {x y : Int32} (hd : decode cc pc = .ok (.iand, 1)) (kk : zN X mc ms fr lo B nL (pc + 1) lv (.int (x &&& y) :: st) ws ck sk) : zN X mc ms fr lo B nL pc lv (.int y :: .int x :: st) ws ck sk := by
  obtain ⟨p, l, e, s, m, args, below, meth, c, D, cA, ad, A⟩ := X
  obtain ⟨⟨hx, hb, hml, hown, hts, hlk, hK, hA, hE, htr⟩, hAr⟩ := F
  exact fun H locs ls hl hP hD hS => lv_iand hx hb hd (kk H locs ls hl hP hD hS)

theorem zn_ior (F : zLr X cc nL own) {x y : Int32} (hd : decode cc pc = .ok (.ior, 1)) (kk : zN X mc ms fr lo B nL (pc + 1) lv (.int (x ||| y) :: st) ws ck sk) : zN X mc ms fr lo B nL pc lv (.int y :: .int x :: st) ws ck sk := by
  obtain ⟨p, l, e, s, m, args, below, meth, c, D, cA, ad, A⟩ := X
  obtain ⟨⟨hx, hb, hml, hown, hts, hlk, hK, hA, hE, htr⟩, hAr⟩ := F
  exact fun H locs ls hl hP hD hS => lv_ior hx hb hd (kk H locs ls hl hP hD hS)

theorem zn_ixor (F : zLr X cc nL own) {x y : Int32} (hd : decode cc pc = .ok (.ixor, 1)) (kk : zN X mc ms fr lo B nL (pc + 1) lv (.int (x ^^^ y) :: st) ws ck sk) : zN X mc ms fr lo B nL pc lv (.int y :: .int x :: st) ws ck sk := by
  obtain ⟨p, l, e, s, m, args, below, meth, c, D, cA, ad, A⟩ := X
  obtain ⟨⟨hx, hb, hml, hown, hts, hlk, hK, hA, hE, htr⟩, hAr⟩ := F
  exact fun H locs ls hl hP hD hS => lv_ixor hx hb hd (kk H locs ls hl hP hD hS)

theorem zn_ishr (F : zLr X cc nL own) {x y : Int32} (hd : decode cc pc = .ok (.ishr, 1)) (kk : zN X mc ms fr lo B nL (pc + 1) lv (.int (x >>> (y &&& 31)) :: st) ws ck sk) : zN X mc ms fr lo B nL pc lv (.int y :: .int x :: st) ws ck sk := by
  obtain ⟨p, l, e, s, m, args, below, meth, c, D, cA, ad, A⟩ := X
  obtain ⟨⟨hx, hb, hml, hown, hts, hlk, hK, hA, hE, htr⟩, hAr⟩ := F
  exact fun H locs ls hl hP hD hS => lv_ishr hx hb hd (kk H locs ls hl hP hD hS)

theorem zn_ladd (F : zLr X cc nL own) {x y : Int64} (hd : decode cc pc = .ok (.ladd, 1)) (kk : zN X mc ms fr lo B nL (pc + 1) lv (.long (x + y) :: st) ws ck sk) : zN X mc ms fr lo B nL pc lv (.long y :: .long x :: st) ws ck sk := by
  obtain ⟨p, l, e, s, m, args, below, meth, c, D, cA, ad, A⟩ := X
  obtain ⟨⟨hx, hb, hml, hown, hts, hlk, hK, hA, hE, htr⟩, hAr⟩ := F
  exact fun H locs ls hl hP hD hS => lv_ladd hx hb hd (kk H locs ls hl hP hD hS)

theorem zn_lsub (F : zLr X cc nL own) {x y : Int64} (hd : decode cc pc = .ok (.lsub, 1)) (kk : zN X mc ms fr lo B nL (pc + 1) lv (.long (x - y) :: st) ws ck sk) : zN X mc ms fr lo B nL pc lv (.long y :: .long x :: st) ws ck sk := by
  obtain ⟨p, l, e, s, m, args, below, meth, c, D, cA, ad, A⟩ := X
  obtain ⟨⟨hx, hb, hml, hown, hts, hlk, hK, hA, hE, htr⟩, hAr⟩ := F
  exact fun H locs ls hl hP hD hS => lv_lsub hx hb hd (kk H locs ls hl hP hD hS)

theorem zn_lmul (F : zLr X cc nL own) {x y : Int64} (hd : decode cc pc = .ok (.lmul, 1)) (kk : zN X mc ms fr lo B nL (pc + 1) lv (.long (x * y) :: st) ws ck sk) : zN X mc ms fr lo B nL pc lv (.long y :: .long x :: st) ws ck sk := by
  obtain ⟨p, l, e, s, m, args, below, meth, c, D, cA, ad, A⟩ := X
  obtain ⟨⟨hx, hb, hml, hown, hts, hlk, hK, hA, hE, htr⟩, hAr⟩ := F
  exact fun H locs ls hl hP hD hS => lv_lmul hx hb hd (kk H locs ls hl hP hD hS)

theorem zn_idiv (F : zLr X cc nL own) {x y : Int32} (hd : decode cc pc = .ok (.idiv, 1)) (hne : ¬ y = 0) (kk : zN X mc ms fr lo B nL (pc + 1) lv (.int (x / y) :: st) ws ck sk) : zN X mc ms fr lo B nL pc lv (.int y :: .int x :: st) ws ck sk := by
  obtain ⟨p, l, e, s, m, args, below, meth, c, D, cA, ad, A⟩ := X
  obtain ⟨⟨hx, hb, hml, hown, hts, hlk, hK, hA, hE, htr⟩, hAr⟩ := F
  exact fun H locs ls hl hP hD hS => lv_idiv hx hb hd hne (kk H locs ls hl hP hD hS)

theorem zn_irem (F : zLr X cc nL own) {x y : Int32} (hd : decode cc pc = .ok (.irem, 1)) (hne : ¬ y = 0) (kk : zN X mc ms fr lo B nL (pc + 1) lv (.int (x % y) :: st) ws ck sk) : zN X mc ms fr lo B nL pc lv (.int y :: .int x :: st) ws ck sk := by
  obtain ⟨p, l, e, s, m, args, below, meth, c, D, cA, ad, A⟩ := X
  obtain ⟨⟨hx, hb, hml, hown, hts, hlk, hK, hA, hE, htr⟩, hAr⟩ := F
  exact fun H locs ls hl hP hD hS => lv_irem hx hb hd hne (by have h := kk H locs ls hl hP hD hS; rw [← irem_eq_mod] at h; exact h)

theorem zn_ineg (F : zLr X cc nL own) {x : Int32} (hd : decode cc pc = .ok (.ineg, 1)) (kk : zN X mc ms fr lo B nL (pc + 1) lv (.int (-x) :: st) ws ck sk) : zN X mc ms fr lo B nL pc lv (.int x :: st) ws ck sk := by
  obtain ⟨p, l, e, s, m, args, below, meth, c, D, cA, ad, A⟩ := X
  obtain ⟨⟨hx, hb, hml, hown, hts, hlk, hK, hA, hE, htr⟩, hAr⟩ := F
  exact fun H locs ls hl hP hD hS => lv_ineg hx hb hd (kk H locs ls hl hP hD hS)

theorem zn_i2l (F : zLr X cc nL own) {x : Int32} (hd : decode cc pc = .ok (.i2l, 1)) (kk : zN X mc ms fr lo B nL (pc + 1) lv (.long x.toInt64 :: st) ws ck sk) : zN X mc ms fr lo B nL pc lv (.int x :: st) ws ck sk := by
  obtain ⟨p, l, e, s, m, args, below, meth, c, D, cA, ad, A⟩ := X
  obtain ⟨⟨hx, hb, hml, hown, hts, hlk, hK, hA, hE, htr⟩, hAr⟩ := F
  exact fun H locs ls hl hP hD hS => lv_i2l hx hb hd rfl (kk H locs ls hl hP hD hS)

theorem zn_lcmp (F : zLr X cc nL own) {x y : Int64} (hd : decode cc pc = .ok (.lcmp, 1)) (kk : zN X mc ms fr lo B nL (pc + 1) lv (.int (lg_cmp x y) :: st) ws ck sk) : zN X mc ms fr lo B nL pc lv (.long y :: .long x :: st) ws ck sk := by
  obtain ⟨p, l, e, s, m, args, below, meth, c, D, cA, ad, A⟩ := X
  obtain ⟨⟨hx, hb, hml, hown, hts, hlk, hK, hA, hE, htr⟩, hAr⟩ := F
  exact fun H locs ls hl hP hD hS => W.lcmp hx hb hd (kk H locs ls hl hP hD hS)

theorem zn_lconst (F : zLr X cc nL own) {n : Fin 2} {v : Int64} (hd : decode cc pc = .ok (.lconst n, 1)) (hv : Int64.ofNat (n : Nat) = v) (kk : zN X mc ms fr lo B nL (pc + 1) lv (.long v :: st) ws ck sk) : zN X mc ms fr lo B nL pc lv st ws ck sk := by
  obtain ⟨p, l, e, s, m, args, below, meth, c, D, cA, ad, A⟩ := X
  obtain ⟨⟨hx, hb, hml, hown, hts, hlk, hK, hA, hE, htr⟩, hAr⟩ := F
  exact fun H locs ls hl hP hD hS => lv_lconst hx hb hd hv (kk H locs ls hl hP hD hS)

theorem zn_ldc2 (F : zLr X cc nL own) {idx : Nat} {v : Int64} (hd : decode cc pc = .ok (.ldc2_w idx, 3)) (hw : Cond.constantLong own idx v ∈ zTg) (kk : zN X mc ms fr lo B nL (pc + 3) lv (.long v :: st) ws ck sk) : zN X mc ms fr lo B nL pc lv st ws ck sk := by
  obtain ⟨p, l, e, s, m, args, below, meth, c, D, cA, ad, A⟩ := X
  obtain ⟨⟨hx, hb, hml, hown, hts, hlk, hK, hA, hE, htr⟩, hAr⟩ := F
  exact fun H locs ls hl hP hD hS => lv_ldc2 hx hb hown (hts _ hw) hd (kk H locs ls hl hP hD hS)
theorem zn_ldc (F : zLr X cc nL own) {idx : Nat} {v : Int32} (hd : decode cc pc = .ok (.ldc idx, 2)) (hw : Cond.constant own idx v ∈ zTg) (kk : zN X mc ms fr lo B nL (pc + 2) lv (.int v :: st) ws ck sk) : zN X mc ms fr lo B nL pc lv st ws ck sk := by
  obtain ⟨p, l, e, s, m, args, below, meth, c, D, cA, ad, A⟩ := X
  obtain ⟨⟨hx, hb, hml, hown, hts, hlk, hK, hA, hE, htr⟩, hAr⟩ := F
  exact fun H locs ls hl hP hD hS => lv_ldc hx hb hown (hts _ hw) hd (kk H locs ls hl hP hD hS)

theorem zn_pop (F : zLr X cc nL own) {u : Value} (hd : decode cc pc = .ok (.pop, 1)) (uc : u.category = 1) (kk : zN X mc ms fr lo B nL (pc + 1) lv st ws ck sk) : zN X mc ms fr lo B nL pc lv (u :: st) ws ck sk := by
  obtain ⟨p, l, e, s, m, args, below, meth, c, D, cA, ad, A⟩ := X
  obtain ⟨⟨hx, hb, hml, hown, hts, hlk, hK, hA, hE, htr⟩, hAr⟩ := F
  exact fun H locs ls hl hP hD hS => lv_pop hx hb hd uc (kk H locs ls hl hP hD hS)

theorem zn_dup2 (F : zLr X cc nL own) {u v : Value} (hd : decode cc pc = .ok (.dup2, 1)) (uc : u.category = 1) (vc : v.category = 1) (kk : zN X mc ms fr lo B nL (pc + 1) lv (u :: v :: u :: v :: st) ws ck sk) : zN X mc ms fr lo B nL pc lv (u :: v :: st) ws ck sk := by
  obtain ⟨p, l, e, s, m, args, below, meth, c, D, cA, ad, A⟩ := X
  obtain ⟨⟨hx, hb, hml, hown, hts, hlk, hK, hA, hE, htr⟩, hAr⟩ := F
  exact fun H locs ls hl hP hD hS => lv_dup2_11 hx hb hd uc vc (kk H locs ls hl hP hD hS)

theorem zn_dup_x1 (F : zLr X cc nL own) {u v : Value} (hd : decode cc pc = .ok (.dup_x1, 1)) (uc : u.category = 1) (vc : v.category = 1) (kk : zN X mc ms fr lo B nL (pc + 1) lv (u :: v :: u :: st) ws ck sk) : zN X mc ms fr lo B nL pc lv (u :: v :: st) ws ck sk := by
  obtain ⟨p, l, e, s, m, args, below, meth, c, D, cA, ad, A⟩ := X
  obtain ⟨⟨hx, hb, hml, hown, hts, hlk, hK, hA, hE, htr⟩, hAr⟩ := F
  exact fun H locs ls hl hP hD hS => lv_dup_x1 hx hb hd uc vc (kk H locs ls hl hP hD hS)

theorem zn_iload (F : zLr X cc nL own) {i k : Nat} {x : Int32} (hd : decode cc pc = .ok (.iload i, 2)) (hL : lv[k]? = some (i, .int x)) (kk : zN X mc ms fr lo B nL (pc + 2) lv (.int x :: st) ws ck sk) : zN X mc ms fr lo B nL pc lv st ws ck sk := by
  obtain ⟨p, l, e, s, m, args, below, meth, c, D, cA, ad, A⟩ := X
  obtain ⟨⟨hx, hb, hml, hown, hts, hlk, hK, hA, hE, htr⟩, hAr⟩ := F
  exact fun H locs ls hl hP hD hS => lv_iload hx hb hd (lv_at hl k hL) (kk H locs ls hl hP hD hS)

theorem zn_aload (F : zLr X cc nL own) {i k : Nat} {x : Nat} (hd : decode cc pc = .ok (.aload i, 2)) (hL : lv[k]? = some (i, .ref x)) (kk : zN X mc ms fr lo B nL (pc + 2) lv (.ref x :: st) ws ck sk) : zN X mc ms fr lo B nL pc lv st ws ck sk := by
  obtain ⟨p, l, e, s, m, args, below, meth, c, D, cA, ad, A⟩ := X
  obtain ⟨⟨hx, hb, hml, hown, hts, hlk, hK, hA, hE, htr⟩, hAr⟩ := F
  exact fun H locs ls hl hP hD hS => lv_aload hx hb hd (lv_at hl k hL) (kk H locs ls hl hP hD hS)

theorem zn_lload_n (F : zLr X cc nL own) {j : Fin 4} {i k : Nat} {x : Int64} (hd : decode cc pc = .ok (.lload_n j, 1)) (hi : (j : Nat) = i) (hL : lv[k]? = some (i, .long x)) (kk : zN X mc ms fr lo B nL (pc + 1) lv (.long x :: st) ws ck sk) : zN X mc ms fr lo B nL pc lv st ws ck sk := by
  obtain ⟨p, l, e, s, m, args, below, meth, c, D, cA, ad, A⟩ := X
  obtain ⟨⟨hx, hb, hml, hown, hts, hlk, hK, hA, hE, htr⟩, hAr⟩ := F
  exact fun H locs ls hl hP hD hS => lv_lload_n hx hb hd hi (lv_at hl k hL) (kk H locs ls hl hP hD hS)

theorem zn_lload (F : zLr X cc nL own) {i k : Nat} {x : Int64} (hd : decode cc pc = .ok (.lload i, 2)) (hL : lv[k]? = some (i, .long x)) (kk : zN X mc ms fr lo B nL (pc + 2) lv (.long x :: st) ws ck sk) : zN X mc ms fr lo B nL pc lv st ws ck sk := by
  obtain ⟨p, l, e, s, m, args, below, meth, c, D, cA, ad, A⟩ := X
  obtain ⟨⟨hx, hb, hml, hown, hts, hlk, hK, hA, hE, htr⟩, hAr⟩ := F
  exact fun H locs ls hl hP hD hS => lv_lload hx hb hd (lv_at hl k hL) (kk H locs ls hl hP hD hS)

theorem zn_istore (F : zLr X cc nL own) {i : Nat} {x : Int32} (hd : decode cc pc = .ok (.istore i, 2)) (hn : i < nL) (hL : (i, Value.int x) :: lv.filter (fun q => !(q.1 == i) && !(q.1 + 1 == i && q.2.category == 2)) = lv') (kk : zN X mc ms fr lo B nL (pc + 2) lv' st ws ck sk) : zN X mc ms fr lo B nL pc lv (.int x :: st) ws ck sk := by
  obtain ⟨p, l, e, s, m, args, below, meth, c, D, cA, ad, A⟩ := X
  obtain ⟨⟨hx, hb, hml, hown, hts, hlk, hK, hA, hE, htr⟩, hAr⟩ := F
  exact fun H locs ls hl hP hD hS => lv_istore hx hb hd hl hn hL fun ls' h' => kk H locs ls' h' hP hD hS

theorem zn_astore_n (F : zLr X cc nL own) {j : Fin 4} {i : Nat} {x : Nat} (hd : decode cc pc = .ok (.astore_n j, 1)) (hi : (j : Nat) = i) (hn : i < nL) (hL : (i, Value.ref x) :: lv.filter (fun q => !(q.1 == i) && !(q.1 + 1 == i && q.2.category == 2)) = lv') (kk : zN X mc ms fr lo B nL (pc + 1) lv' st ws ck sk) : zN X mc ms fr lo B nL pc lv (.ref x :: st) ws ck sk := by
  obtain ⟨p, l, e, s, m, args, below, meth, c, D, cA, ad, A⟩ := X
  obtain ⟨⟨hx, hb, hml, hown, hts, hlk, hK, hA, hE, htr⟩, hAr⟩ := F
  exact fun H locs ls hl hP hD hS => lv_astore_n hx hb hd hi hl hn hL fun ls' h' => kk H locs ls' h' hP hD hS

theorem zn_astore (F : zLr X cc nL own) {i : Nat} {x : Nat} (hd : decode cc pc = .ok (.astore i, 2)) (hn : i < nL) (hL : (i, Value.ref x) :: lv.filter (fun q => !(q.1 == i) && !(q.1 + 1 == i && q.2.category == 2)) = lv') (kk : zN X mc ms fr lo B nL (pc + 2) lv' st ws ck sk) : zN X mc ms fr lo B nL pc lv (.ref x :: st) ws ck sk := by
  obtain ⟨p, l, e, s, m, args, below, meth, c, D, cA, ad, A⟩ := X
  obtain ⟨⟨hx, hb, hml, hown, hts, hlk, hK, hA, hE, htr⟩, hAr⟩ := F
  exact fun H locs ls hl hP hD hS => lv_astore hx hb hd hl hn hL fun ls' h' => kk H locs ls' h' hP hD hS

theorem zn_lstore_n (F : zLr X cc nL own) {j : Fin 4} {i : Nat} {x : Int64} (hd : decode cc pc = .ok (.lstore_n j, 1)) (hi : (j : Nat) = i) (hn : i + 1 < nL) (hL : (i, Value.long x) :: lv.filter (fun q => !(q.1 == i) && (!(q.1 == i + 1) && !(q.1 + 1 == i && q.2.category == 2))) = lv') (kk : zN X mc ms fr lo B nL (pc + 1) lv' st ws ck sk) : zN X mc ms fr lo B nL pc lv (.long x :: st) ws ck sk := by
  obtain ⟨p, l, e, s, m, args, below, meth, c, D, cA, ad, A⟩ := X
  obtain ⟨⟨hx, hb, hml, hown, hts, hlk, hK, hA, hE, htr⟩, hAr⟩ := F
  exact fun H locs ls hl hP hD hS => lv_lstore_n hx hb hd hi hl hn hL fun ls' h' => kk H locs ls' h' hP hD hS

theorem zn_lstore (F : zLr X cc nL own) {i : Nat} {x : Int64} (hd : decode cc pc = .ok (.lstore i, 2)) (hn : i + 1 < nL) (hL : (i, Value.long x) :: lv.filter (fun q => !(q.1 == i) && (!(q.1 == i + 1) && !(q.1 + 1 == i && q.2.category == 2))) = lv') (kk : zN X mc ms fr lo B nL (pc + 2) lv' st ws ck sk) : zN X mc ms fr lo B nL pc lv (.long x :: st) ws ck sk := by
  obtain ⟨p, l, e, s, m, args, below, meth, c, D, cA, ad, A⟩ := X
  obtain ⟨⟨hx, hb, hml, hown, hts, hlk, hK, hA, hE, htr⟩, hAr⟩ := F
  exact fun H locs ls hl hP hD hS => lv_lstore hx hb hd hl hn hL fun ls' h' => kk H locs ls' h' hP hD hS

theorem zn_icmp_eq (F : zLr X cc nL own) {x y : Int32} {off : Int} {tgt : Nat} (hd : decode cc pc = .ok (.if_icmp .eq off, 3)) (ht : (pc : Int) + off = (tgt : Int)) (kt : x = y → zN X mc ms fr lo B nL tgt lv st ws ck sk) (kf : ¬ (x = y) → zN X mc ms fr lo B nL (pc + 3) lv st ws ck sk) : zN X mc ms fr lo B nL pc lv (.int y :: .int x :: st) ws ck sk := by
  obtain ⟨p, l, e, s, m, args, below, meth, c, D, cA, ad, A⟩ := X
  obtain ⟨⟨hx, hb, hml, hown, hts, hlk, hK, hA, hE, htr⟩, hAr⟩ := F
  exact fun H locs ls hl hP hD hS => lv_icmp_eq hx hb hd ht (fun h => kt h H locs ls hl hP hD hS) (fun h => kf h H locs ls hl hP hD hS)

theorem zn_if_eq (F : zLr X cc nL own) {x : Int32} {off : Int} {tgt : Nat} (hd : decode cc pc = .ok (.ifCond .eq off, 3)) (ht : (pc : Int) + off = (tgt : Int)) (kt : x = 0 → zN X mc ms fr lo B nL tgt lv st ws ck sk) (kf : ¬ (x = 0) → zN X mc ms fr lo B nL (pc + 3) lv st ws ck sk) : zN X mc ms fr lo B nL pc lv (.int x :: st) ws ck sk := by
  obtain ⟨p, l, e, s, m, args, below, meth, c, D, cA, ad, A⟩ := X
  obtain ⟨⟨hx, hb, hml, hown, hts, hlk, hK, hA, hE, htr⟩, hAr⟩ := F
  exact fun H locs ls hl hP hD hS => lv_if_eq hx hb hd ht (fun h => kt h H locs ls hl hP hD hS) (fun h => kf h H locs ls hl hP hD hS)

theorem zn_icmp_ne (F : zLr X cc nL own) {x y : Int32} {off : Int} {tgt : Nat} (hd : decode cc pc = .ok (.if_icmp .ne off, 3)) (ht : (pc : Int) + off = (tgt : Int)) (kt : ¬ x = y → zN X mc ms fr lo B nL tgt lv st ws ck sk) (kf : x = y → zN X mc ms fr lo B nL (pc + 3) lv st ws ck sk) : zN X mc ms fr lo B nL pc lv (.int y :: .int x :: st) ws ck sk := by
  obtain ⟨p, l, e, s, m, args, below, meth, c, D, cA, ad, A⟩ := X
  obtain ⟨⟨hx, hb, hml, hown, hts, hlk, hK, hA, hE, htr⟩, hAr⟩ := F
  exact fun H locs ls hl hP hD hS => lv_icmp_ne hx hb hd ht (fun h => kt h H locs ls hl hP hD hS) (fun h => kf h H locs ls hl hP hD hS)

theorem zn_if_ne (F : zLr X cc nL own) {x : Int32} {off : Int} {tgt : Nat} (hd : decode cc pc = .ok (.ifCond .ne off, 3)) (ht : (pc : Int) + off = (tgt : Int)) (kt : ¬ x = 0 → zN X mc ms fr lo B nL tgt lv st ws ck sk) (kf : x = 0 → zN X mc ms fr lo B nL (pc + 3) lv st ws ck sk) : zN X mc ms fr lo B nL pc lv (.int x :: st) ws ck sk := by
  obtain ⟨p, l, e, s, m, args, below, meth, c, D, cA, ad, A⟩ := X
  obtain ⟨⟨hx, hb, hml, hown, hts, hlk, hK, hA, hE, htr⟩, hAr⟩ := F
  exact fun H locs ls hl hP hD hS => lv_if_ne hx hb hd ht (fun h => kt h H locs ls hl hP hD hS) (fun h => kf h H locs ls hl hP hD hS)

theorem zn_icmp_lt (F : zLr X cc nL own) {x y : Int32} {off : Int} {tgt : Nat} (hd : decode cc pc = .ok (.if_icmp .lt off, 3)) (ht : (pc : Int) + off = (tgt : Int)) (kt : x < y → zN X mc ms fr lo B nL tgt lv st ws ck sk) (kf : ¬ (x < y) → zN X mc ms fr lo B nL (pc + 3) lv st ws ck sk) : zN X mc ms fr lo B nL pc lv (.int y :: .int x :: st) ws ck sk := by
  obtain ⟨p, l, e, s, m, args, below, meth, c, D, cA, ad, A⟩ := X
  obtain ⟨⟨hx, hb, hml, hown, hts, hlk, hK, hA, hE, htr⟩, hAr⟩ := F
  exact fun H locs ls hl hP hD hS => lv_icmp_lt hx hb hd ht (fun h => kt h H locs ls hl hP hD hS) (fun h => kf h H locs ls hl hP hD hS)

theorem zn_if_lt (F : zLr X cc nL own) {x : Int32} {off : Int} {tgt : Nat} (hd : decode cc pc = .ok (.ifCond .lt off, 3)) (ht : (pc : Int) + off = (tgt : Int)) (kt : x < 0 → zN X mc ms fr lo B nL tgt lv st ws ck sk) (kf : ¬ (x < 0) → zN X mc ms fr lo B nL (pc + 3) lv st ws ck sk) : zN X mc ms fr lo B nL pc lv (.int x :: st) ws ck sk := by
  obtain ⟨p, l, e, s, m, args, below, meth, c, D, cA, ad, A⟩ := X
  obtain ⟨⟨hx, hb, hml, hown, hts, hlk, hK, hA, hE, htr⟩, hAr⟩ := F
  exact fun H locs ls hl hP hD hS => lv_if_lt hx hb hd ht (fun h => kt h H locs ls hl hP hD hS) (fun h => kf h H locs ls hl hP hD hS)

theorem zn_icmp_ge (F : zLr X cc nL own) {x y : Int32} {off : Int} {tgt : Nat} (hd : decode cc pc = .ok (.if_icmp .ge off, 3)) (ht : (pc : Int) + off = (tgt : Int)) (kt : y ≤ x → zN X mc ms fr lo B nL tgt lv st ws ck sk) (kf : ¬ (y ≤ x) → zN X mc ms fr lo B nL (pc + 3) lv st ws ck sk) : zN X mc ms fr lo B nL pc lv (.int y :: .int x :: st) ws ck sk := by
  obtain ⟨p, l, e, s, m, args, below, meth, c, D, cA, ad, A⟩ := X
  obtain ⟨⟨hx, hb, hml, hown, hts, hlk, hK, hA, hE, htr⟩, hAr⟩ := F
  exact fun H locs ls hl hP hD hS => lv_icmp_ge hx hb hd ht (fun h => kt h H locs ls hl hP hD hS) (fun h => kf h H locs ls hl hP hD hS)

theorem zn_if_ge (F : zLr X cc nL own) {x : Int32} {off : Int} {tgt : Nat} (hd : decode cc pc = .ok (.ifCond .ge off, 3)) (ht : (pc : Int) + off = (tgt : Int)) (kt : 0 ≤ x → zN X mc ms fr lo B nL tgt lv st ws ck sk) (kf : ¬ (0 ≤ x) → zN X mc ms fr lo B nL (pc + 3) lv st ws ck sk) : zN X mc ms fr lo B nL pc lv (.int x :: st) ws ck sk := by
  obtain ⟨p, l, e, s, m, args, below, meth, c, D, cA, ad, A⟩ := X
  obtain ⟨⟨hx, hb, hml, hown, hts, hlk, hK, hA, hE, htr⟩, hAr⟩ := F
  exact fun H locs ls hl hP hD hS => lv_if_ge hx hb hd ht (fun h => kt h H locs ls hl hP hD hS) (fun h => kf h H locs ls hl hP hD hS)

theorem zn_icmp_gt (F : zLr X cc nL own) {x y : Int32} {off : Int} {tgt : Nat} (hd : decode cc pc = .ok (.if_icmp .gt off, 3)) (ht : (pc : Int) + off = (tgt : Int)) (kt : y < x → zN X mc ms fr lo B nL tgt lv st ws ck sk) (kf : ¬ (y < x) → zN X mc ms fr lo B nL (pc + 3) lv st ws ck sk) : zN X mc ms fr lo B nL pc lv (.int y :: .int x :: st) ws ck sk := by
  obtain ⟨p, l, e, s, m, args, below, meth, c, D, cA, ad, A⟩ := X
  obtain ⟨⟨hx, hb, hml, hown, hts, hlk, hK, hA, hE, htr⟩, hAr⟩ := F
  exact fun H locs ls hl hP hD hS => lv_icmp_gt hx hb hd ht (fun h => kt h H locs ls hl hP hD hS) (fun h => kf h H locs ls hl hP hD hS)

theorem zn_if_gt (F : zLr X cc nL own) {x : Int32} {off : Int} {tgt : Nat} (hd : decode cc pc = .ok (.ifCond .gt off, 3)) (ht : (pc : Int) + off = (tgt : Int)) (kt : 0 < x → zN X mc ms fr lo B nL tgt lv st ws ck sk) (kf : ¬ (0 < x) → zN X mc ms fr lo B nL (pc + 3) lv st ws ck sk) : zN X mc ms fr lo B nL pc lv (.int x :: st) ws ck sk := by
  obtain ⟨p, l, e, s, m, args, below, meth, c, D, cA, ad, A⟩ := X
  obtain ⟨⟨hx, hb, hml, hown, hts, hlk, hK, hA, hE, htr⟩, hAr⟩ := F
  exact fun H locs ls hl hP hD hS => lv_if_gt hx hb hd ht (fun h => kt h H locs ls hl hP hD hS) (fun h => kf h H locs ls hl hP hD hS)

theorem zn_icmp_le (F : zLr X cc nL own) {x y : Int32} {off : Int} {tgt : Nat} (hd : decode cc pc = .ok (.if_icmp .le off, 3)) (ht : (pc : Int) + off = (tgt : Int)) (kt : x ≤ y → zN X mc ms fr lo B nL tgt lv st ws ck sk) (kf : ¬ (x ≤ y) → zN X mc ms fr lo B nL (pc + 3) lv st ws ck sk) : zN X mc ms fr lo B nL pc lv (.int y :: .int x :: st) ws ck sk := by
  obtain ⟨p, l, e, s, m, args, below, meth, c, D, cA, ad, A⟩ := X
  obtain ⟨⟨hx, hb, hml, hown, hts, hlk, hK, hA, hE, htr⟩, hAr⟩ := F
  exact fun H locs ls hl hP hD hS => lv_icmp_le hx hb hd ht (fun h => kt h H locs ls hl hP hD hS) (fun h => kf h H locs ls hl hP hD hS)

theorem zn_if_le (F : zLr X cc nL own) {x : Int32} {off : Int} {tgt : Nat} (hd : decode cc pc = .ok (.ifCond .le off, 3)) (ht : (pc : Int) + off = (tgt : Int)) (kt : x ≤ 0 → zN X mc ms fr lo B nL tgt lv st ws ck sk) (kf : ¬ (x ≤ 0) → zN X mc ms fr lo B nL (pc + 3) lv st ws ck sk) : zN X mc ms fr lo B nL pc lv (.int x :: st) ws ck sk := by
  obtain ⟨p, l, e, s, m, args, below, meth, c, D, cA, ad, A⟩ := X
  obtain ⟨⟨hx, hb, hml, hown, hts, hlk, hK, hA, hE, htr⟩, hAr⟩ := F
  exact fun H locs ls hl hP hD hS => lv_if_le hx hb hd ht (fun h => kt h H locs ls hl hP hD hS) (fun h => kf h H locs ls hl hP hD hS)

theorem zn_tableOut (F : zLr X cc nL own) {dflt lw hi : Int} {offs : Array Int} {len tgt : Nat} {x : Int32} (hd : decode cc pc = .ok (.tableswitch dflt lw hi offs, len)) (h : x.toInt < lw ∨ hi < x.toInt) (ht : (pc : Int) + dflt = (tgt : Int)) (kk : zN X mc ms fr lo B nL tgt lv st ws ck sk) : zN X mc ms fr lo B nL pc lv (.int x :: st) ws ck sk := by
  obtain ⟨p, l, e, s, m, args, below, meth, c, D, cA, ad, A⟩ := X
  obtain ⟨⟨hx, hb, hml, hown, hts, hlk, hK, hA, hE, htr⟩, hAr⟩ := F
  exact fun H locs ls hl hP hD hS => lv_tableOut hx hb hd h ht (kk H locs ls hl hP hD hS)
theorem zn_tableIn (F : zLr X cc nL own) {dflt lw hi off : Int} {offs : Array Int} {len tgt : Nat} {x : Int32} (hd : decode cc pc = .ok (.tableswitch dflt lw hi offs, len)) (h1 : ¬ x.toInt < lw) (h2 : ¬ hi < x.toInt) (ho : offs[(x.toInt - lw).toNat]? = some off) (ht : (pc : Int) + off = (tgt : Int)) (kk : zN X mc ms fr lo B nL tgt lv st ws ck sk) : zN X mc ms fr lo B nL pc lv (.int x :: st) ws ck sk := by
  obtain ⟨p, l, e, s, m, args, below, meth, c, D, cA, ad, A⟩ := X
  obtain ⟨⟨hx, hb, hml, hown, hts, hlk, hK, hA, hE, htr⟩, hAr⟩ := F
  exact fun H locs ls hl hP hD hS => lv_tableIn hx hb hd h1 h2 ho ht (kk H locs ls hl hP hD hS)

theorem zn_ireturn (F : zLr X cc nL own) (hr : zRt X (some .int)) {x : Int32} {Bo : Option Value → va_W → Prop} (hd : decode cc pc = .ok (.ireturn, 1)) (hB : Bo (some (.int x)) ws) (hck : ck ≤ mc) (hsk : sk ≤ ms) : zN X mc ms fr lo (zNQ X mc ms Bo) nL pc lv [.int x] ws ck sk := by
  obtain ⟨p, l, e, s, m, args, below, meth, c, D, cA, ad, A⟩ := X
  obtain ⟨⟨hx, hb, hml, hown, hts, hlk, hK, hA, hE, htr⟩, hAr⟩ := F
  intro H locs ls hl hP hD hS
  refine W.widen (k := mc) (n := ms) hck hsk ?_
  exact W.iret hx hb hr (fun t ht hW => ⟨_, rfl, ⟨ws, hB, by rw [ht]; exact hP, hD⟩, hS.F ht⟩) hS.2.2 hd hlk

theorem zn_lreturn (F : zLr X cc nL own) (hr : zRt X (some .long)) {x : Int64} {Bo : Option Value → va_W → Prop} (hd : decode cc pc = .ok (.lreturn, 1)) (hB : Bo (some (.long x)) ws) (hck : ck ≤ mc) (hsk : sk ≤ ms) : zN X mc ms fr lo (zNQ X mc ms Bo) nL pc lv [.long x] ws ck sk := by
  obtain ⟨p, l, e, s, m, args, below, meth, c, D, cA, ad, A⟩ := X
  obtain ⟨⟨hx, hb, hml, hown, hts, hlk, hK, hA, hE, htr⟩, hAr⟩ := F
  intro H locs ls hl hP hD hS
  refine W.widen (k := mc) (n := ms) hck hsk ?_
  exact W.lret hx hb hr (fun t ht hW => ⟨_, rfl, ⟨ws, hB, by rw [ht]; exact hP, hD⟩, hS.F ht⟩) hS.2.2 hd hlk

theorem zn_zreturn (F : zLr X cc nL own) (hr : zRt X (some .boolean)) {x : Int32} {Bo : Option Value → va_W → Prop} (hd : decode cc pc = .ok (.ireturn, 1)) (hn : narrow .boolean (.int x) = .int x) (hB : Bo (some (.int x)) ws) (hck : ck ≤ mc) (hsk : sk ≤ ms) : zN X mc ms fr lo (zNQ X mc ms Bo) nL pc lv [.int x] ws ck sk := by
  obtain ⟨p, l, e, s, m, args, below, meth, c, D, cA, ad, A⟩ := X
  obtain ⟨⟨hx, hb, hml, hown, hts, hlk, hK, hA, hE, htr⟩, hAr⟩ := F
  intro H locs ls hl hP hD hS
  refine W.widen (k := mc) (n := ms) hck hsk ?_
  exact W.zret hx hb hr hn (fun t ht hW => ⟨_, rfl, ⟨ws, hB, by rw [ht]; exact hP, hD⟩, hS.F ht⟩) hS.2.2 hd hlk
theorem zn_iald (F : zLr X cc nL own) {a q0 n : Nat} {f : Nat → Int32} {i : Int32} {jn : Nat} {x : Int32} (hd : decode cc pc = .ok (.iaload, 1)) (ha : ws[q0]? = some (a, .inl (X.2.2.2.2.2.2.2.2.2.2.1 0, n, .inl f))) (hin0 : vp_in i n) (hjn : i.toNatClampNeg = jn) (hx0 : f jn = x) (kk : zN X mc ms fr lo B nL (pc + 1) lv (.int x :: st) ws ck sk) : zN X mc ms fr lo B nL pc lv (.int i :: .ref a :: st) ws ck sk := by
  obtain ⟨p, l, e, s, m, args, below, meth, c, D, cA, ad, A⟩ := X
  obtain ⟨⟨hx, hb, hml, hown, hts, hlk, hK, hA, hE, htr⟩, hAr⟩ := F
  subst hjn; subst hx0
  exact fun H locs ls hl hP hD hS => va_iald hx hb hK hP q0 0 ha (ztl_at (by decide)) hin0 hd (kk H locs ls hl hP hD hS)
theorem zn_copy (F : zLr X cc nL own) {idx q0 q1 a0 a1 n0 n1 : Nat} {f g h : Nat → Int32} {sp dp n : Int32} (hd : decode cc pc = .ok (.invokestatic idx, 3)) (hw : Cond.methodLink own idx arraycopyName ∈ zTg ∧ Cond.native arraycopyName ∈ zTg ∧ Cond.static arraycopyName ∈ zTg ∧ Cond.initialized "java/lang/System" ∈ zTg)
    (ha0 : ws[q0]? = some (a0, .inl (X.2.2.2.2.2.2.2.2.2.2.1 0, n0, .inl f))) (ha1 : ws[q1]? = some (a1, .inl (X.2.2.2.2.2.2.2.2.2.2.1 0, n1, .inl g))) (h1 : ¬ sp < 0) (h2 : ¬ dp < 0) (h3 : ¬ n < 0) (h4 : sp.toNatClampNeg + n.toNatClampNeg ≤ n0) (h5 : dp.toNatClampNeg + n.toNatClampNeg ≤ n1) (hfr : 1 ≤ fr) (hlo : (st.map fun v => v.category).sum + (nativeFrameWords "java/lang/System" "arraycopy" 5 + 11) ≤ lo)
    (hh : va_cpy f g sp.toNatClampNeg dp.toNatClampNeg n.toNatClampNeg = h) (hws : ws.set q1 (a1, .inl (X.2.2.2.2.2.2.2.2.2.2.1 0, n1, .inl h)) = ws') (kk : zN X mc ms fr lo B nL (pc + 3) lv st ws' ck sk) : zN X mc ms fr lo B nL pc lv (.int n :: .int dp :: .ref a1 :: .int sp :: .ref a0 :: st) ws ck sk := by
  obtain ⟨p, l, e, s, m, args, below, meth, c, D, cA, ad, A⟩ := X
  obtain ⟨⟨hx, hb, hml, hown, hts, hlk, hK, hA, hE, htr⟩, hAr⟩ := F
  subst hh; subst hws
  intro H locs ls hl hP hD hS
  exact va_copyi hx hb (hml.trans hl.1.symm) hown (hts _ hw.1) (hts _ hw.2.1) (hts _ hw.2.2.1) (hts _ hw.2.2.2) hK hP hD hS q0 q1 0 0 ha0 ha1 (ty := .int) (ztl_at (by decide)) (ztl_at (by decide)) rfl h1 h2 h3 h4 h5 (fun i _ => rfl) hfr hlo hd fun H1 locs1 hP1 hD1 hS1 => kk H1 locs1 ls hl hP1 hD1 hS1
theorem zn_max (F : zLr X cc nL own) {x y : Int32} {idx : Nat} (hd : decode cc pc = .ok (.invokestatic idx, 3)) (hw : Cond.methodLink own idx Lib.Math.max.name ∈ zTg ∧ Cond.static Lib.Math.max.name ∈ zTg ∧ Cond.initialized "java/lang/Math" ∈ zTg ∧ Cond.code Lib.Math.max.name Lib.Math.max.code 2 (some .int) ∈ zTg) (hfr : 1 ≤ fr) (hlo : (st.map fun v => v.category).sum + 13 ≤ lo) (hck : ck ≤ mc) (hsk : sk ≤ ms) (kk : zN X mc ms fr lo B nL (pc + 3) lv (.int (if x < y then y else x) :: st) ws ck sk) : zN X mc ms fr lo B nL pc lv (.int y :: .int x :: st) ws ck sk := by
  obtain ⟨p, l, e, s, m, args, below, meth, c, D, cA, ad, A⟩ := X
  obtain ⟨⟨hx, hb, hml, hown, hts, hlk, hK, hA, hE, htr⟩, hAr⟩ := F
  exact fun H locs ls hl hP hD hS => va_mmax hx hb (hml.trans hl.1.symm) hown (hts _ hw.1) (hts _ hw.2.1) (hts _ hw.2.2.1) (hts _ hw.2.2.2) hfr hlo hck hsk hd (kk H locs ls hl hP hD hS)
theorem zn_areturn (F : zLr X cc nL own) {C : String} (hr : zRt X (some (.object C))) {a : Nat} {Bo : Option Value → va_W → Prop} (hd : decode cc pc = .ok (.areturn, 1)) (hB : Bo (some (.ref a)) ws) (hck : ck ≤ mc) (hsk : sk ≤ ms) : zN X mc ms fr lo (zNQ X mc ms Bo) nL pc lv [.ref a] ws ck sk := by
  obtain ⟨p, l, e, s, m, args, below, meth, c, D, cA, ad, A⟩ := X
  obtain ⟨⟨hx, hb, hml, hown, hts, hlk, hK, hA, hE, htr⟩, hAr⟩ := F
  intro H locs ls hl hP hD hS
  refine W.widen (k := mc) (n := ms) hck hsk ?_
  exact W.aret hx hb hr (Or.inl ⟨_, rfl⟩) (Or.inr ⟨_, rfl⟩) (fun t ht hW => ⟨_, rfl, ⟨ws, hB, by rw [ht]; exact hP, hD⟩, hS.F ht⟩) hS.2.2 hd hlk
theorem zn_dreturn (F : zLr X cc nL own) (hr : zRt X (some .double)) {x : UInt64} {Bo : Option Value → va_W → Prop} (hd : decode cc pc = .ok (.dreturn, 1)) (hB : Bo (some (.double x)) ws) (hck : ck ≤ mc) (hsk : sk ≤ ms) : zN X mc ms fr lo (zNQ X mc ms Bo) nL pc lv [.double x] ws ck sk := by
  obtain ⟨p, l, e, s, m, args, below, meth, c, D, cA, ad, A⟩ := X
  obtain ⟨⟨hx, hb, hml, hown, hts, hlk, hK, hA, hE, htr⟩, hAr⟩ := F
  intro H locs ls hl hP hD hS
  refine W.widen (k := mc) (n := ms) hck hsk ?_
  exact W.dret hx hb hr (fun t ht hW => ⟨_, rfl, ⟨ws, hB, by rw [ht]; exact hP, hD⟩, hS.F ht⟩) hS.2.2 hd hlk
theorem zn_dconst0 (F : zLr X cc nL own) (hd : decode cc pc = .ok (.dconst 0, 1)) (kk : zN X mc ms fr lo B nL (pc + 1) lv (.double FP.dconst0 :: st) ws ck sk) : zN X mc ms fr lo B nL pc lv st ws ck sk := by
  obtain ⟨p, l, e, s, m, args, below, meth, c, D, cA, ad, A⟩ := X
  obtain ⟨⟨hx, hb, hml, hown, hts, hlk, hK, hA, hE, htr⟩, hAr⟩ := F
  exact fun H locs ls hl hP hD hS => lv_dconst0 hx hb hd (kk H locs ls hl hP hD hS)
theorem zn_dload (F : zLr X cc nL own) {i k : Nat} {x : UInt64} (hd : decode cc pc = .ok (.dload i, 2)) (hL : lv[k]? = some (i, .double x)) (kk : zN X mc ms fr lo B nL (pc + 2) lv (.double x :: st) ws ck sk) : zN X mc ms fr lo B nL pc lv st ws ck sk := by
  obtain ⟨p, l, e, s, m, args, below, meth, c, D, cA, ad, A⟩ := X
  obtain ⟨⟨hx, hb, hml, hown, hts, hlk, hK, hA, hE, htr⟩, hAr⟩ := F
  exact fun H locs ls hl hP hD hS => lv_dload hx hb hd (lv_at hl k hL) (kk H locs ls hl hP hD hS)
theorem zn_dstore (F : zLr X cc nL own) {i : Nat} {x : UInt64} (hd : decode cc pc = .ok (.dstore i, 2)) (hn : i + 1 < nL) (hL : (i, Value.double x) :: lv.filter (fun q => !(q.1 == i) && (!(q.1 == i + 1) && !(q.1 + 1 == i && q.2.category == 2))) = lv') (kk : zN X mc ms fr lo B nL (pc + 2) lv' st ws ck sk) : zN X mc ms fr lo B nL pc lv (.double x :: st) ws ck sk := by
  obtain ⟨p, l, e, s, m, args, below, meth, c, D, cA, ad, A⟩ := X
  obtain ⟨⟨hx, hb, hml, hown, hts, hlk, hK, hA, hE, htr⟩, hAr⟩ := F
  exact fun H locs ls hl hP hD hS => lv_dstore hx hb hd hl hn hL fun ls' h' => kk H locs ls' h' hP hD hS
theorem zn_dcmp (F : zLr X cc nL own) {x y : UInt64} {op : CmpOp} (hd : decode cc pc = .ok (.dcmp op, 1)) (kk : zN X mc ms fr lo B nL (pc + 1) lv (.int (Op.cmpValue (FP.dcmp x y) op) :: st) ws ck sk) : zN X mc ms fr lo B nL pc lv (.double y :: .double x :: st) ws ck sk := by
  obtain ⟨p, l, e, s, m, args, below, meth, c, D, cA, ad, A⟩ := X
  obtain ⟨⟨hx, hb, hml, hown, hts, hlk, hK, hA, hE, htr⟩, hAr⟩ := F
  exact fun H locs ls hl hP hD hS => lv_dcmp hx hb hd (kk H locs ls hl hP hD hS)
theorem zn_alen (F : zLr X cc nL own) {a q0 n t : Nat} {x} {v : Int32} (hd : decode cc pc = .ok (.arraylength, 1)) (ha : ws[q0]? = some (a, .inl (X.2.2.2.2.2.2.2.2.2.2.1 t, n, x))) (ht : t < zTn) (hv : Int32.ofNat n = v) (kk : zN X mc ms fr lo B nL (pc + 1) lv (.int v :: st) ws ck sk) : zN X mc ms fr lo B nL pc lv (.ref a :: st) ws ck sk := by
  obtain ⟨p, l, e, s, m, args, below, meth, c, D, cA, ad, A⟩ := X
  obtain ⟨⟨hx, hb, hml, hown, hts, hlk, hK, hA, hE, htr⟩, hAr⟩ := F
  exact fun H locs ls hl hP hD hS => va_alen hx hb hK hP q0 t ha (ztl_at ht) hv hd (kk H locs ls hl hP hD hS)
theorem zn_aald (F : zLr X cc nL own) {a q0 n b : Nat} {f : Nat → Option Nat} {i : Int32} {jn : Nat} (hd : decode cc pc = .ok (.aaload, 1)) (ha : ws[q0]? = some (a, .inl (X.2.2.2.2.2.2.2.2.2.2.1 4, n, .inr (.inr (.inr (.inr f)))))) (hin0 : vp_in i n) (hjn : i.toNatClampNeg = jn) (hx0 : f jn = some b) (kk : zN X mc ms fr lo B nL (pc + 1) lv (.ref b :: st) ws ck sk) : zN X mc ms fr lo B nL pc lv (.int i :: .ref a :: st) ws ck sk := by
  obtain ⟨p, l, e, s, m, args, below, meth, c, D, cA, ad, A⟩ := X
  obtain ⟨⟨hx, hb, hml, hown, hts, hlk, hK, hA, hE, htr⟩, hAr⟩ := F
  subst hjn
  have hlt : i.toNatClampNeg < n := Nat.not_le.mp fun q => hin0 (Or.inr q)
  exact fun H locs ls hl hP hD hS => W.aald (v := .ref b) (ty := .array .int) hx hb (hP q0 _ ha) ((hK.2 4 _ (ztl_at (by decide))).1 n (fun j => va_rf (f j))) rfl (fun q => by cases q) (by show ¬ (i < 0 ∨ (arrV _ _ _).slots.size ≤ _); rw [arrV_size]; exact hin0) (by show (arrV _ _ _).slots[_]? = _; rw [arrV_read _ _ hlt, hx0]; rfl) rfl rfl hd (kk H locs ls hl hP hD hS)
theorem zn_last (F : zLr X cc nL own) {a q0 n t : Nat} {f : Nat → Int64} {i : Int32} {jn : Nat} {x : Int64} (hd : decode cc pc = .ok (.lastore, 1)) (ha : ws[q0]? = some (a, .inl (X.2.2.2.2.2.2.2.2.2.2.1 t, n, .inr (.inl f)))) (ht : t < zTn) (hty : zty t = .long) (hin0 : vp_in i n) (hjn : i.toNatClampNeg = jn) (hws : ws.set q0 (a, .inl (X.2.2.2.2.2.2.2.2.2.2.1 t, n, .inr (.inl (vp_updL f jn x)))) = ws') (kk : zN X mc ms fr lo B nL (pc + 1) lv st ws' ck sk) : zN X mc ms fr lo B nL pc lv (.long x :: .int i :: .ref a :: st) ws ck sk := by
  obtain ⟨p, l, e, s, m, args, below, meth, c, D, cA, ad, A⟩ := X
  obtain ⟨⟨hx, hb, hml, hown, hts, hlk, hK, hA, hE, htr⟩, hAr⟩ := F
  subst hjn; subst hws
  exact fun H locs ls hl hP hD hS => va_last hx hb hK hP hD hS q0 t ha (by rw [ztl_at ht, hty]) hin0 hd fun H1 locs1 hP1 hD1 hS1 => kk H1 locs1 ls hl hP1 hD1 hS1
theorem zn_lald (F : zLr X cc nL own) {a q0 n t : Nat} {f : Nat → Int64} {i : Int32} {jn : Nat} {x : Int64} (hd : decode cc pc = .ok (.laload, 1)) (ha : ws[q0]? = some (a, .inl (X.2.2.2.2.2.2.2.2.2.2.1 t, n, .inr (.inl f)))) (ht : t < zTn) (hty : zty t = .long) (hin0 : vp_in i n) (hjn : i.toNatClampNeg = jn) (hx0 : f jn = x) (kk : zN X mc ms fr lo B nL (pc + 1) lv (.long x :: st) ws ck sk) : zN X mc ms fr lo B nL pc lv (.int i :: .ref a :: st) ws ck sk := by
  obtain ⟨p, l, e, s, m, args, below, meth, c, D, cA, ad, A⟩ := X
  obtain ⟨⟨hx, hb, hml, hown, hts, hlk, hK, hA, hE, htr⟩, hAr⟩ := F
  subst hjn; subst hx0
  exact fun H locs ls hl hP hD hS => va_lald hx hb hK hP q0 t ha (by rw [ztl_at ht, hty]) hin0 hd (kk H locs ls hl hP hD hS)
theorem zn_newl (F : zLr X cc nL own) {n : Int32} {N t : Nat} (hd : decode cc pc = .ok (.newarray .long, 2)) (hw : Cond.arrayClass .long ∈ zTg) (ht : t < zTn) (hty : zty t = .long) (hn : ¬ n < 0) (hN : n.toNatClampNeg = N) (hb8 : N * 8 ≤ 536870912) (hck : ck + 1 ≤ mc) (hsk : sk + N ≤ ms) (kk : ∀ q : Nat, zN X mc ms fr lo B nL (pc + 2) lv (.ref q :: st) (ws ++ [(q, .inl (X.2.2.2.2.2.2.2.2.2.2.1 t, N, .inr (.inl (fun _ => 0))))]) (ck + 1) (sk + N)) : zN X mc ms fr lo B nL pc lv (.int n :: st) ws ck sk := by
  obtain ⟨p, l, e, s, m, args, below, meth, c, D, cA, ad, A⟩ := X
  obtain ⟨⟨hx, hb, hml, hown, hts, hlk, hK, hA, hE, htr⟩, hAr⟩ := F
  intro H locs ls hl hP hD hS
  refine va_newa hx hb (atype := .long) (hts _ hw) (ty := .long) rfl hK hP hD hS hA (a0 := (N, .inr (.inl (fun _ => 0)))) (fun _ => rfl) hn hN hb8 hck hsk hd fun q cA' H1 hK1 hP1 hD1 hS1 => ?_
  have e1 := (hK.2 t _ (ztl_at ht)).2
  rw [hty] at e1
  have e1 : s.vm.findClass ("[" ++ FieldType.long.toString) = some (cA t) := e1
  have e2 : s.vm.findClass ("[" ++ FieldType.long.toString) = some cA' := (hK1.2 (ztl cA).length (cA', .long) (by rw [List.getElem?_append_right (Nat.le_refl _), Nat.sub_self]; rfl)).2
  cases zcls_eq e1 e2
  exact kk q H1 locs ls hl hP1 hD1 hS1
/-- the cells in any other order -/
theorem zn_perm (h : ws.Perm ws') (kk : zN X mc ms fr lo B nL pc lv st ws' ck sk) : zN X mc ms fr lo B nL pc lv st ws ck sk := by
  obtain ⟨p, l, e, s, m, args, below, meth, c, D, cA, ad, A⟩ := X
  refine fun H locs ls hl hP hD hS => kk H locs ls hl (va_P_perm hP fun x hx => h.mem_iff.mpr hx) ⟨fun i j x y hi hj hxy => ?_, fun k x hx => ?_⟩ hS
  · have hnd : (ws.map Prod.fst).Nodup := by
      unfold List.Nodup
      rw [List.pairwise_iff_getElem]
      intro i j hi hj hij e
      rw [List.length_map] at hi hj
      rw [List.getElem_map, List.getElem_map] at e
      have := hD.1 i j ws[i] ws[j] (List.getElem?_eq_getElem hi) (List.getElem?_eq_getElem hj) e
      omega
    have hnd' : (ws'.map Prod.fst).Nodup := (h.map Prod.fst).nodup_iff.mp hnd
    unfold List.Nodup at hnd'
    rw [List.pairwise_iff_getElem] at hnd'
    obtain ⟨hi1, hi2⟩ := List.getElem?_eq_some_iff.mp hi
    obtain ⟨hj1, hj2⟩ := List.getElem?_eq_some_iff.mp hj
    rcases Nat.lt_trichotomy i j with q | q | q
    · exact absurd (by rw [List.getElem_map, List.getElem_map, hi2, hj2, hxy]) (hnd' i j (by rw [List.length_map]; exact hi1) (by rw [List.length_map]; exact hj1) q)
    · exact q
    · exact absurd (by rw [List.getElem_map, List.getElem_map, hi2, hj2, hxy]) (hnd' j i (by rw [List.length_map]; exact hj1) (by rw [List.length_map]; exact hi1) q)
  · obtain ⟨k, hk⟩ := List.getElem?_of_mem (h.mem_iff.mpr (List.mem_of_getElem? hx))
    exact hD.2 k x hk
end ZNR
end
section
/-! ===== throws, over lists of cells ===== -/
def zXt (X : zX) (hh : List (Nat × Nat × Nat × Nat)) : Prop := match X with
  | (p, l, e, s, m, args, below, meth, c, D, cA, ad, A) => c.exceptionTable.toList.map (fun h => (h.startPc, h.endPc, h.handlerPc, h.catchType)) = hh
/-- an E is on its way, thrown by what stands at pc -/
def zE (X : zX) (mc ms fr lo : Nat) (B : State → Prop) (nL pc : Nat) (lv : List (Nat × Value)) (ws : va_W) (ck sk : Nat) (E : String) : Prop := match X with
  | (p, l, e, s, m, args, below, meth, c, D, cA, ad, A) => ∀ (H : Heap) (locs : List Loc) (ls : Array Slot) (ce : Cell) (q9 : Addr) (rest : List Value), lv_has ls nL lv → va_P D zcl ws H → va_D A ws → va_S A s.heap H locs → H[q9]? = some ce → ce.vm = .none → s.vm.findClass E = some ce.cls →
      vx_W p l e { frames := fr, cells := mc, slots := ms, locals := lo } s m args below meth c H locs ck sk B (F0 m pc ls rest) q9
def zAx (y : MethodName) (cb : ByteArray) (nB : Nat) (rb : Option FieldType) (fb lb mc ms : Nat) (as : List Value) (W0 : (Nat → ClassId) → va_W) (E : String) (Wx : (Nat → ClassId) → va_W) : Prop := ∀ (l : Launch), l.stackTraces = false → ∀ (D : va_G) (cA : Nat → ClassId) (ad : zR → Nat) (sz : Nat),
  vx_Met l y (.code y cb nB rb :: zTg) { frames := fb, cells := mc, slots := ms, locals := lb } (zAlP D cA ad (W0 cA) as sz) zNo (fun E' st t => E' = E ∧ va_P D zcl (Wx cA) t.heap ∧ va_D (va_A (W0 cA) sz) (Wx cA) ∧ va_F (va_A (W0 cA) sz) st t) mc ms (va_A (W0 cA) sz)
theorem zAx_of_zMet {y : MethodName} {cb : ByteArray} {nB fb lb : Nat} {rb : Option FieldType} {Rg : List zD} {as : List zV} {Ms Ms' : List zM} {E : String} (h : zMet y cb nB rb fb lb Rg as Ms (.inr E, Ms')) (hl : Rg.length ≤ 100) (hlk : ∀ r ∈ Rg, ∀ x ∈ r.2, x < 100) (has : ∀ x ∈ as, ∀ q, x = .inl q → q.1 < 100) (ad1 : zR → Nat) :
    zAx y cb nB rb fb lb 1 6 (as.map (zt ad1)) (fun cA => zwl cA ad1 Rg Ms) E (fun cA => zwl cA ad1 Rg Ms') := by
  intro l htr D cA ad sz
  have h1 := h l htr D cA (fun q => if q.1 < 100 then ad1 q else ad q) sz
  dsimp only at h1
  have had : ∀ q : zR, q.1 < 100 → (fun q : zR => if q.1 < 100 then ad1 q else ad q) q = ad1 q := fun q hq => if_pos hq
  have hw : ∀ Ms, zwl cA (fun q => if q.1 < 100 then ad1 q else ad q) Rg Ms = zwl cA ad1 Rg Ms := fun Ms => zwl_cong hl hlk had
  have ht : ∀ x : zV, (∀ q, x = .inl q → q.1 < 100) → zt (fun q => if q.1 < 100 then ad1 q else ad q) x = zt ad1 x := by
    intro x hx
    rcases x with q | x | x
    · exact congrArg Value.ref (had q (hx q rfl))
    · rfl
    · rfl
  have hta : as.map (zt fun q => if q.1 < 100 then ad1 q else ad q) = as.map (zt ad1) := List.map_congr_left fun x hx => ht x (has x hx)
  intro p e ha hc hcl s m args below hs hS hP hK
  have hP0 := hP
  obtain ⟨q0, q1, q2, q3, q4, q5, q6⟩ := hP
  obtain ⟨n, o, h1, h2, h3, h4⟩ := h1 p e ha hc hcl s m args below hs hS (by
    refine ⟨by rw [hta]; exact q0, q1, by rw [hw]; exact q2, q3, by rw [hw]; exact q4, ?_⟩
    rw [hw]
    exact q5.narrow (fun _ h => h) fun j => by dsimp only; rw [if_neg (by omega)]) hK
  refine ⟨n, o, h1, h2, h3, ?_⟩
  rcases h4 with ⟨hno, -⟩ | ⟨q, hq, E', ce, L, ⟨g1, g2, g3⟩, g4⟩
  · exact hno.elim
  · rw [hw] at g2 g3 g4
    exact Or.inr ⟨q, hq, E', ce, L, ⟨g1, g2, zw_D _ q4.self, g3⟩, g4⟩
section ZNX
variable {X : zX} {cc : ByteArray} {nL : Nat} {own : String} {mc ms fr lo pc ck sk : Nat} {B : State → Prop} {lv : List (Nat × Value)} {S st as : List Value} {ws wsB : va_W}
variable {y : MethodName} {cb : ByteArray} {nB fb lb mcc msc idx n : Nat} {rb : Option FieldType} {C E : String} {W0 Wx : (Nat → ClassId) → va_W} {Bo : (Nat → ClassId) → Option Value → va_W → Prop}
theorem zn_callX (F : zLr X cc nL own) {h0 j0 ci N : Nat} {T : u_T} {vs : List Value} (hC : zAx y cb nB rb fb lb mcc msc (.ref h0 :: as) W0 E Wx) (hd : decode cc pc = .ok (.invokevirtual idx, 3))
    (hw : Cond.methodLink own idx y ∈ zTg ∧ Cond.instanceMethod y ∈ zTg ∧ Cond.selects C y y ∈ zTg ∧ Cond.initialized C ∈ zTg ∧ Cond.code y cb nB rb ∈ zTg) (hy : y.cls = C ∧ y.cls ≠ "java/lang/invoke/MethodHandle" ∧ y.cls ≠ "java/lang/invoke/VarHandle" ∧ (parseMethodDescriptor y.desc).map (fun d => d.parameters.length) = some n) (hn : as.length = n)
    (hws : ws = W0 X.2.2.2.2.2.2.2.2.2.2.1 ++ wsB) (hci : zcl[ci]? = some (C, T, N)) (hj : (W0 X.2.2.2.2.2.2.2.2.2.2.1)[j0]? = some (h0, .inr (ci, vs))) (hS0 : S = as.reverse ++ .ref h0 :: st) (hcs : (st.map fun v => v.category).sum ≤ 8) (hfr : fb + 1 ≤ fr) (hlo : 8 + (nB + 11) + lb ≤ lo) (hck : ck + mcc ≤ mc) (hsk : sk + msc ≤ ms)
    (kk : zE X mc ms fr lo B nL pc lv (Wx X.2.2.2.2.2.2.2.2.2.2.1 ++ wsB) (ck + mcc) (sk + msc) E) : zN X mc ms fr lo B nL pc lv S ws ck sk := by
  obtain ⟨p, l, e, s, m, args, below, meth, c, D, cA, ad, A⟩ := X
  obtain ⟨⟨hx, hb, hml, hown, hts, hlk, hK, hA, hE, htr⟩, hAr⟩ := F
  subst hws; subst hS0
  intro H locs ls hl hP hD hS
  have hM := hC l htr D cA ad H.size
  have h0l : ∀ (k : Nat) (q : Nat × va_E), (W0 cA)[k]? = some q → (W0 cA ++ wsB)[k]? = some q := fun k q h => by rw [List.getElem?_append_left (List.getElem?_eq_some_iff.mp h).1]; exact h
  have hP1 : va_P D zcl (W0 cA) H := fun k q h => hP _ q (h0l k q h)
  have hD1 : va_D A (W0 cA) := ⟨fun i j x y hi hj h => hD.1 i j x y (h0l i x hi) (h0l j y hj) h, fun k q h => hD.2 _ q (h0l k q h)⟩
  have hAA : ∀ q, va_A (W0 cA) H.size q → A q := by
    rintro q (⟨k, e, h⟩ | h)
    · exact hD1.2 k _ h
    · exact hA q (Nat.le_trans hS.1 h)
  have hG : GoodIn zTg (wsV own idx C y (.code y cb nB rb :: zTg)) := zgood fun w hw' => by
    obtain ⟨w1, w2, w3, w4, w5⟩ := hw
    unfold wsV at hw'
    rcases List.mem_append.mp hw' with h | h
    · simp only [List.mem_cons, List.not_mem_nil, or_false] at h
      rcases h with rfl | rfl | rfl | rfl <;> assumption
    · rcases List.mem_cons.mp h with rfl | h
      · exact w5
      · exact h
  have hr := vx_runV (e := e) (below := below) (meth := meth) (H := H) (locs := locs) (cells := ck) (slots := sk) (g := F0 m pc ls (as.reverse ++ .ref h0 :: st)) (As := as) (rest := st) ⟨hx, hb, hml, hown, hts⟩ hM (cwV (R := { frames := fr, cells := mc, slots := ms, locals := lo }) n hts hG rfl rfl rfl hy ⟨hfr, hlo⟩) ⟨zAlP_blind, va_recv hK hP1 hci hj, fun U hU hW => ⟨rfl, by rw [hU], by rw [hU]; exact hP1, va_K.moved hW.alike hK, hD1.weaken fun _ _ _ _ => trivial, by rw [hU]; exact zEv.warm hW ((hE.kept hS.2.1).narrow hAA fun _ => rfl), hAr.moved hW.alike⟩⟩ rfl hn hl.1 rfl (by show 2 * 0 + _ ≤ 8; omega) hd ⟨hck, hsk⟩
  intro T hT Xs
  rcases hr T hT Xs with ⟨w, st₀, t, T', L, h0, X', hL, e1, e2, hno, st⟩ | ⟨q, st₀, t, T', L, E', ce, h0, X', hL, e1, e2, ⟨rfl, hP2, hD2, hF⟩, hce, hcv, hcl, st⟩
  · exact hno.elim
  · obtain ⟨k1, k2, k3⟩ := vx_keep h0 e1 hS (fun q _ h => hAA q h) hAA hL hF
    rw [← e1] at hP2 hce
    obtain ⟨a1, a2⟩ := zy_beside hP hD k2 hAA hP2 hD2
    obtain ⟨t2, a3, b3⟩ := kk T'.heap (locs ++ L) ls ce q _ hl a1 a2 k3 hce hcv hcl T' rfl X'
    exact ⟨t2, st.trans a3, b3⟩
/-- the handler that takes it -/
theorem zE_catch (F : zLr X cc nL own) {hh pre suf : List (Nat × Nat × Nat × Nat)} {x : Nat × Nat × Nat × Nat} {name : String} (hT : zXt X hh) (hsp : hh = pre ++ x :: suf) (hpass : ∀ z ∈ pre, z.2.2.2 ≠ 0 ∧ ∃ nm : String, Cond.classLink own z.2.2.2 nm ∈ zTg ∧ (E, nm) ∈ znc) (hx0 : x.1 ≤ pc ∧ pc < x.2.1 ∧ x.2.2.2 ≠ 0) (hlink : Cond.classLink own x.2.2.2 name ∈ zTg) (hcast : Cond.castable E name ∈ zNws)
    (kk : ∀ q9 : Nat, zN X mc ms fr lo B nL x.2.2.1 lv [.ref q9] ws ck sk) : zE X mc ms fr lo B nL pc lv ws ck sk E := by
  obtain ⟨p, l, e, s, m, args, below, meth, c, D, cA, ad, A⟩ := X
  obtain ⟨⟨hx, hb, hml, hown, hts, hlk, hK, hA, hE, htr⟩, hAr⟩ := F
  intro H locs ls ce q9 rest hl hP hD hS hce hcv hcl
  unfold zXt at hT
  rw [hsp] at hT
  obtain ⟨p1, p2, hs1, hs2, hs3⟩ := List.map_eq_append_iff.mp hT
  obtain ⟨x1, p3, rfl, hs4, hs5⟩ := List.map_eq_cons_iff.mp hs3
  have hc4 : x1.catchType = x.2.2.2 := by rw [← hs4]
  have hc3 : x1.handlerPc = x.2.2.1 := by rw [← hs4]
  refine vx_catch hown p1 x1 p3 hs1 (fun z hz => ?_) ?_ (by rw [hc4]; exact hx0.2.2) (by rw [hc4]; exact hts _ hlink) (va_Nw.use rfl (hE.2.2.1 _ hcast)) hce hcv hcl (by rw [hc3]; exact kk q9 H locs ls hl hP hD hS)
  · have hzm : (z.startPc, z.endPc, z.handlerPc, z.catchType) ∈ pre := by rw [← hs2]; exact List.mem_map.mpr ⟨z, hz, rfl⟩
    obtain ⟨g1, nm, g2, g3⟩ := hpass _ hzm
    exact Or.inr ⟨g1, nm, hts _ g2, hAr.2.2 _ g3⟩
  · have hc1 : x1.startPc = x.1 := by rw [← hs4]
    have hc2 : x1.endPc = x.2.1 := by rw [← hs4]
    show (decide (x1.startPc ≤ pc) && decide (pc < x1.endPc)) = true
    rw [hc1, hc2, decide_eq_true hx0.1, decide_eq_true hx0.2.1]
    rfl
end ZNX
/-- a method with handlers that returns, whatever comes -/
def zNX (X : zX) (mc ms : Nat) (B : Option Value → va_W → Prop) : State → Prop := match X with
  | (p, l, e, s, m, args, below, meth, c, D, cA, ad, A) => vx_MQ below (zNq D A B) (fun _ _ _ => False) args s mc ms A
theorem zn_toX {X : zX} {mc ms fr lo nL pc ck sk : Nat} {B : Option Value → va_W → Prop} {lv : List (Nat × Value)} {st : List Value} {ws : va_W} (h : zN X mc ms fr lo (zNQ X mc ms B) nL pc lv st ws ck sk) : zN X mc ms fr lo (zNX X mc ms B) nL pc lv st ws ck sk := by
  obtain ⟨p, l, e, s, m, args, below, meth, c, D, cA, ad, A⟩ := X
  exact fun H locs ls hl hP hD hS => vx_ret (h H locs ls hl hP hD hS)
def zAw (y : MethodName) (cb : ByteArray) (nB : Nat) (rb : Option FieldType) (hh : List (Nat × Nat × Nat × Nat)) (fb lb mc ms : Nat) (as : List Value) (W0 : (Nat → ClassId) → va_W) (Bo : (Nat → ClassId) → Option Value → va_W → Prop) : Prop := ∀ (l : Launch), l.stackTraces = false → ∀ (D : va_G) (cA : Nat → ClassId) (ad : zR → Nat) (sz : Nat),
  vx_Met l y (.codeWith y cb nB rb hh :: zTg) { frames := fb, cells := mc, slots := ms, locals := lb } (zAlP D cA ad (W0 cA) as sz) (zNq D (va_A (W0 cA) sz) (Bo cA)) (fun _ _ _ => False) mc ms (va_A (W0 cA) sz)
theorem zAw_of {y : MethodName} {cb : ByteArray} {nB fb lb mc ms : Nat} {rb : Option FieldType} {hh : List (Nat × Nat × Nat × Nat)} {as : List Value} {W0 : (Nat → ClassId) → va_W} {Bo : (Nat → ClassId) → Option Value → va_W → Prop} (hy : plainName y.cls = true) (hnB : (lg_sl as).length ≤ nB)
    (body : ∀ (X : zX), zLr X cb nB y.cls → zRt X rb → zXt X hh → zN X mc ms fb lb (zNX X mc ms (Bo X.2.2.2.2.2.2.2.2.2.2.1)) nB 0 (lv_args 0 as) [] (W0 X.2.2.2.2.2.2.2.2.2.2.1) 0 0) : zAw y cb nB rb hh fb lb mc ms as W0 Bo := by
  intro l htr D cA ad sz
  refine vx_ofWH hy rfl ?_
  intro p e s m args below meth c s₁ B hml hv
  obtain ⟨rfl, hsz0, hP, hK, hD, hE, hAr⟩ := hv
  have hts := atoms_spec (ws := .codeWith y cb nB rb hh :: zTg) B.pre
  have hext : c.exceptionTable.toList.map (fun h => (h.startPc, h.endPc, h.handlerPc, h.catchType)) = hh := by
    obtain ⟨m9, meth9, c9, h0, h1, h2, -, -, h7, -⟩ := Cond.codeWith_spec (hts _ List.mem_cons_self)
    cases Option.some.inj (h0.symm.trans B.named)
    cases Option.some.inj (h1.symm.trans B.method)
    cases Option.some.inj (h2.symm.trans (Stand.of_body B).code)
    exact h7
  have F : zLr (p, l, e, s, m, as.toArray, below, meth, c, D, cA, ad, va_A (W0 cA) sz) cb nB y.cls :=
    ⟨⟨B.exec, B.bytes, hml, findClass_of_methodNamed B.named, fun w hw => hts w (List.mem_cons_of_mem _ hw), B.notSynchronized, hK, fun q h => Or.inr (by rw [← hsz0]; exact h), hE, htr⟩, hAr⟩
  have hl := lv_entry as (n := nB) hnB
  rw [lg_entry_eq]
  exact body _ F B.returns hext s.heap [] _ hl hP hD.self va_S.rf
section ZNW
variable {X : zX} {cc : ByteArray} {nL : Nat} {own : String} {mc ms fr lo pc ck sk : Nat} {B : State → Prop} {lv : List (Nat × Value)} {S st as : List Value} {ws wsB : va_W}
variable {y : MethodName} {cb : ByteArray} {nB fb lb mcc msc idx n : Nat} {rb : Option FieldType} {hh : List (Nat × Nat × Nat × Nat)} {W0 : (Nat → ClassId) → va_W} {Bo : (Nat → ClassId) → Option Value → va_W → Prop}
theorem zn_callW (F : zLr X cc nL own) (hC : zAw y cb nB rb hh fb lb mcc msc as W0 Bo) (hd : decode cc pc = .ok (.invokestatic idx, 3))
    (hw : Cond.methodLink own idx y ∈ zTg ∧ Cond.static y ∈ zTg ∧ Cond.initialized y.cls ∈ zTg ∧ Cond.codeWith y cb nB rb hh ∈ zTg) (hy : y.cls ≠ "java/lang/invoke/MethodHandle" ∧ y.cls ≠ "java/lang/invoke/VarHandle" ∧ (parseMethodDescriptor y.desc).map (fun d => d.parameters.length) = some n) (hn : as.length = n)
    (hws : ws = W0 X.2.2.2.2.2.2.2.2.2.2.1 ++ wsB) (hS0 : S = as.reverse ++ st) (hcs : (st.map fun v => v.category).sum ≤ 8) (hfr : fb + 1 ≤ fr) (hlo : 8 + (nB + 11) + lb ≤ lo) (hck : ck + mcc ≤ mc) (hsk : sk + msc ≤ ms)
    (kk : ∀ v w1, Bo X.2.2.2.2.2.2.2.2.2.2.1 v w1 → zN X mc ms fr lo B nL (pc + 3) lv (v.toList ++ st) (w1 ++ wsB) (ck + mcc) (sk + msc)) : zN X mc ms fr lo B nL pc lv S ws ck sk := by
  obtain ⟨p, l, e, s, m, args, below, meth, c, D, cA, ad, A⟩ := X
  obtain ⟨⟨hx, hb, hml, hown, hts, hlk, hK, hA, hE, htr⟩, hAr⟩ := F
  subst hws; subst hS0
  intro H locs ls hl hP hD hS
  have hM := hC l htr D cA ad H.size
  have h0l : ∀ (k : Nat) (q : Nat × va_E), (W0 cA)[k]? = some q → (W0 cA ++ wsB)[k]? = some q := fun k q h => by rw [List.getElem?_append_left (List.getElem?_eq_some_iff.mp h).1]; exact h
  have hP1 : va_P D zcl (W0 cA) H := fun k q h => hP _ q (h0l k q h)
  have hD1 : va_D A (W0 cA) := ⟨fun i j x y hi hj h => hD.1 i j x y (h0l i x hi) (h0l j y hj) h, fun k q h => hD.2 _ q (h0l k q h)⟩
  have hAA : ∀ q, va_A (W0 cA) H.size q → A q := by
    rintro q (⟨k, e, h⟩ | h)
    · exact hD1.2 k _ h
    · exact hA q (Nat.le_trans hS.1 h)
  have hG : GoodIn zTg (va_wsS own idx y (.codeWith y cb nB rb hh :: zTg)) := zgood fun w hw' => by
    obtain ⟨w1, w2, w3, w4⟩ := hw
    unfold va_wsS at hw'
    rcases List.mem_append.mp hw' with h | h
    · simp only [List.mem_cons, List.not_mem_nil, or_false] at h
      rcases h with rfl | rfl | rfl <;> assumption
    · rcases List.mem_cons.mp h with rfl | h
      · exact w4
      · exact h
  have hr := vx_runSX (e := e) (below := below) (meth := meth) (H := H) (locs := locs) (cells := ck) (slots := sk) (g := F0 m pc ls (as.reverse ++ st)) (As := as) (rest := st) ⟨hx, hb, hml, hown, hts⟩ hM (vx_cwSW (R := { frames := fr, cells := mc, slots := ms, locals := lo }) n hts hG rfl rfl rfl hy ⟨hfr, hlo⟩) ⟨zAlP_blind, fun U hU hW => ⟨rfl, by rw [hU], by rw [hU]; exact hP1, va_K.moved hW.alike hK, hD1.weaken fun _ _ _ _ => trivial, by rw [hU]; exact zEv.warm hW ((hE.kept hS.2.1).narrow hAA fun _ => rfl), hAr.moved hW.alike⟩⟩ rfl hn hl.1 rfl (by show 2 * 0 + _ ≤ 8; omega) hd ⟨hck, hsk⟩
  intro T hT Xs
  rcases hr T hT Xs with ⟨w, st₀, t, T', L, h0, X', hL, e1, e2, ⟨v, hv, ⟨w1, hB, hP2, hD2⟩, hF⟩, st⟩ | ⟨q, st₀, t, T', L, E', ce, h0, X', hL, e1, e2, hno, hce, hcv, hcl, st⟩
  · cases hv
    obtain ⟨k1, k2, k3⟩ := vx_keep h0 e1 hS (fun q _ h => hAA q h) hAA hL hF
    rw [← e1] at hP2
    obtain ⟨a1, a2⟩ := zy_beside hP hD k2 hAA hP2 hD2
    obtain ⟨t2, a3, b3⟩ := kk _ w1 hB T'.heap (locs ++ L) ls hl a1 a2 k3 T' rfl X'
    exact ⟨t2, st t2 a3, b3⟩
  · exact hno.elim
end ZNW
end
