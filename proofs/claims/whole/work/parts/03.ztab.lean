/-! ===== the regions of memory: by program ===== -/
abbrev zcl : List vw_C := [(RX0, TX0, 3), (RX1, TX1, 4), (RX2, TX2, 5), (RX3, TX3, 11), (RX4, TX4, 2), (RX5, TX5, 14), (RX6, TX6, 6), (RX8, TX8, 5), (RX9, TX9, 3), (RX10, TX10, 23), (RX11, TX11, 2)]
def zty (j : Nat) : FieldType := match j with
  | 0 => .int
  | 1 => .object "WakeBanks$Turbine"
  | 2 => .object "WakeBanks$Cable"
  | 3 => .object "WakeBanks$Vessel"
  | _ => .array .int
def zTn : Nat := 5
def zKn : Nat := 14
/-- of a type and a kind: how many, and what: an object, an int array, an array of references -/
def zsh (ty k : Nat) : Nat × ((Nat × Nat) ⊕ (Nat ⊕ (Nat × Nat))) := match ty, k with
  | 0, 0 => (1, .inl (3, 11))
  | 0, 1 => (1, .inr (.inr (8, 1)))
  | 0, 2 => (1, .inr (.inr (3, 2)))
  | 0, 3 => (1, .inr (.inr (3, 3)))
  | 0, 4 => (1, .inl (7, 5))
  | 0, 5 => (1, .inl (2, 5))
  | 0, 6 => (1, .inr (.inl 24))
  | 0, 7 => (8, .inl (5, 14))
  | 0, 8 => (8, .inr (.inl 3))
  | 0, 9 => (8, .inr (.inl 8))
  | 0, 10 => (8, .inl (1, 4))
  | 0, 11 => (8, .inr (.inl 30))
  | 0, 12 => (3, .inl (0, 3))
  | 0, 13 => (3, .inl (6, 6))
  | 1, 0 => (1, .inl (4, 2))
  | 1, 1 => (1, .inr (.inl 64))
  | 1, 2 => (1, .inr (.inl 64))
  | 2, 0 => (1, .inl (8, 3))
  | 3, 0 => (1, .inl (9, 23))
  | 3, 1 => (1, .inr (.inr (8, 4)))
  | 3, 2 => (1, .inr (.inr (8, 4)))
  | 3, 3 => (1, .inr (.inr (3, 4)))
  | 3, 4 => (1, .inr (.inr (3, 4)))
  | 3, 5 => (1, .inr (.inl 32))
  | 3, 6 => (1, .inr (.inl 32))
  | 3, 7 => (1, .inr (.inl 8))
  | 3, 8 => (8, .inr (.inl 23))
  | 3, 9 => (8, .inr (.inl 30))
  | 3, 10 => (3, .inr (.inl 3))
  | 3, 11 => (3, .inr (.inl 6))
  | 4, 0 => (1, .inl (10, 2))
  | 5, 0 => (1, .inr (.inl 1))
  | _, _ => (0, .inr (.inl 0))
/-- where a slot refers to: the link (0: the same region), the kind, the place -/
def zrs (ty k i o : Nat) : Option (Nat × Nat × Nat) := match ty, k, o with
  | 0, 0, 0 => some (0, 1, 0)
  | 0, 0, 1 => some (0, 2, 0)
  | 0, 0, 2 => some (0, 3, 0)
  | 0, 0, 3 => some (0, 4, 0)
  | 0, 0, 4 => some (0, 5, 0)
  | 0, 1, j => some (0, 7, j)
  | 0, 2, j => some (0, 12, j)
  | 0, 3, j => some (0, 13, j)
  | 0, 5, 0 => some (0, 6, 0)
  | 0, 7, 11 => some (0, 8, i)
  | 0, 7, 12 => some (0, 9, i)
  | 0, 7, 13 => some (0, 10, i)
  | 0, 10, 0 => some (0, 11, i)
  | 1, 0, 0 => some (0, 1, 0)
  | 1, 0, 1 => some (0, 2, 0)
  | 2, 0, 0 => some (1, 0, 0)
  | 2, 0, 1 => some (2, 0, 0)
  | 2, 0, 2 => some (3, 0, 0)
  | 3, 0, 0 => some (0, 1, 0)
  | 3, 0, 1 => some (0, 2, 0)
  | 3, 0, 2 => some (0, 3, 0)
  | 3, 0, 3 => some (0, 4, 0)
  | 3, 0, 4 => some (0, 5, 0)
  | 3, 0, 5 => some (0, 6, 0)
  | 3, 0, 6 => some (0, 7, 0)
  | 3, 1, j => some (0, 8, j)
  | 3, 2, j => some (0, 9, j)
  | 3, 3, j => some (0, 10, j)
  | 3, 4, j => some (0, 11, j)
  | 4, 0, 1 => some (1, 0, 0)
  | _, _, _ => none
/-- a slot that holds a boolean -/
def zbo (ty k o : Nat) : Bool := match ty, k, o with
  | 0, 13, 2 => true
  | _, _, _ => false
/-- the arrays of constants -/
def zst : List (String × String × List Int32) := [("WakeBanks", "WIND_P", [0, -1, -1, -1, 0, 1, 1, 1]), ("WakeBanks", "WIND_Q", [-1, -1, 0, 1, 1, 1, 0, -1]), ("WakeBanks", "WEAR_LIMITS", [150, 120, 200]), ("WakeBanks", "WORK_HOURS", [4, 2, 6]), ("WakeBanks", "TURNS", [0, -1, 1, -2, 2])]
/-- the texts -/
def zstr : List (String × Nat × String) := [("WakeBanks", 116, "a TURN is -2 to 2"), ("WakeBanks", 134, "FAULTED, LOCKED, or so already"), ("WakeBanks", 142, "a FLOOR is -51 to 50"), ("WakeBanks", 163, "its crew is on a TURBINE, or another VESSEL is there"), ("WakeBanks", 172, "in PORT, or the crew is on the TURBINE"), ("WakeBanks", 180, "STARTING, LOCKED, or not LOCKED by this VESSEL"), ("WakeBanks", 200, "its crew is on no TURBINE, or the WAVE is too high"), ("WakeBanks", 232, "of a TURBINE 0 to 9 is asked"), ("WakeBanks", 240, "no such CAUSE"), ("WakeBanks", 250, "no such EXTREME"), ("WakeBanks", 272, "of a STRING 0 to 3 is asked"), ("WakeBanks", 283, "of a VESSEL 0 to 4 is asked"), ("WakeBanks", 306, "0 to 13 is asked"), ("WakeBanks", 308, "HOURS are 1 to 24"), ("WakeBanks", 32, "a RATING is 100 to 9999"), ("WakeBanks", 362, "no such TURBINE"), ("WakeBanks", 364, "no such STRING"), ("WakeBanks", 366, "no such VESSEL"), ("WakeBanks", 368, "no such PART"), ("WakeBanks", 43, "there are 3 STRINGS"), ("WakeBanks", 54, "x and y are 0 to 19"), ("WakeBanks", 63, "there are 8 TURBINES, or one is there"), ("WakeBanks", 69, "a LIMIT of WAVES is 5 to 40"), ("WakeBanks", 74, "there are 3 VESSELS"), ("WakeBanks", 82, "the next 24 HOURS, 0 to 20000"), ("WakeBanks", 98, "no such HOURS")]
/-- words of the tables that are carried along -/
def zNws : List Cond := [.fieldLinkNest "WakeBanks$Turbine" 95 "WakeBanks" "WEAR_LIMITS" "[I" "WakeBanks", .fieldLinkNest "WakeBanks$Vessel" 31 "WakeBanks" "WORK_HOURS" "[I" "WakeBanks", .fieldLinkNest "WakeBanks$Wakes" 13 "WakeBanks" "WIND_Q" "[I" "WakeBanks", .fieldLinkNest "WakeBanks$Wakes" 9 "WakeBanks" "WIND_P" "[I" "WakeBanks", .methodLinkNest "WakeBanks" 21 ⟨"WakeBanks$Siting", "<init>", "()V"⟩ "WakeBanks", .methodLinkNest "WakeBanks$Sea" 31 ⟨"WakeBanks$Weather", "<init>", "()V"⟩ "WakeBanks", .methodLinkNest "WakeBanks$Sea" 47 ⟨"WakeBanks$Turbine", "<init>", "()V"⟩ "WakeBanks", .methodLinkNest "WakeBanks$Sea" 48 ⟨"WakeBanks$Cable", "<init>", "()V"⟩ "WakeBanks", .methodLinkNest "WakeBanks$Sea" 49 ⟨"WakeBanks$Vessel", "<init>", "()V"⟩ "WakeBanks", .methodLinkNest "WakeBanks$Turbine" 33 ⟨"WakeBanks$Extremes", "<init>", "()V"⟩ "WakeBanks", .methodLinkNest "WakeBanksModel" 103 ⟨"WakeBanksModel$Sea", "stop", "([II)V"⟩ "WakeBanksModel", .methodLinkNest "WakeBanksModel" 9 ⟨"WakeBanksModel$Sea", "<init>", "()V"⟩ "WakeBanksModel", .methodLinkNest "WakeBanksModel" 99 ⟨"WakeBanksModel$Sea", "start", "([I)V"⟩ "WakeBanksModel", .methodLinkNest "WakeBanksModel$Sea" 133 ⟨"WakeBanksModel", "power", "(I)I"⟩ "WakeBanksModel", .methodLinkNest "WakeBanksModel$Sea" 91 ⟨"WakeBanksModel", "along", "(IZ)I"⟩ "WakeBanksModel", .methodLinkNest "WakeBanksModel$Sea" 95 ⟨"WakeBanksModel", "in", "(III)Z"⟩ "WakeBanksModel", .castable "java/lang/IllegalArgumentException" "java/lang/IllegalArgumentException", .castable "java/lang/IllegalStateException" "java/lang/IllegalStateException", .castable "java/lang/IndexOutOfBoundsException" "java/lang/IndexOutOfBoundsException"]
def zkw : Cond → Bool
  | .castable .. => true
  | .fieldLinkNest .. => true
  | .methodLinkNest .. => true
  | _ => false
theorem zNws_ok : zNws.all zkw = true := by decide +kernel
def zTg : List Cond := lw_tbl.filter goodWord
