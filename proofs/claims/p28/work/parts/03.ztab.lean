/-! ===== the regions of memory: by program ===== -/
abbrev zcl : List vw_C := [(RX0, TX0, 3), (RX1, TX1, 4), (RX2, TX2, 5), (RX3, TX3, 11), (RX4, TX4, 2), (RX5, TX5, 14), (RX6, TX6, 6), (RX8, TX8, 5), (RX9, TX9, 3), (RX10, TX10, 20)]
def zty (j : Nat) : FieldType := match j with
  | 0 => .int
  | 1 => .object "WakeBanks$Turbine"
  | 2 => .object "WakeBanks$Cable"
  | 3 => .object "WakeBanks$Vessel"
  | _ => .array .int
def zTn : Nat := 5
def zKn : Nat := 14
/-- of a type and a kind: how many, and what: an object, an int array, an array of references -/
def zsh (ty k : Nat) : Nat × ((Nat × Nat) ⊕ (Nat ⊕ (Nat × Nat))) := match ty, k with
  | 0, 0 => (1, .inl (3, 11))
  | 0, 1 => (1, .inr (.inr (8, 1)))
  | 0, 2 => (1, .inr (.inr (3, 2)))
  | 0, 3 => (1, .inr (.inr (3, 3)))
  | 0, 4 => (1, .inl (7, 5))
  | 0, 5 => (1, .inl (2, 5))
  | 0, 6 => (1, .inr (.inl 24))
  | 0, 7 => (8, .inl (5, 14))
  | 0, 8 => (8, .inr (.inl 3))
  | 0, 9 => (8, .inr (.inl 8))
  | 0, 10 => (8, .inl (1, 4))
  | 0, 11 => (8, .inr (.inl 30))
  | 0, 12 => (3, .inl (0, 3))
  | 0, 13 => (3, .inl (6, 6))
  | 1, 0 => (1, .inl (4, 2))
  | 1, 1 => (1, .inr (.inl 64))
  | 1, 2 => (1, .inr (.inl 64))
  | 2, 0 => (1, .inl (8, 3))
  | _, _ => (0, .inr (.inl 0))
/-- where a slot refers to: the link (0: the same region), the kind, the place -/
def zrs (ty k i o : Nat) : Option (Nat × Nat × Nat) := match ty, k, o with
  | 0, 0, 0 => some (0, 1, 0)
  | 0, 0, 1 => some (0, 2, 0)
  | 0, 0, 2 => some (0, 3, 0)
  | 0, 0, 3 => some (0, 4, 0)
  | 0, 0, 4 => some (0, 5, 0)
  | 0, 1, j => some (0, 7, j)
  | 0, 2, j => some (0, 12, j)
  | 0, 3, j => some (0, 13, j)
  | 0, 5, 0 => some (0, 6, 0)
  | 0, 7, 11 => some (0, 8, i)
  | 0, 7, 12 => some (0, 9, i)
  | 0, 7, 13 => some (0, 10, i)
  | 0, 10, 0 => some (0, 11, i)
  | 1, 0, 0 => some (0, 1, 0)
  | 1, 0, 1 => some (0, 2, 0)
  | 2, 0, 0 => some (1, 0, 0)
  | 2, 0, 1 => some (2, 0, 0)
  | 2, 0, 2 => some (3, 0, 0)
  | _, _, _ => none
/-- a slot that holds a boolean -/
def zbo (ty k o : Nat) : Bool := match ty, k, o with
  | 0, 13, 2 => true
  | _, _, _ => false
/-- the arrays of constants -/
def zk0 : List Int32 := [0, -1, -1, -1, 0, 1, 1, 1]
def zst0 : String × String × List Int32 := ("WakeBanks", "WIND_P", zk0)
def zk1 : List Int32 := [-1, -1, 0, 1, 1, 1, 0, -1]
def zst1 : String × String × List Int32 := ("WakeBanks", "WIND_Q", zk1)
def zk2 : List Int32 := [150, 120, 200]
def zst2 : String × String × List Int32 := ("WakeBanks", "WEAR_LIMITS", zk2)
def zk3 : List Int32 := [0, -1, -1, -1, 0, 1, 1, 1]
def zst3 : String × String × List Int32 := ("WakeBanks", "WIND_P", zk3)
def zk4 : List Int32 := [0, -1, 1, -2, 2]
def zst4 : String × String × List Int32 := ("WakeBanks", "TURNS", zk4)
def zst : List (String × String × List Int32) := [zst0, zst1, zst2, zst3, zst4]
/-- the texts -/
def zstr : List (String × Nat × String) := [("WakeBanks", 116, "a TURN is -2 to 2"), ("WakeBanks", 232, "of a TURBINE 0 to 9 is asked"), ("WakeBanks", 240, "no such CAUSE"), ("WakeBanks", 250, "no such EXTREME"), ("WakeBanks", 272, "of a STRING 0 to 3 is asked"), ("WakeBanks", 283, "of a VESSEL 0 to 4 is asked"), ("WakeBanks", 306, "0 to 13 is asked"), ("WakeBanks", 308, "HOURS are 1 to 24"), ("WakeBanks", 32, "a RATING is 100 to 9999"), ("WakeBanks", 362, "no such TURBINE"), ("WakeBanks", 364, "no such STRING"), ("WakeBanks", 366, "no such VESSEL"), ("WakeBanks", 368, "no such PART"), ("WakeBanks", 43, "there are 3 STRINGS"), ("WakeBanks", 54, "x and y are 0 to 19"), ("WakeBanks", 63, "there are 8 TURBINES, or one is there"), ("WakeBanks", 98, "no such HOURS")]
/-- words of the tables that are carried along -/
def zNws : List Cond := [.fieldLinkNest "WakeBanks$Turbine" 95 "WakeBanks" "WEAR_LIMITS" "[I" "WakeBanks", .fieldLinkNest "WakeBanks$Wakes" 13 "WakeBanks" "WIND_Q" "[I" "WakeBanks", .fieldLinkNest "WakeBanks$Wakes" 9 "WakeBanks" "WIND_P" "[I" "WakeBanks", .methodLinkNest "WakeBanks" 21 ⟨"WakeBanks$Siting", "<init>", "()V"⟩ "WakeBanks", .methodLinkNest "WakeBanks$Sea" 31 ⟨"WakeBanks$Weather", "<init>", "()V"⟩ "WakeBanks", .methodLinkNest "WakeBanks$Sea" 47 ⟨"WakeBanks$Turbine", "<init>", "()V"⟩ "WakeBanks", .methodLinkNest "WakeBanks$Sea" 48 ⟨"WakeBanks$Cable", "<init>", "()V"⟩ "WakeBanks", .methodLinkNest "WakeBanks$Sea" 49 ⟨"WakeBanks$Vessel", "<init>", "()V"⟩ "WakeBanks", .methodLinkNest "WakeBanks$Turbine" 33 ⟨"WakeBanks$Extremes", "<init>", "()V"⟩ "WakeBanks", .methodLinkNest "WakeBanksLaw$Told" 44 ⟨"WakeBanksLaw", "cell", "([II)I"⟩ "WakeBanksLaw", .methodLinkNest "WakeBanksLaw$Told" 50 ⟨"WakeBanksLaw", "below", "(II)I"⟩ "WakeBanksLaw", .castable "java/lang/IllegalArgumentException" "java/lang/IllegalArgumentException", .castable "java/lang/IllegalStateException" "java/lang/IllegalStateException", .castable "java/lang/IndexOutOfBoundsException" "java/lang/IndexOutOfBoundsException", .declares ⟨"java/lang/Exception", "<init>", "()V"⟩, .declares ⟨"java/lang/Exception", "<init>", "(Ljava/lang/String;)V"⟩, .declares ⟨"java/lang/RuntimeException", "<init>", "()V"⟩, .declares ⟨"java/lang/RuntimeException", "<init>", "(Ljava/lang/String;)V"⟩, .declares ⟨"java/lang/Throwable", "<init>", "()V"⟩, .declares ⟨"java/lang/Throwable", "<init>", "(Ljava/lang/String;)V"⟩]
def zkw : Cond → Bool
  | .castable .. => true
  | .declares .. => true
  | .fieldLinkNest .. => true
  | .methodLinkNest .. => true
  | _ => false
theorem zNws_ok : zNws.all zkw = true := by decide +kernel
def zao : List String := ["WakeBanks$Cable", "WakeBanks$Turbine", "WakeBanks$Vessel"]
def zaa : List FieldType := [.int]
/-- no object of the one is one of the other -/
def znc : List (String × String) := []
def zTg : List Cond := lw_tbl.filter goodWord
