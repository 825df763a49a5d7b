def RX0 : String := "NailRods$Fogger"
def TX0 : u_T := fun k => match k with
  | 0 => ("NailRods$Fogger", "keptBack", "I", false)
  | 1 => ("NailRods$Fogger", "coins", "I", false)
  | 2 => ("NailRods$Fogger", "bought", "I", false)
  | 3 => ("NailRods$Fogger", "paid", "I", false)
  | 4 => ("NailRods$Fogger", "earned", "I", false)
  | _ => ("NailRods$Fogger", "loadWorth", "I", false)
def tyX0 : Nat → FieldType := fun k => match k with
  | 0 => .int
  | 1 => .int
  | 2 => .int
  | 3 => .int
  | 4 => .int
  | _ => .int
abbrev wsX00 : List Cond := u_ws RX0 TX0 6
theorem nmX0 : ∀ a, a < 6 → ∀ b, b < 6 → a ≠ b → (TX0 a).2.1 ≠ (TX0 b).2.1 := by decide +kernel
theorem tyX0_ok : ∀ k, k < 6 → parseFieldDescriptor (TX0 k).2.2.1 = some (tyX0 k) := by decide +kernel
abbrev cX0_init : ByteArray := prog_2_method_1_code
def yX0_init : MethodName := ⟨RX0, "<init>", "()V"⟩
abbrev cX0_copyFrom : ByteArray := prog_2_method_2_code
def yX0_copyFrom : MethodName := ⟨RX0, "copyFrom", "(LNailRods$Fogger;)V"⟩
abbrev cX0_buyBags : ByteArray := prog_2_method_3_code
def yX0_buyBags : MethodName := ⟨RX0, "buyBags", "(LNailRods$Nailer;)V"⟩
abbrev cX0_collectDebt : ByteArray := prog_2_method_4_code
def yX0_collectDebt : MethodName := ⟨RX0, "collectDebt", "(LNailRods$Nailer;)V"⟩
abbrev cX0_deliver : ByteArray := prog_2_method_5_code
def yX0_deliver : MethodName := ⟨RX0, "deliver", "()V"⟩
def RX1 : String := "NailRods$Nailer"
def TX1 : u_T := fun k => match k with
  | 0 => ("NailRods$Nailer", "skill", "I", false)
  | 1 => ("NailRods$Nailer", "kind", "I", false)
  | 2 => ("NailRods$Nailer", "fogger", "I", false)
  | 3 => ("NailRods$Nailer", "rods", "I", false)
  | 4 => ("NailRods$Nailer", "ounces", "I", false)
  | 5 => ("NailRods$Nailer", "heat", "I", false)
  | 6 => ("NailRods$Nailer", "coal", "I", false)
  | 7 => ("NailRods$Nailer", "coins", "I", false)
  | 8 => ("NailRods$Nailer", "owed", "I", false)
  | 9 => ("NailRods$Nailer", "scrap", "I", false)
  | 10 => ("NailRods$Nailer", "burnt", "I", false)
  | 11 => ("NailRods$Nailer", "good", "I", false)
  | 12 => ("NailRods$Nailer", "loose", "[I", true)
  | _ => ("NailRods$Nailer", "bags", "[I", true)
def tyX1 : Nat → FieldType := fun k => match k with
  | 0 => .int
  | 1 => .int
  | 2 => .int
  | 3 => .int
  | 4 => .int
  | 5 => .int
  | 6 => .int
  | 7 => .int
  | 8 => .int
  | 9 => .int
  | 10 => .int
  | 11 => .int
  | 12 => .array .int
  | _ => .array .int
abbrev wsX10 : List Cond := u_ws RX1 TX1 14
theorem nmX1 : ∀ a, a < 14 → ∀ b, b < 14 → a ≠ b → (TX1 a).2.1 ≠ (TX1 b).2.1 := by decide +kernel
theorem tyX1_ok : ∀ k, k < 14 → parseFieldDescriptor (TX1 k).2.2.1 = some (tyX1 k) := by decide +kernel
abbrev cX1_init : ByteArray := prog_3_method_1_code
def yX1_init : MethodName := ⟨RX1, "<init>", "()V"⟩
abbrev cX1_begin : ByteArray := prog_3_method_2_code
def yX1_begin : MethodName := ⟨RX1, "begin", "(III)V"⟩
abbrev cX1_copyFrom : ByteArray := prog_3_method_3_code
def yX1_copyFrom : MethodName := ⟨RX1, "copyFrom", "(LNailRods$Nailer;)V"⟩
abbrev cX1_workHours : ByteArray := prog_3_method_4_code
def yX1_workHours : MethodName := ⟨RX1, "workHours", "(I)I"⟩
abbrev cX1_workHour : ByteArray := prog_3_method_5_code
def yX1_workHour : MethodName := ⟨RX1, "workHour", "()I"⟩
abbrev cX1_tendFire : ByteArray := prog_3_method_6_code
def yX1_tendFire : MethodName := ⟨RX1, "tendFire", "()V"⟩
abbrev cX1_head : ByteArray := prog_3_method_7_code
def yX1_head : MethodName := ⟨RX1, "head", "(I)I"⟩
abbrev cX1_headFromHand : ByteArray := prog_3_method_8_code
def yX1_headFromHand : MethodName := ⟨RX1, "headFromHand", "(I)I"⟩
abbrev cX1_store : ByteArray := prog_3_method_9_code
def yX1_store : MethodName := ⟨RX1, "store", "(I)V"⟩
abbrev cX1_number : ByteArray := prog_3_method_10_code
def yX1_number : MethodName := ⟨RX1, "number", "(I)I"⟩
abbrev cX1_shareOfTotal : ByteArray := prog_3_method_11_code
def yX1_shareOfTotal : MethodName := ⟨RX1, "shareOfTotal", "(I)I"⟩
abbrev cX1_sumOf : ByteArray := prog_3_method_12_code
def yX1_sumOf : MethodName := ⟨RX1, "sumOf", "([I)I"⟩
abbrev cX1_addToDigest : ByteArray := prog_3_method_13_code
def yX1_addToDigest : MethodName := ⟨RX1, "addToDigest", "(J)J"⟩
def RX2 : String := "NailRods$Trade"
def TX2 : u_T := fun k => match k with
  | 0 => ("NailRods$Trade", "hour", "I", false)
  | 1 => ("NailRods$Trade", "nailerCount", "I", false)
  | 2 => ("NailRods$Trade", "nailers", "[LNailRods$Nailer;", true)
  | _ => ("NailRods$Trade", "foggers", "[LNailRods$Fogger;", true)
def tyX2 : Nat → FieldType := fun k => match k with
  | 0 => .int
  | 1 => .int
  | 2 => .array (.object "NailRods$Nailer")
  | _ => .array (.object "NailRods$Fogger")
abbrev wsX20 : List Cond := u_ws RX2 TX2 4
theorem nmX2 : ∀ a, a < 4 → ∀ b, b < 4 → a ≠ b → (TX2 a).2.1 ≠ (TX2 b).2.1 := by decide +kernel
theorem tyX2_ok : ∀ k, k < 4 → parseFieldDescriptor (TX2 k).2.2.1 = some (tyX2 k) := by decide +kernel
abbrev cX2_init : ByteArray := prog_4_method_1_code
def yX2_init : MethodName := ⟨RX2, "<init>", "()V"⟩
abbrev cX2_copyFrom : ByteArray := prog_4_method_2_code
def yX2_copyFrom : MethodName := ⟨RX2, "copyFrom", "(LNailRods$Trade;)V"⟩
abbrev cX2_goBy : ByteArray := prog_4_method_3_code
def yX2_goBy : MethodName := ⟨RX2, "goBy", "(I)I"⟩
abbrev cX2_goByOne : ByteArray := prog_4_method_4_code
def yX2_goByOne : MethodName := ⟨RX2, "goByOne", "()I"⟩
abbrev cX2_reckonWeek : ByteArray := prog_4_method_5_code
def yX2_reckonWeek : MethodName := ⟨RX2, "reckonWeek", "()V"⟩
abbrev cX2_total : ByteArray := prog_4_method_6_code
def yX2_total : MethodName := ⟨RX2, "total", "(I)I"⟩
abbrev cX2_warehouseBags : ByteArray := prog_4_method_7_code
def yX2_warehouseBags : MethodName := ⟨RX2, "warehouseBags", "()I"⟩
abbrev cX2_sumOfShares : ByteArray := prog_4_method_8_code
def yX2_sumOfShares : MethodName := ⟨RX2, "sumOfShares", "(I)I"⟩
abbrev cX2_foggerNumber : ByteArray := prog_4_method_9_code
def yX2_foggerNumber : MethodName := ⟨RX2, "foggerNumber", "(II)I"⟩
abbrev cX2_workersFor : ByteArray := prog_4_method_10_code
def yX2_workersFor : MethodName := ⟨RX2, "workersFor", "(I)I"⟩
def RX3 : String := "NailRods"
def TX3 : u_T := fun k => match k with
  | 0 => ("NailRods", "trade", "LNailRods$Trade;", true)
  | 1 => ("NailRods", "foreseen", "LNailRods$Trade;", true)
  | _ => ("NailRods", "trial", "LNailRods$Nailer;", true)
def tyX3 : Nat → FieldType := fun k => match k with
  | 0 => .object "NailRods$Trade"
  | 1 => .object "NailRods$Trade"
  | _ => .object "NailRods$Nailer"
abbrev wsX30 : List Cond := u_ws RX3 TX3 3
theorem nmX3 : ∀ a, a < 3 → ∀ b, b < 3 → a ≠ b → (TX3 a).2.1 ≠ (TX3 b).2.1 := by decide +kernel
theorem tyX3_ok : ∀ k, k < 3 → parseFieldDescriptor (TX3 k).2.2.1 = some (tyX3 k) := by decide +kernel
abbrev cX3_init : ByteArray := prog_1_method_1_code
def yX3_init : MethodName := ⟨RX3, "<init>", "()V"⟩
abbrev cX3_nailer : ByteArray := prog_1_method_2_code
def yX3_nailer : MethodName := ⟨RX3, "nailer", "(III)I"⟩
abbrev cX3_lend : ByteArray := prog_1_method_3_code
def yX3_lend : MethodName := ⟨RX3, "lend", "(II)I"⟩
abbrev cX3_coal : ByteArray := prog_1_method_4_code
def yX3_coal : MethodName := ⟨RX3, "coal", "(II)I"⟩
abbrev cX3_told : ByteArray := prog_1_method_7_code
def yX3_told : MethodName := ⟨RX3, "told", "(II)I"⟩
abbrev cX3_nails : ByteArray := prog_1_method_8_code
def yX3_nails : MethodName := ⟨RX3, "nails", "(III)I"⟩
abbrev cX3_keep : ByteArray := prog_1_method_9_code
def yX3_keep : MethodName := ⟨RX3, "keep", "(II)I"⟩
abbrev cX3_fogger : ByteArray := prog_1_method_10_code
def yX3_fogger : MethodName := ⟨RX3, "fogger", "(II)I"⟩
abbrev cX3_count : ByteArray := prog_1_method_11_code
def yX3_count : MethodName := ⟨RX3, "count", "(I)I"⟩
abbrev cX3_pass : ByteArray := prog_1_method_12_code
def yX3_pass : MethodName := ⟨RX3, "pass", "(I)I"⟩
abbrev cX3_rate : ByteArray := prog_1_method_13_code
def yX3_rate : MethodName := ⟨RX3, "rate", "(I)I"⟩
abbrev cX3_foresee : ByteArray := prog_1_method_15_code
def yX3_foresee : MethodName := ⟨RX3, "foresee", "(II)I"⟩
abbrev cX3_advise : ByteArray := prog_1_method_16_code
def yX3_advise : MethodName := ⟨RX3, "advise", "(II)I"⟩
abbrev cX3_richest : ByteArray := prog_1_method_17_code
def yX3_richest : MethodName := ⟨RX3, "richest", "()I"⟩
abbrev cX3_digest : ByteArray := prog_1_method_19_code
def yX3_digest : MethodName := ⟨RX3, "digest", "()J"⟩
abbrev cX3_needNailer : ByteArray := prog_1_method_20_code
def yX3_needNailer : MethodName := ⟨RX3, "needNailer", "(I)V"⟩
abbrev cX3_needIndex : ByteArray := prog_1_method_21_code
def yX3_needIndex : MethodName := ⟨RX3, "needIndex", "(II)V"⟩
abbrev cX3_needWithin : ByteArray := prog_1_method_22_code
def yX3_needWithin : MethodName := ⟨RX3, "needWithin", "(III)V"⟩
def RX4 : String := "NailRodsModel"
def TX4 : u_T := fun k => match k with
  | _ => ("", "", "", false)
def tyX4 : Nat → FieldType := fun k => match k with
  | _ => .int
abbrev wsX40 : List Cond := u_ws RX4 TX4 0
theorem nmX4 : ∀ a, a < 0 → ∀ b, b < 0 → a ≠ b → (TX4 a).2.1 ≠ (TX4 b).2.1 := by decide +kernel
theorem tyX4_ok : ∀ k, k < 0 → parseFieldDescriptor (TX4 k).2.2.1 = some (tyX4 k) := by decide +kernel
def RJ9 : String := "java/lang/Math"
def TJ9 : u_T := fun k => match k with
  | _ => ("", "", "", false)
def tyJ9 : Nat → FieldType := fun k => match k with
  | _ => .int
abbrev wsJ90 : List Cond := u_ws RJ9 TJ9 0
theorem nmJ9 : ∀ a, a < 0 → ∀ b, b < 0 → a ≠ b → (TJ9 a).2.1 ≠ (TJ9 b).2.1 := by decide +kernel
theorem tyJ9_ok : ∀ k, k < 0 → parseFieldDescriptor (TJ9 k).2.2.1 = some (tyJ9 k) := by decide +kernel
abbrev cJ9_max_7cf53 : ByteArray := prog_11_method_65_code
def yJ9_max_7cf53 : MethodName := ⟨RJ9, "max", "(II)I"⟩
abbrev cJ9_min_7cf53 : ByteArray := prog_11_method_69_code
def yJ9_min_7cf53 : MethodName := ⟨RJ9, "min", "(II)I"⟩
def RJ0 : String := "java/lang/String"
def TJ0 : u_T := fun k => match k with
  | _ => ("", "", "", false)
def tyJ0 : Nat → FieldType := fun k => match k with
  | _ => .int
abbrev wsJ00 : List Cond := u_ws RJ0 TJ0 0
theorem nmJ0 : ∀ a, a < 0 → ∀ b, b < 0 → a ≠ b → (TJ0 a).2.1 ≠ (TJ0 b).2.1 := by decide +kernel
theorem tyJ0_ok : ∀ k, k < 0 → parseFieldDescriptor (TJ0 k).2.2.1 = some (tyJ0 k) := by decide +kernel
def RL : String := "NailRodsLaw"
abbrev cL_below : ByteArray := method_2_code
def yL_below : MethodName := ⟨RL, "below", "(II)I"⟩
abbrev cL_cell : ByteArray := method_3_code
def yL_cell : MethodName := ⟨RL, "cell", "([II)I"⟩
abbrev cL_makers : ByteArray := method_4_code
def yL_makers : MethodName := ⟨RL, "makers", "([I)LNailRods;"⟩
abbrev cL_law : ByteArray := code
def yL_law : MethodName := ⟨RL, "law", "([I)Z"⟩
abbrev vwCl : List vw_C := [(RX0, TX0, 6), (RX1, TX1, 14), (RX2, TX2, 4), (RX3, TX3, 3)]
