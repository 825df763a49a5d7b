section
-- ===== PART A: goes FIRST, ahead of the names: the tables' words, and 'selects' of the private methods out of them =====
/-- a private method of a class that the tables say can be made, by its rows of tables_1 -/
def lw_okq (q : MethodName × Nat) : Prop := (q.1.cls ≠ "java/lang/invoke/MethodHandle" ∧ q.1.cls ≠ "java/lang/invoke/VarHandle") ∧ Cond.instantiable q.1.cls q.2 ∈ tables_1 ∧ Cond.privateMethod q.1 ∈ tables_1 ∧ Cond.instanceMethod q.1 ∈ tables_1
theorem lw_p0 : lw_okq (⟨"NailRods", "needNailer", "(I)V"⟩, 3) := ⟨⟨by decide +kernel, by decide +kernel⟩, List.mem_of_getElem? (i := 19) (by decide +kernel), List.mem_of_getElem? (i := 17) (by decide +kernel), List.mem_of_getElem? (i := 18) (by decide +kernel)⟩
theorem lw_p1 : lw_okq (⟨"java/lang/Throwable", "fillInStackTrace", "(I)Ljava/lang/Throwable;"⟩, 6) := ⟨⟨by decide +kernel, by decide +kernel⟩, List.mem_of_getElem? (i := 65) (by decide +kernel), List.mem_of_getElem? (i := 63) (by decide +kernel), List.mem_of_getElem? (i := 64) (by decide +kernel)⟩
theorem lw_p2 : lw_okq (⟨"NailRods$Nailer", "number", "(I)I"⟩, 14) := ⟨⟨by decide +kernel, by decide +kernel⟩, List.mem_of_getElem? (i := 141) (by decide +kernel), List.mem_of_getElem? (i := 139) (by decide +kernel), List.mem_of_getElem? (i := 140) (by decide +kernel)⟩
theorem lw_p3 : lw_okq (⟨"NailRods$Trade", "foggerNumber", "(II)I"⟩, 4) := ⟨⟨by decide +kernel, by decide +kernel⟩, List.mem_of_getElem? (i := 158) (by decide +kernel), List.mem_of_getElem? (i := 156) (by decide +kernel), List.mem_of_getElem? (i := 157) (by decide +kernel)⟩
theorem lw_p4 : lw_okq (⟨"NailRods$Trade", "workersFor", "(I)I"⟩, 4) := ⟨⟨by decide +kernel, by decide +kernel⟩, List.mem_of_getElem? (i := 158) (by decide +kernel), List.mem_of_getElem? (i := 161) (by decide +kernel), List.mem_of_getElem? (i := 162) (by decide +kernel)⟩
theorem lw_p5 : lw_okq (⟨"NailRods$Trade", "total", "(I)I"⟩, 4) := ⟨⟨by decide +kernel, by decide +kernel⟩, List.mem_of_getElem? (i := 158) (by decide +kernel), List.mem_of_getElem? (i := 169) (by decide +kernel), List.mem_of_getElem? (i := 170) (by decide +kernel)⟩
theorem lw_p6 : lw_okq (⟨"NailRods$Trade", "warehouseBags", "()I"⟩, 4) := ⟨⟨by decide +kernel, by decide +kernel⟩, List.mem_of_getElem? (i := 158) (by decide +kernel), List.mem_of_getElem? (i := 173) (by decide +kernel), List.mem_of_getElem? (i := 174) (by decide +kernel)⟩
theorem lw_p7 : lw_okq (⟨"NailRods$Trade", "sumOfShares", "(I)I"⟩, 4) := ⟨⟨by decide +kernel, by decide +kernel⟩, List.mem_of_getElem? (i := 158) (by decide +kernel), List.mem_of_getElem? (i := 177) (by decide +kernel), List.mem_of_getElem? (i := 178) (by decide +kernel)⟩
theorem lw_p8 : lw_okq (⟨"NailRods$Nailer", "shareOfTotal", "(I)I"⟩, 14) := ⟨⟨by decide +kernel, by decide +kernel⟩, List.mem_of_getElem? (i := 141) (by decide +kernel), List.mem_of_getElem? (i := 181) (by decide +kernel), List.mem_of_getElem? (i := 182) (by decide +kernel)⟩
theorem lw_p9 : lw_okq (⟨"NailRods$Trade", "goBy", "(I)I"⟩, 4) := ⟨⟨by decide +kernel, by decide +kernel⟩, List.mem_of_getElem? (i := 158) (by decide +kernel), List.mem_of_getElem? (i := 192) (by decide +kernel), List.mem_of_getElem? (i := 193) (by decide +kernel)⟩
theorem lw_p10 : lw_okq (⟨"NailRods$Trade", "goByOne", "()I"⟩, 4) := ⟨⟨by decide +kernel, by decide +kernel⟩, List.mem_of_getElem? (i := 158) (by decide +kernel), List.mem_of_getElem? (i := 196) (by decide +kernel), List.mem_of_getElem? (i := 197) (by decide +kernel)⟩
theorem lw_p11 : lw_okq (⟨"NailRods$Nailer", "workHour", "()I"⟩, 14) := ⟨⟨by decide +kernel, by decide +kernel⟩, List.mem_of_getElem? (i := 141) (by decide +kernel), List.mem_of_getElem? (i := 200) (by decide +kernel), List.mem_of_getElem? (i := 201) (by decide +kernel)⟩
theorem lw_p12 : lw_okq (⟨"NailRods$Nailer", "tendFire", "()V"⟩, 14) := ⟨⟨by decide +kernel, by decide +kernel⟩, List.mem_of_getElem? (i := 141) (by decide +kernel), List.mem_of_getElem? (i := 204) (by decide +kernel), List.mem_of_getElem? (i := 205) (by decide +kernel)⟩
theorem lw_p13 : lw_okq (⟨"NailRods$Nailer", "head", "(I)I"⟩, 14) := ⟨⟨by decide +kernel, by decide +kernel⟩, List.mem_of_getElem? (i := 141) (by decide +kernel), List.mem_of_getElem? (i := 214) (by decide +kernel), List.mem_of_getElem? (i := 215) (by decide +kernel)⟩
theorem lw_p14 : lw_okq (⟨"NailRods$Nailer", "headFromHand", "(I)I"⟩, 14) := ⟨⟨by decide +kernel, by decide +kernel⟩, List.mem_of_getElem? (i := 141) (by decide +kernel), List.mem_of_getElem? (i := 218) (by decide +kernel), List.mem_of_getElem? (i := 219) (by decide +kernel)⟩
theorem lw_p15 : lw_okq (⟨"NailRods$Nailer", "store", "(I)V"⟩, 14) := ⟨⟨by decide +kernel, by decide +kernel⟩, List.mem_of_getElem? (i := 141) (by decide +kernel), List.mem_of_getElem? (i := 224) (by decide +kernel), List.mem_of_getElem? (i := 225) (by decide +kernel)⟩
def lw_privs_1 : List (MethodName × Nat) := [(⟨"NailRods", "needNailer", "(I)V"⟩, 3), (⟨"java/lang/Throwable", "fillInStackTrace", "(I)Ljava/lang/Throwable;"⟩, 6), (⟨"NailRods$Nailer", "number", "(I)I"⟩, 14), (⟨"NailRods$Trade", "foggerNumber", "(II)I"⟩, 4), (⟨"NailRods$Trade", "workersFor", "(I)I"⟩, 4), (⟨"NailRods$Trade", "total", "(I)I"⟩, 4), (⟨"NailRods$Trade", "warehouseBags", "()I"⟩, 4), (⟨"NailRods$Trade", "sumOfShares", "(I)I"⟩, 4), (⟨"NailRods$Nailer", "shareOfTotal", "(I)I"⟩, 14), (⟨"NailRods$Trade", "goBy", "(I)I"⟩, 4), (⟨"NailRods$Trade", "goByOne", "()I"⟩, 4), (⟨"NailRods$Nailer", "workHour", "()I"⟩, 14), (⟨"NailRods$Nailer", "tendFire", "()V"⟩, 14), (⟨"NailRods$Nailer", "head", "(I)I"⟩, 14), (⟨"NailRods$Nailer", "headFromHand", "(I)I"⟩, 14), (⟨"NailRods$Nailer", "store", "(I)V"⟩, 14)]
theorem lw_r1 : ∀ q ∈ lw_privs_1, lw_okq q := List.forall_mem_cons.mpr ⟨lw_p0, List.forall_mem_cons.mpr ⟨lw_p1, List.forall_mem_cons.mpr ⟨lw_p2, List.forall_mem_cons.mpr ⟨lw_p3, List.forall_mem_cons.mpr ⟨lw_p4, List.forall_mem_cons.mpr ⟨lw_p5, List.forall_mem_cons.mpr ⟨lw_p6, List.forall_mem_cons.mpr ⟨lw_p7, List.forall_mem_cons.mpr ⟨lw_p8, List.forall_mem_cons.mpr ⟨lw_p9, List.forall_mem_cons.mpr ⟨lw_p10, List.forall_mem_cons.mpr ⟨lw_p11, List.forall_mem_cons.mpr ⟨lw_p12, List.forall_mem_cons.mpr ⟨lw_p13, List.forall_mem_cons.mpr ⟨lw_p14, List.forall_mem_cons.mpr ⟨lw_p15, fun _ h => absurd h List.not_mem_nil⟩⟩⟩⟩⟩⟩⟩⟩⟩⟩⟩⟩⟩⟩⟩⟩
theorem lw_p16 : lw_okq (⟨"NailRods$Trade", "reckonWeek", "()V"⟩, 4) := ⟨⟨by decide +kernel, by decide +kernel⟩, List.mem_of_getElem? (i := 158) (by decide +kernel), List.mem_of_getElem? (i := 228) (by decide +kernel), List.mem_of_getElem? (i := 229) (by decide +kernel)⟩
theorem lw_p17 : lw_okq (⟨"NailRods$Fogger", "buyBags", "(LNailRods$Nailer;)V"⟩, 6) := ⟨⟨by decide +kernel, by decide +kernel⟩, List.mem_of_getElem? (i := 234) (by decide +kernel), List.mem_of_getElem? (i := 232) (by decide +kernel), List.mem_of_getElem? (i := 233) (by decide +kernel)⟩
theorem lw_p18 : lw_okq (⟨"NailRods$Fogger", "collectDebt", "(LNailRods$Nailer;)V"⟩, 6) := ⟨⟨by decide +kernel, by decide +kernel⟩, List.mem_of_getElem? (i := 234) (by decide +kernel), List.mem_of_getElem? (i := 239) (by decide +kernel), List.mem_of_getElem? (i := 240) (by decide +kernel)⟩
theorem lw_p19 : lw_okq (⟨"NailRods$Fogger", "deliver", "()V"⟩, 6) := ⟨⟨by decide +kernel, by decide +kernel⟩, List.mem_of_getElem? (i := 234) (by decide +kernel), List.mem_of_getElem? (i := 244) (by decide +kernel), List.mem_of_getElem? (i := 245) (by decide +kernel)⟩
theorem lw_p20 : lw_okq (⟨"NailRods$Nailer", "copyFrom", "(LNailRods$Nailer;)V"⟩, 14) := ⟨⟨by decide +kernel, by decide +kernel⟩, List.mem_of_getElem? (i := 141) (by decide +kernel), List.mem_of_getElem? (i := 252) (by decide +kernel), List.mem_of_getElem? (i := 253) (by decide +kernel)⟩
theorem lw_p21 : lw_okq (⟨"NailRods$Nailer", "workHours", "(I)I"⟩, 14) := ⟨⟨by decide +kernel, by decide +kernel⟩, List.mem_of_getElem? (i := 141) (by decide +kernel), List.mem_of_getElem? (i := 256) (by decide +kernel), List.mem_of_getElem? (i := 257) (by decide +kernel)⟩
theorem lw_p22 : lw_okq (⟨"NailRods$Trade", "copyFrom", "(LNailRods$Trade;)V"⟩, 4) := ⟨⟨by decide +kernel, by decide +kernel⟩, List.mem_of_getElem? (i := 158) (by decide +kernel), List.mem_of_getElem? (i := 266) (by decide +kernel), List.mem_of_getElem? (i := 267) (by decide +kernel)⟩
theorem lw_p23 : lw_okq (⟨"NailRods$Fogger", "copyFrom", "(LNailRods$Fogger;)V"⟩, 6) := ⟨⟨by decide +kernel, by decide +kernel⟩, List.mem_of_getElem? (i := 234) (by decide +kernel), List.mem_of_getElem? (i := 271) (by decide +kernel), List.mem_of_getElem? (i := 272) (by decide +kernel)⟩
theorem lw_p24 : lw_okq (⟨"NailRods$Nailer", "addToDigest", "(J)J"⟩, 14) := ⟨⟨by decide +kernel, by decide +kernel⟩, List.mem_of_getElem? (i := 141) (by decide +kernel), List.mem_of_getElem? (i := 290) (by decide +kernel), List.mem_of_getElem? (i := 291) (by decide +kernel)⟩
theorem lw_p25 : lw_okq (⟨"NailRods$Nailer", "begin", "(III)V"⟩, 14) := ⟨⟨by decide +kernel, by decide +kernel⟩, List.mem_of_getElem? (i := 141) (by decide +kernel), List.mem_of_getElem? (i := 442) (by decide +kernel), List.mem_of_getElem? (i := 443) (by decide +kernel)⟩
def lw_privs_2 : List (MethodName × Nat) := [(⟨"NailRods$Trade", "reckonWeek", "()V"⟩, 4), (⟨"NailRods$Fogger", "buyBags", "(LNailRods$Nailer;)V"⟩, 6), (⟨"NailRods$Fogger", "collectDebt", "(LNailRods$Nailer;)V"⟩, 6), (⟨"NailRods$Fogger", "deliver", "()V"⟩, 6), (⟨"NailRods$Nailer", "copyFrom", "(LNailRods$Nailer;)V"⟩, 14), (⟨"NailRods$Nailer", "workHours", "(I)I"⟩, 14), (⟨"NailRods$Trade", "copyFrom", "(LNailRods$Trade;)V"⟩, 4), (⟨"NailRods$Fogger", "copyFrom", "(LNailRods$Fogger;)V"⟩, 6), (⟨"NailRods$Nailer", "addToDigest", "(J)J"⟩, 14), (⟨"NailRods$Nailer", "begin", "(III)V"⟩, 14)]
theorem lw_r2 : ∀ q ∈ lw_privs_2, lw_okq q := List.forall_mem_cons.mpr ⟨lw_p16, List.forall_mem_cons.mpr ⟨lw_p17, List.forall_mem_cons.mpr ⟨lw_p18, List.forall_mem_cons.mpr ⟨lw_p19, List.forall_mem_cons.mpr ⟨lw_p20, List.forall_mem_cons.mpr ⟨lw_p21, List.forall_mem_cons.mpr ⟨lw_p22, List.forall_mem_cons.mpr ⟨lw_p23, List.forall_mem_cons.mpr ⟨lw_p24, List.forall_mem_cons.mpr ⟨lw_p25, fun _ h => absurd h List.not_mem_nil⟩⟩⟩⟩⟩⟩⟩⟩⟩⟩
def lw_privs : List (MethodName × Nat) := lw_privs_1 ++ (lw_privs_2)
def lw_tbl : List Cond := k2_sels lw_privs ++ tables_1
theorem lw_privs_ok : ∀ q ∈ lw_privs, lw_okq q := by
  show ∀ q ∈ lw_privs_1 ++ (lw_privs_2), lw_okq q
  exact List.forall_mem_append.mpr ⟨lw_r1, lw_r2⟩
end
section
def RX0 : String := "NailRods$Fogger"
def TX0 : u_T := fun k => match k with
  | 0 => ("NailRods$Fogger", "keptBack", "I", false)
  | 1 => ("NailRods$Fogger", "coins", "I", false)
  | 2 => ("NailRods$Fogger", "bought", "I", false)
  | 3 => ("NailRods$Fogger", "paid", "I", false)
  | 4 => ("NailRods$Fogger", "earned", "I", false)
  | _ => ("NailRods$Fogger", "loadWorth", "I", false)
def tyX0 : Nat → FieldType := fun k => match k with
  | 0 => .int
  | 1 => .int
  | 2 => .int
  | 3 => .int
  | 4 => .int
  | _ => .int
abbrev wsX00 : List Cond := u_ws RX0 TX0 6
theorem nmX0 : ∀ a, a < 6 → ∀ b, b < 6 → a ≠ b → (TX0 a).2.1 ≠ (TX0 b).2.1 := by decide +kernel
theorem tyX0_ok : ∀ k, k < 6 → parseFieldDescriptor (TX0 k).2.2.1 = some (tyX0 k) := by decide +kernel
abbrev cX0_init : ByteArray := prog_2_method_1_code
def yX0_init : MethodName := ⟨RX0, "<init>", "()V"⟩
abbrev cX0_copyFrom : ByteArray := prog_2_method_2_code
def yX0_copyFrom : MethodName := ⟨RX0, "copyFrom", "(LNailRods$Fogger;)V"⟩
abbrev cX0_buyBags : ByteArray := prog_2_method_3_code
def yX0_buyBags : MethodName := ⟨RX0, "buyBags", "(LNailRods$Nailer;)V"⟩
abbrev cX0_collectDebt : ByteArray := prog_2_method_4_code
def yX0_collectDebt : MethodName := ⟨RX0, "collectDebt", "(LNailRods$Nailer;)V"⟩
abbrev cX0_deliver : ByteArray := prog_2_method_5_code
def yX0_deliver : MethodName := ⟨RX0, "deliver", "()V"⟩
def RX1 : String := "NailRods$Nailer"
def TX1 : u_T := fun k => match k with
  | 0 => ("NailRods$Nailer", "skill", "I", false)
  | 1 => ("NailRods$Nailer", "kind", "I", false)
  | 2 => ("NailRods$Nailer", "fogger", "I", false)
  | 3 => ("NailRods$Nailer", "rods", "I", false)
  | 4 => ("NailRods$Nailer", "ounces", "I", false)
  | 5 => ("NailRods$Nailer", "heat", "I", false)
  | 6 => ("NailRods$Nailer", "coal", "I", false)
  | 7 => ("NailRods$Nailer", "coins", "I", false)
  | 8 => ("NailRods$Nailer", "owed", "I", false)
  | 9 => ("NailRods$Nailer", "scrap", "I", false)
  | 10 => ("NailRods$Nailer", "burnt", "I", false)
  | 11 => ("NailRods$Nailer", "good", "I", false)
  | 12 => ("NailRods$Nailer", "loose", "[I", true)
  | _ => ("NailRods$Nailer", "bags", "[I", true)
def tyX1 : Nat → FieldType := fun k => match k with
  | 0 => .int
  | 1 => .int
  | 2 => .int
  | 3 => .int
  | 4 => .int
  | 5 => .int
  | 6 => .int
  | 7 => .int
  | 8 => .int
  | 9 => .int
  | 10 => .int
  | 11 => .int
  | 12 => .array .int
  | _ => .array .int
abbrev wsX10 : List Cond := u_ws RX1 TX1 14
theorem nmX1 : ∀ a, a < 14 → ∀ b, b < 14 → a ≠ b → (TX1 a).2.1 ≠ (TX1 b).2.1 := by decide +kernel
theorem tyX1_ok : ∀ k, k < 14 → parseFieldDescriptor (TX1 k).2.2.1 = some (tyX1 k) := by decide +kernel
abbrev cX1_init : ByteArray := prog_3_method_1_code
def yX1_init : MethodName := ⟨RX1, "<init>", "()V"⟩
abbrev cX1_begin : ByteArray := prog_3_method_2_code
def yX1_begin : MethodName := ⟨RX1, "begin", "(III)V"⟩
abbrev cX1_copyFrom : ByteArray := prog_3_method_3_code
def yX1_copyFrom : MethodName := ⟨RX1, "copyFrom", "(LNailRods$Nailer;)V"⟩
abbrev cX1_workHours : ByteArray := prog_3_method_4_code
def yX1_workHours : MethodName := ⟨RX1, "workHours", "(I)I"⟩
abbrev cX1_workHour : ByteArray := prog_3_method_5_code
def yX1_workHour : MethodName := ⟨RX1, "workHour", "()I"⟩
abbrev cX1_tendFire : ByteArray := prog_3_method_6_code
def yX1_tendFire : MethodName := ⟨RX1, "tendFire", "()V"⟩
abbrev cX1_head : ByteArray := prog_3_method_7_code
def yX1_head : MethodName := ⟨RX1, "head", "(I)I"⟩
abbrev cX1_headFromHand : ByteArray := prog_3_method_8_code
def yX1_headFromHand : MethodName := ⟨RX1, "headFromHand", "(I)I"⟩
abbrev cX1_store : ByteArray := prog_3_method_9_code
def yX1_store : MethodName := ⟨RX1, "store", "(I)V"⟩
abbrev cX1_number : ByteArray := prog_3_method_10_code
def yX1_number : MethodName := ⟨RX1, "number", "(I)I"⟩
abbrev cX1_shareOfTotal : ByteArray := prog_3_method_11_code
def yX1_shareOfTotal : MethodName := ⟨RX1, "shareOfTotal", "(I)I"⟩
abbrev cX1_sumOf : ByteArray := prog_3_method_12_code
def yX1_sumOf : MethodName := ⟨RX1, "sumOf", "([I)I"⟩
abbrev cX1_addToDigest : ByteArray := prog_3_method_13_code
def yX1_addToDigest : MethodName := ⟨RX1, "addToDigest", "(J)J"⟩
def RX2 : String := "NailRods$Trade"
def TX2 : u_T := fun k => match k with
  | 0 => ("NailRods$Trade", "hour", "I", false)
  | 1 => ("NailRods$Trade", "nailerCount", "I", false)
  | 2 => ("NailRods$Trade", "nailers", "[LNailRods$Nailer;", true)
  | _ => ("NailRods$Trade", "foggers", "[LNailRods$Fogger;", true)
def tyX2 : Nat → FieldType := fun k => match k with
  | 0 => .int
  | 1 => .int
  | 2 => .array (.object "NailRods$Nailer")
  | _ => .array (.object "NailRods$Fogger")
abbrev wsX20 : List Cond := u_ws RX2 TX2 4
theorem nmX2 : ∀ a, a < 4 → ∀ b, b < 4 → a ≠ b → (TX2 a).2.1 ≠ (TX2 b).2.1 := by decide +kernel
theorem tyX2_ok : ∀ k, k < 4 → parseFieldDescriptor (TX2 k).2.2.1 = some (tyX2 k) := by decide +kernel
abbrev cX2_init : ByteArray := prog_4_method_1_code
def yX2_init : MethodName := ⟨RX2, "<init>", "()V"⟩
abbrev cX2_copyFrom : ByteArray := prog_4_method_2_code
def yX2_copyFrom : MethodName := ⟨RX2, "copyFrom", "(LNailRods$Trade;)V"⟩
abbrev cX2_goBy : ByteArray := prog_4_method_3_code
def yX2_goBy : MethodName := ⟨RX2, "goBy", "(I)I"⟩
abbrev cX2_goByOne : ByteArray := prog_4_method_4_code
def yX2_goByOne : MethodName := ⟨RX2, "goByOne", "()I"⟩
abbrev cX2_reckonWeek : ByteArray := prog_4_method_5_code
def yX2_reckonWeek : MethodName := ⟨RX2, "reckonWeek", "()V"⟩
abbrev cX2_total : ByteArray := prog_4_method_6_code
def yX2_total : MethodName := ⟨RX2, "total", "(I)I"⟩
abbrev cX2_warehouseBags : ByteArray := prog_4_method_7_code
def yX2_warehouseBags : MethodName := ⟨RX2, "warehouseBags", "()I"⟩
abbrev cX2_sumOfShares : ByteArray := prog_4_method_8_code
def yX2_sumOfShares : MethodName := ⟨RX2, "sumOfShares", "(I)I"⟩
abbrev cX2_foggerNumber : ByteArray := prog_4_method_9_code
def yX2_foggerNumber : MethodName := ⟨RX2, "foggerNumber", "(II)I"⟩
abbrev cX2_workersFor : ByteArray := prog_4_method_10_code
def yX2_workersFor : MethodName := ⟨RX2, "workersFor", "(I)I"⟩
def RX3 : String := "NailRods"
def TX3 : u_T := fun k => match k with
  | 0 => ("NailRods", "trade", "LNailRods$Trade;", true)
  | 1 => ("NailRods", "foreseen", "LNailRods$Trade;", true)
  | _ => ("NailRods", "trial", "LNailRods$Nailer;", true)
def tyX3 : Nat → FieldType := fun k => match k with
  | 0 => .object "NailRods$Trade"
  | 1 => .object "NailRods$Trade"
  | _ => .object "NailRods$Nailer"
abbrev wsX30 : List Cond := u_ws RX3 TX3 3
theorem nmX3 : ∀ a, a < 3 → ∀ b, b < 3 → a ≠ b → (TX3 a).2.1 ≠ (TX3 b).2.1 := by decide +kernel
theorem tyX3_ok : ∀ k, k < 3 → parseFieldDescriptor (TX3 k).2.2.1 = some (tyX3 k) := by decide +kernel
abbrev cX3_init : ByteArray := prog_1_method_1_code
def yX3_init : MethodName := ⟨RX3, "<init>", "()V"⟩
abbrev cX3_nailer : ByteArray := prog_1_method_2_code
def yX3_nailer : MethodName := ⟨RX3, "nailer", "(III)I"⟩
abbrev cX3_lend : ByteArray := prog_1_method_3_code
def yX3_lend : MethodName := ⟨RX3, "lend", "(II)I"⟩
abbrev cX3_coal : ByteArray := prog_1_method_4_code
def yX3_coal : MethodName := ⟨RX3, "coal", "(II)I"⟩
abbrev cX3_told : ByteArray := prog_1_method_7_code
def yX3_told : MethodName := ⟨RX3, "told", "(II)I"⟩
abbrev cX3_nails : ByteArray := prog_1_method_8_code
def yX3_nails : MethodName := ⟨RX3, "nails", "(III)I"⟩
abbrev cX3_keep : ByteArray := prog_1_method_9_code
def yX3_keep : MethodName := ⟨RX3, "keep", "(II)I"⟩
abbrev cX3_fogger : ByteArray := prog_1_method_10_code
def yX3_fogger : MethodName := ⟨RX3, "fogger", "(II)I"⟩
abbrev cX3_count : ByteArray := prog_1_method_11_code
def yX3_count : MethodName := ⟨RX3, "count", "(I)I"⟩
abbrev cX3_pass : ByteArray := prog_1_method_12_code
def yX3_pass : MethodName := ⟨RX3, "pass", "(I)I"⟩
abbrev cX3_rate : ByteArray := prog_1_method_13_code
def yX3_rate : MethodName := ⟨RX3, "rate", "(I)I"⟩
abbrev cX3_foresee : ByteArray := prog_1_method_15_code
def yX3_foresee : MethodName := ⟨RX3, "foresee", "(II)I"⟩
abbrev cX3_advise : ByteArray := prog_1_method_16_code
def yX3_advise : MethodName := ⟨RX3, "advise", "(II)I"⟩
abbrev cX3_richest : ByteArray := prog_1_method_17_code
def yX3_richest : MethodName := ⟨RX3, "richest", "()I"⟩
abbrev cX3_digest : ByteArray := prog_1_method_19_code
def yX3_digest : MethodName := ⟨RX3, "digest", "()J"⟩
abbrev cX3_needNailer : ByteArray := prog_1_method_20_code
def yX3_needNailer : MethodName := ⟨RX3, "needNailer", "(I)V"⟩
abbrev cX3_needIndex : ByteArray := prog_1_method_21_code
def yX3_needIndex : MethodName := ⟨RX3, "needIndex", "(II)V"⟩
abbrev cX3_needWithin : ByteArray := prog_1_method_22_code
def yX3_needWithin : MethodName := ⟨RX3, "needWithin", "(III)V"⟩
def RX4 : String := "NailRodsModel"
def TX4 : u_T := fun k => match k with
  | _ => ("", "", "", false)
def tyX4 : Nat → FieldType := fun k => match k with
  | _ => .int
abbrev wsX40 : List Cond := u_ws RX4 TX4 0
theorem nmX4 : ∀ a, a < 0 → ∀ b, b < 0 → a ≠ b → (TX4 a).2.1 ≠ (TX4 b).2.1 := by decide +kernel
theorem tyX4_ok : ∀ k, k < 0 → parseFieldDescriptor (TX4 k).2.2.1 = some (tyX4 k) := by decide +kernel
def RJ9 : String := "java/lang/Math"
def TJ9 : u_T := fun k => match k with
  | _ => ("", "", "", false)
def tyJ9 : Nat → FieldType := fun k => match k with
  | _ => .int
abbrev wsJ90 : List Cond := u_ws RJ9 TJ9 0
theorem nmJ9 : ∀ a, a < 0 → ∀ b, b < 0 → a ≠ b → (TJ9 a).2.1 ≠ (TJ9 b).2.1 := by decide +kernel
theorem tyJ9_ok : ∀ k, k < 0 → parseFieldDescriptor (TJ9 k).2.2.1 = some (tyJ9 k) := by decide +kernel
abbrev cJ9_max_7cf53 : ByteArray := prog_11_method_65_code
def yJ9_max_7cf53 : MethodName := ⟨RJ9, "max", "(II)I"⟩
abbrev cJ9_min_7cf53 : ByteArray := prog_11_method_69_code
def yJ9_min_7cf53 : MethodName := ⟨RJ9, "min", "(II)I"⟩
def RJ0 : String := "java/lang/String"
def TJ0 : u_T := fun k => match k with
  | _ => ("", "", "", false)
def tyJ0 : Nat → FieldType := fun k => match k with
  | _ => .int
abbrev wsJ00 : List Cond := u_ws RJ0 TJ0 0
theorem nmJ0 : ∀ a, a < 0 → ∀ b, b < 0 → a ≠ b → (TJ0 a).2.1 ≠ (TJ0 b).2.1 := by decide +kernel
theorem tyJ0_ok : ∀ k, k < 0 → parseFieldDescriptor (TJ0 k).2.2.1 = some (tyJ0 k) := by decide +kernel
def RL : String := "NailRodsLaw"
abbrev cL_below : ByteArray := method_2_code
def yL_below : MethodName := ⟨RL, "below", "(II)I"⟩
abbrev cL_cell : ByteArray := method_3_code
def yL_cell : MethodName := ⟨RL, "cell", "([II)I"⟩
abbrev cL_makers : ByteArray := method_4_code
def yL_makers : MethodName := ⟨RL, "makers", "([I)LNailRods;"⟩
abbrev cL_law : ByteArray := code
def yL_law : MethodName := ⟨RL, "law", "([I)Z"⟩
abbrev vwCl : List vw_C := [(RX0, TX0, 6), (RX1, TX1, 14), (RX2, TX2, 4), (RX3, TX3, 3)]
end
section
/-! THE TABLES' WORDS, one by one, by their places: gtb holds all that stay good for every callee -/
def gtb : List Cond := lw_tbl.filter goodWord
theorem gtb_hts {args : Array Value} {s : State} (h : ∀ w ∈ lw_tbl, w.before args s = true) : ∀ w ∈ gtb, w.before args s = true := fun w hw => h w (List.mem_filter.mp hw).1
theorem gt0 {w : Cond} (i : Nat) (h : (k2_sels lw_privs)[i]? = some w) (hg : goodWord w = true) : w ∈ gtb := List.mem_filter.mpr ⟨List.mem_append_left _ (List.mem_of_getElem? h), hg⟩
theorem gt1 {w : Cond} (i : Nat) (h : tables_1_1[i]? = some w) (hg : goodWord w = true) : w ∈ gtb := List.mem_filter.mpr ⟨List.mem_append_right _ (List.mem_append_left _ (List.mem_of_getElem? h)), hg⟩
theorem gt2 {w : Cond} (i : Nat) (h : tables_1_2[i]? = some w) (hg : goodWord w = true) : w ∈ gtb := List.mem_filter.mpr ⟨List.mem_append_right _ (List.mem_append_right _ (List.mem_of_getElem? h)), hg⟩
/-- a method's words: its code, and the tables' -/
theorem gtb_in {w0 w1 : Cond} (h : w1 ∈ gtb) : GoodIn (w0 :: gtb) (w1 :: gtb) := by
  intro w hw
  have key : ∀ w ∈ gtb, w ∈ w0 :: gtb ∧ ((w.onTables && w.keeps) = true ∨ ∃ ty, w = .arrayClass ty) := fun w hw => ⟨List.mem_cons_of_mem _ hw, good_of_word (List.mem_filter.mp hw).2⟩
  rcases List.mem_cons.mp hw with rfl | hw
  · exact key _ h
  · exact key _ hw
theorem gtb_law {w1 : Cond} (h : w1 ∈ gtb) : GoodIn lw_tbl (w1 :: gtb) := by
  intro w hw
  have key : ∀ w ∈ gtb, w ∈ lw_tbl ∧ ((w.onTables && w.keeps) = true ∨ ∃ ty, w = .arrayClass ty) := fun w hw => ⟨(List.mem_filter.mp hw).1, good_of_word (List.mem_filter.mp hw).2⟩
  rcases List.mem_cons.mp hw with rfl | hw
  · exact key _ h
  · exact key _ hw
theorem k_0 : Cond.initialized RL ∈ gtb := gt1 0 (by decide +kernel) rfl
theorem k_1 : Cond.initialized RX3 ∈ gtb := gt1 1 (by decide +kernel) rfl
theorem k_2 : Cond.initialized RX2 ∈ gtb := gt1 2 (by decide +kernel) rfl
theorem k_3 : Cond.initialized RX1 ∈ gtb := gt1 3 (by decide +kernel) rfl
theorem k_4 : Cond.initialized RX0 ∈ gtb := gt1 4 (by decide +kernel) rfl
theorem k_5 : Cond.initialized "java/lang/Throwable" ∈ gtb := gt1 5 (by decide +kernel) rfl
theorem k_6 : Cond.initialized "java/lang/Exception" ∈ gtb := gt1 6 (by decide +kernel) rfl
theorem k_7 : Cond.initialized "java/lang/RuntimeException" ∈ gtb := gt1 7 (by decide +kernel) rfl
theorem k_8 : Cond.initialized "java/lang/IndexOutOfBoundsException" ∈ gtb := gt1 8 (by decide +kernel) rfl
theorem k_9 : Cond.initialized "java/lang/IllegalArgumentException" ∈ gtb := gt1 9 (by decide +kernel) rfl
theorem k_10 : Cond.initialized "java/lang/IllegalStateException" ∈ gtb := gt1 10 (by decide +kernel) rfl
theorem k_11 : Cond.initialized "java/lang/Math" ∈ gtb := gt1 11 (by decide +kernel) rfl
theorem k_12 : Cond.methodLink RL 26 yX3_lend ∈ gtb := gt1 12 (by decide +kernel) rfl
theorem k_13 : Cond.instanceMethod yX3_lend ∈ gtb := gt1 13 (by decide +kernel) rfl
theorem k_14 : Cond.selects RX3 yX3_lend yX3_lend ∈ gtb := gt1 14 (by decide +kernel) rfl
theorem k_15 : Cond.code yX3_lend cX3_lend 5 (some FieldType.int) ∈ gtb := gt1 15 (by decide +kernel) rfl
theorem k_16 : Cond.methodLink RX3 52 yX3_needNailer ∈ gtb := gt1 16 (by decide +kernel) rfl
theorem k_18 : Cond.instanceMethod yX3_needNailer ∈ gtb := gt1 18 (by decide +kernel) rfl
theorem k_19 : Cond.instantiable RX3 3 ∈ gtb := gt1 19 (by decide +kernel) rfl
theorem k_20 : Cond.code yX3_needNailer cX3_needNailer 2 none ∈ gtb := gt1 20 (by decide +kernel) rfl
theorem k_21 : Cond.methodLink RX3 26 yX3_needIndex ∈ gtb := gt1 21 (by decide +kernel) rfl
theorem k_22 : Cond.static yX3_needIndex ∈ gtb := gt1 22 (by decide +kernel) rfl
theorem k_23 : Cond.code yX3_needIndex cX3_needIndex 2 none ∈ gtb := gt1 23 (by decide +kernel) rfl
theorem k_24 : Cond.classLink RX3 117 "java/lang/IndexOutOfBoundsException" ∈ gtb := gt1 24 (by decide +kernel) rfl
theorem k_25 : Cond.instantiable "java/lang/IndexOutOfBoundsException" 6 ∈ gtb := gt1 25 (by decide +kernel) rfl
theorem k_33 : Cond.selects "java/lang/IndexOutOfBoundsException" ⟨"java/lang/Throwable", "fillInStackTrace", "(I)Ljava/lang/Throwable;"⟩ ⟨"java/lang/Throwable", "fillInStackTrace", "(I)Ljava/lang/Throwable;"⟩ ∈ gtb := gt1 33 (by decide +kernel) rfl
theorem k_34 : Cond.selects "java/lang/IndexOutOfBoundsException" ⟨"java/lang/Throwable", "fillInStackTrace", "()Ljava/lang/Throwable;"⟩ ⟨"java/lang/Throwable", "fillInStackTrace", "()Ljava/lang/Throwable;"⟩ ∈ gtb := gt1 34 (by decide +kernel) rfl
theorem k_35 : Cond.lays "java/lang/IndexOutOfBoundsException" "java/lang/Throwable" "cause" "Ljava/lang/Throwable;" ∈ gtb := gt1 35 (by decide +kernel) rfl
theorem k_36 : Cond.lays "java/lang/Throwable" "java/lang/Throwable" "cause" "Ljava/lang/Throwable;" ∈ gtb := gt1 36 (by decide +kernel) rfl
theorem k_37 : Cond.lays "java/lang/IndexOutOfBoundsException" "java/lang/Throwable" "stackTrace" "[Ljava/lang/StackTraceElement;" ∈ gtb := gt1 37 (by decide +kernel) rfl
theorem k_38 : Cond.lays "java/lang/Throwable" "java/lang/Throwable" "stackTrace" "[Ljava/lang/StackTraceElement;" ∈ gtb := gt1 38 (by decide +kernel) rfl
theorem k_39 : Cond.lays "java/lang/IndexOutOfBoundsException" "java/lang/Throwable" "suppressedExceptions" "Ljava/util/List;" ∈ gtb := gt1 39 (by decide +kernel) rfl
theorem k_40 : Cond.lays "java/lang/Throwable" "java/lang/Throwable" "suppressedExceptions" "Ljava/util/List;" ∈ gtb := gt1 40 (by decide +kernel) rfl
theorem k_41 : Cond.lays "java/lang/IndexOutOfBoundsException" "java/lang/Throwable" "detailMessage" "Ljava/lang/String;" ∈ gtb := gt1 41 (by decide +kernel) rfl
theorem k_42 : Cond.lays "java/lang/Throwable" "java/lang/Throwable" "detailMessage" "Ljava/lang/String;" ∈ gtb := gt1 42 (by decide +kernel) rfl
theorem k_43 : Cond.lays "java/lang/IndexOutOfBoundsException" "java/lang/Throwable" "backtrace" "Ljava/lang/Object;" ∈ gtb := gt1 43 (by decide +kernel) rfl
theorem k_44 : Cond.lays "java/lang/Throwable" "java/lang/Throwable" "backtrace" "Ljava/lang/Object;" ∈ gtb := gt1 44 (by decide +kernel) rfl
theorem k_45 : Cond.fieldLink "java/lang/Throwable" 198 "java/lang/Throwable" "backtrace" "Ljava/lang/Object;" ∈ gtb := gt1 45 (by decide +kernel) rfl
theorem k_47 : Cond.instanceMethod ⟨"java/lang/Throwable", "<init>", "()V"⟩ ∈ gtb := gt1 47 (by decide +kernel) rfl
theorem k_48 : Cond.code ⟨"java/lang/Throwable", "<init>", "()V"⟩ prog_14_method_1_code 1 none ∈ gtb := gt1 48 (by decide +kernel) rfl
theorem k_49 : Cond.methodLink "java/lang/Throwable" 1 objectInit ∈ gtb := gt1 49 (by decide +kernel) rfl
theorem k_50 : Cond.instanceMethod objectInit ∈ gtb := gt1 50 (by decide +kernel) rfl
theorem k_51 : Cond.code objectInit object_method_1_code 1 none ∈ gtb := gt1 51 (by decide +kernel) rfl
theorem k_52 : Cond.fieldLink "java/lang/Throwable" 13 "java/lang/Throwable" "UNASSIGNED_STACK" "[Ljava/lang/StackTraceElement;" ∈ gtb := gt1 52 (by decide +kernel) rfl
theorem k_54 : Cond.fieldLink "java/lang/Throwable" 20 "java/lang/Throwable" "SUPPRESSED_SENTINEL" "Ljava/util/List;" ∈ gtb := gt1 54 (by decide +kernel) rfl
theorem k_56 : Cond.methodLink "java/lang/Throwable" 27 ⟨"java/lang/Throwable", "fillInStackTrace", "()Ljava/lang/Throwable;"⟩ ∈ gtb := gt1 56 (by decide +kernel) rfl
theorem k_57 : Cond.instanceMethod ⟨"java/lang/Throwable", "fillInStackTrace", "()Ljava/lang/Throwable;"⟩ ∈ gtb := gt1 57 (by decide +kernel) rfl
theorem k_59 : Cond.selects "java/lang/IllegalArgumentException" ⟨"java/lang/Throwable", "fillInStackTrace", "()Ljava/lang/Throwable;"⟩ ⟨"java/lang/Throwable", "fillInStackTrace", "()Ljava/lang/Throwable;"⟩ ∈ gtb := gt1 59 (by decide +kernel) rfl
theorem k_60 : Cond.selects "java/lang/IllegalStateException" ⟨"java/lang/Throwable", "fillInStackTrace", "()Ljava/lang/Throwable;"⟩ ⟨"java/lang/Throwable", "fillInStackTrace", "()Ljava/lang/Throwable;"⟩ ∈ gtb := gt1 60 (by decide +kernel) rfl
theorem k_62 : Cond.methodLink "java/lang/Throwable" 202 ⟨"java/lang/Throwable", "fillInStackTrace", "(I)Ljava/lang/Throwable;"⟩ ∈ gtb := gt1 62 (by decide +kernel) rfl
theorem k_64 : Cond.instanceMethod ⟨"java/lang/Throwable", "fillInStackTrace", "(I)Ljava/lang/Throwable;"⟩ ∈ gtb := gt1 64 (by decide +kernel) rfl
theorem k_65 : Cond.instantiable "java/lang/Throwable" 6 ∈ gtb := gt1 65 (by decide +kernel) rfl
theorem k_66 : Cond.native ⟨"java/lang/Throwable", "fillInStackTrace", "(I)Ljava/lang/Throwable;"⟩ ∈ gtb := gt1 66 (by decide +kernel) rfl
theorem k_68 : Cond.methodLink RX3 121 ⟨"java/lang/IndexOutOfBoundsException", "<init>", "(Ljava/lang/String;)V"⟩ ∈ gtb := gt1 68 (by decide +kernel) rfl
theorem k_69 : Cond.instanceMethod ⟨"java/lang/IndexOutOfBoundsException", "<init>", "(Ljava/lang/String;)V"⟩ ∈ gtb := gt1 69 (by decide +kernel) rfl
theorem k_70 : Cond.code ⟨"java/lang/IndexOutOfBoundsException", "<init>", "(Ljava/lang/String;)V"⟩ prog_10_method_2_code 2 none ∈ gtb := gt1 70 (by decide +kernel) rfl
theorem k_71 : Cond.methodLink "java/lang/IndexOutOfBoundsException" 7 ⟨"java/lang/RuntimeException", "<init>", "(Ljava/lang/String;)V"⟩ ∈ gtb := gt1 71 (by decide +kernel) rfl
theorem k_72 : Cond.instanceMethod ⟨"java/lang/RuntimeException", "<init>", "(Ljava/lang/String;)V"⟩ ∈ gtb := gt1 72 (by decide +kernel) rfl
theorem k_73 : Cond.code ⟨"java/lang/RuntimeException", "<init>", "(Ljava/lang/String;)V"⟩ prog_12_method_2_code 2 none ∈ gtb := gt1 73 (by decide +kernel) rfl
theorem k_74 : Cond.methodLink "java/lang/RuntimeException" 7 ⟨"java/lang/Exception", "<init>", "(Ljava/lang/String;)V"⟩ ∈ gtb := gt1 74 (by decide +kernel) rfl
theorem k_75 : Cond.instanceMethod ⟨"java/lang/Exception", "<init>", "(Ljava/lang/String;)V"⟩ ∈ gtb := gt1 75 (by decide +kernel) rfl
theorem k_76 : Cond.code ⟨"java/lang/Exception", "<init>", "(Ljava/lang/String;)V"⟩ prog_7_method_2_code 2 none ∈ gtb := gt1 76 (by decide +kernel) rfl
theorem k_77 : Cond.methodLink "java/lang/Exception" 7 ⟨"java/lang/Throwable", "<init>", "(Ljava/lang/String;)V"⟩ ∈ gtb := gt1 77 (by decide +kernel) rfl
theorem k_78 : Cond.instanceMethod ⟨"java/lang/Throwable", "<init>", "(Ljava/lang/String;)V"⟩ ∈ gtb := gt1 78 (by decide +kernel) rfl
theorem k_79 : Cond.code ⟨"java/lang/Throwable", "<init>", "(Ljava/lang/String;)V"⟩ prog_14_method_2_code 2 none ∈ gtb := gt1 79 (by decide +kernel) rfl
theorem k_81 : Cond.fieldLink "java/lang/Throwable" 31 "java/lang/Throwable" "detailMessage" "Ljava/lang/String;" ∈ gtb := gt1 81 (by decide +kernel) rfl
theorem k_82 : Cond.fieldLink "java/lang/Throwable" 7 "java/lang/Throwable" "cause" "Ljava/lang/Throwable;" ∈ gtb := gt1 82 (by decide +kernel) rfl
theorem k_83 : Cond.fieldLink "java/lang/Throwable" 17 "java/lang/Throwable" "stackTrace" "[Ljava/lang/StackTraceElement;" ∈ gtb := gt1 83 (by decide +kernel) rfl
theorem k_84 : Cond.fieldLink "java/lang/Throwable" 24 "java/lang/Throwable" "suppressedExceptions" "Ljava/util/List;" ∈ gtb := gt1 84 (by decide +kernel) rfl
theorem k_89 : Cond.lays "java/lang/IndexOutOfBoundsException" "java/lang/Throwable" "depth" "I" ∈ gtb := gt1 89 (by decide +kernel) rfl
theorem k_93 : Cond.arrayClass FieldType.byte ∈ gtb := gt1 93 (by decide +kernel) rfl
theorem k_94 : Cond.methodLink RX3 30 yX3_needWithin ∈ gtb := gt1 94 (by decide +kernel) rfl
theorem k_95 : Cond.static yX3_needWithin ∈ gtb := gt1 95 (by decide +kernel) rfl
theorem k_96 : Cond.code yX3_needWithin cX3_needWithin 3 none ∈ gtb := gt1 96 (by decide +kernel) rfl
theorem k_97 : Cond.classLink RX3 141 "java/lang/IllegalArgumentException" ∈ gtb := gt1 97 (by decide +kernel) rfl
theorem k_98 : Cond.instantiable "java/lang/IllegalArgumentException" 6 ∈ gtb := gt1 98 (by decide +kernel) rfl
theorem k_100 : Cond.selects "java/lang/IllegalArgumentException" ⟨"java/lang/Throwable", "fillInStackTrace", "(I)Ljava/lang/Throwable;"⟩ ⟨"java/lang/Throwable", "fillInStackTrace", "(I)Ljava/lang/Throwable;"⟩ ∈ gtb := gt1 100 (by decide +kernel) rfl
theorem k_101 : Cond.lays "java/lang/IllegalArgumentException" "java/lang/Throwable" "cause" "Ljava/lang/Throwable;" ∈ gtb := gt1 101 (by decide +kernel) rfl
theorem k_102 : Cond.lays "java/lang/IllegalArgumentException" "java/lang/Throwable" "stackTrace" "[Ljava/lang/StackTraceElement;" ∈ gtb := gt1 102 (by decide +kernel) rfl
theorem k_103 : Cond.lays "java/lang/IllegalArgumentException" "java/lang/Throwable" "suppressedExceptions" "Ljava/util/List;" ∈ gtb := gt1 103 (by decide +kernel) rfl
theorem k_104 : Cond.lays "java/lang/IllegalArgumentException" "java/lang/Throwable" "detailMessage" "Ljava/lang/String;" ∈ gtb := gt1 104 (by decide +kernel) rfl
theorem k_105 : Cond.lays "java/lang/IllegalArgumentException" "java/lang/Throwable" "backtrace" "Ljava/lang/Object;" ∈ gtb := gt1 105 (by decide +kernel) rfl
theorem k_107 : Cond.methodLink RX3 145 ⟨"java/lang/IllegalArgumentException", "<init>", "(Ljava/lang/String;)V"⟩ ∈ gtb := gt1 107 (by decide +kernel) rfl
theorem k_108 : Cond.instanceMethod ⟨"java/lang/IllegalArgumentException", "<init>", "(Ljava/lang/String;)V"⟩ ∈ gtb := gt1 108 (by decide +kernel) rfl
theorem k_109 : Cond.code ⟨"java/lang/IllegalArgumentException", "<init>", "(Ljava/lang/String;)V"⟩ prog_8_method_2_code 2 none ∈ gtb := gt1 109 (by decide +kernel) rfl
theorem k_110 : Cond.methodLink "java/lang/IllegalArgumentException" 7 ⟨"java/lang/RuntimeException", "<init>", "(Ljava/lang/String;)V"⟩ ∈ gtb := gt1 110 (by decide +kernel) rfl
theorem k_111 : Cond.lays "java/lang/IllegalArgumentException" "java/lang/Throwable" "depth" "I" ∈ gtb := gt1 111 (by decide +kernel) rfl
theorem k_113 : Cond.classLink RX3 38 "java/lang/IllegalStateException" ∈ gtb := gt1 113 (by decide +kernel) rfl
theorem k_114 : Cond.instantiable "java/lang/IllegalStateException" 6 ∈ gtb := gt1 114 (by decide +kernel) rfl
theorem k_116 : Cond.selects "java/lang/IllegalStateException" ⟨"java/lang/Throwable", "fillInStackTrace", "(I)Ljava/lang/Throwable;"⟩ ⟨"java/lang/Throwable", "fillInStackTrace", "(I)Ljava/lang/Throwable;"⟩ ∈ gtb := gt1 116 (by decide +kernel) rfl
theorem k_117 : Cond.lays "java/lang/IllegalStateException" "java/lang/Throwable" "cause" "Ljava/lang/Throwable;" ∈ gtb := gt1 117 (by decide +kernel) rfl
theorem k_118 : Cond.lays "java/lang/IllegalStateException" "java/lang/Throwable" "stackTrace" "[Ljava/lang/StackTraceElement;" ∈ gtb := gt1 118 (by decide +kernel) rfl
theorem k_119 : Cond.lays "java/lang/IllegalStateException" "java/lang/Throwable" "suppressedExceptions" "Ljava/util/List;" ∈ gtb := gt1 119 (by decide +kernel) rfl
theorem k_120 : Cond.lays "java/lang/IllegalStateException" "java/lang/Throwable" "detailMessage" "Ljava/lang/String;" ∈ gtb := gt1 120 (by decide +kernel) rfl
theorem k_121 : Cond.lays "java/lang/IllegalStateException" "java/lang/Throwable" "backtrace" "Ljava/lang/Object;" ∈ gtb := gt1 121 (by decide +kernel) rfl
theorem k_123 : Cond.methodLink RX3 42 ⟨"java/lang/IllegalStateException", "<init>", "(Ljava/lang/String;)V"⟩ ∈ gtb := gt1 123 (by decide +kernel) rfl
theorem k_124 : Cond.instanceMethod ⟨"java/lang/IllegalStateException", "<init>", "(Ljava/lang/String;)V"⟩ ∈ gtb := gt1 124 (by decide +kernel) rfl
theorem k_125 : Cond.code ⟨"java/lang/IllegalStateException", "<init>", "(Ljava/lang/String;)V"⟩ prog_9_method_2_code 2 none ∈ gtb := gt1 125 (by decide +kernel) rfl
theorem k_126 : Cond.methodLink "java/lang/IllegalStateException" 7 ⟨"java/lang/RuntimeException", "<init>", "(Ljava/lang/String;)V"⟩ ∈ gtb := gt1 126 (by decide +kernel) rfl
theorem k_127 : Cond.lays "java/lang/IllegalStateException" "java/lang/Throwable" "depth" "I" ∈ gtb := gt1 127 (by decide +kernel) rfl
theorem k_129 : Cond.methodLink RL 29 yX3_coal ∈ gtb := gt1 129 (by decide +kernel) rfl
theorem k_130 : Cond.instanceMethod yX3_coal ∈ gtb := gt1 130 (by decide +kernel) rfl
theorem k_131 : Cond.selects RX3 yX3_coal yX3_coal ∈ gtb := gt1 131 (by decide +kernel) rfl
theorem k_132 : Cond.code yX3_coal cX3_coal 5 (some FieldType.int) ∈ gtb := gt1 132 (by decide +kernel) rfl
theorem k_134 : Cond.methodLink RL 39 yX3_told ∈ gtb := gt1 134 (by decide +kernel) rfl
theorem k_135 : Cond.instanceMethod yX3_told ∈ gtb := gt1 135 (by decide +kernel) rfl
theorem k_136 : Cond.selects RX3 yX3_told yX3_told ∈ gtb := gt1 136 (by decide +kernel) rfl
theorem k_137 : Cond.code yX3_told cX3_told 3 (some FieldType.int) ∈ gtb := gt1 137 (by decide +kernel) rfl
theorem k_140 : Cond.instanceMethod yX1_number ∈ gtb := gt1 140 (by decide +kernel) rfl
theorem k_141 : Cond.instantiable RX1 14 ∈ gtb := gt1 141 (by decide +kernel) rfl
theorem k_142 : Cond.code yX1_number cX1_number 2 (some FieldType.int) ∈ gtb := gt1 142 (by decide +kernel) rfl
theorem k_143 : Cond.methodLink RL 66 yX3_nails ∈ gtb := gt1 143 (by decide +kernel) rfl
theorem k_144 : Cond.instanceMethod yX3_nails ∈ gtb := gt1 144 (by decide +kernel) rfl
theorem k_145 : Cond.selects RX3 yX3_nails yX3_nails ∈ gtb := gt1 145 (by decide +kernel) rfl
theorem k_146 : Cond.code yX3_nails cX3_nails 5 (some FieldType.int) ∈ gtb := gt1 146 (by decide +kernel) rfl
theorem k_147 : Cond.methodLink RL 32 yX3_keep ∈ gtb := gt1 147 (by decide +kernel) rfl
theorem k_148 : Cond.instanceMethod yX3_keep ∈ gtb := gt1 148 (by decide +kernel) rfl
theorem k_149 : Cond.selects RX3 yX3_keep yX3_keep ∈ gtb := gt1 149 (by decide +kernel) rfl
theorem k_150 : Cond.code yX3_keep cX3_keep 4 (some FieldType.int) ∈ gtb := gt1 150 (by decide +kernel) rfl
theorem k_151 : Cond.methodLink RL 69 yX3_fogger ∈ gtb := gt1 151 (by decide +kernel) rfl
theorem k_152 : Cond.instanceMethod yX3_fogger ∈ gtb := gt1 152 (by decide +kernel) rfl
theorem k_153 : Cond.selects RX3 yX3_fogger yX3_fogger ∈ gtb := gt1 153 (by decide +kernel) rfl
theorem k_154 : Cond.code yX3_fogger cX3_fogger 3 (some FieldType.int) ∈ gtb := gt1 154 (by decide +kernel) rfl
theorem k_157 : Cond.instanceMethod yX2_foggerNumber ∈ gtb := gt1 157 (by decide +kernel) rfl
theorem k_158 : Cond.instantiable RX2 4 ∈ gtb := gt1 158 (by decide +kernel) rfl
theorem k_159 : Cond.code yX2_foggerNumber cX2_foggerNumber 3 (some FieldType.int) ∈ gtb := gt1 159 (by decide +kernel) rfl
theorem k_160 : Cond.methodLink RX2 80 yX2_workersFor ∈ gtb := gt1 160 (by decide +kernel) rfl
theorem k_162 : Cond.instanceMethod yX2_workersFor ∈ gtb := gt1 162 (by decide +kernel) rfl
theorem k_163 : Cond.code yX2_workersFor cX2_workersFor 4 (some FieldType.int) ∈ gtb := gt1 163 (by decide +kernel) rfl
theorem k_164 : Cond.methodLink RL 59 yX3_count ∈ gtb := gt1 164 (by decide +kernel) rfl
theorem k_165 : Cond.instanceMethod yX3_count ∈ gtb := gt1 165 (by decide +kernel) rfl
theorem k_166 : Cond.selects RX3 yX3_count yX3_count ∈ gtb := gt1 166 (by decide +kernel) rfl
theorem k_167 : Cond.code yX3_count cX3_count 2 (some FieldType.int) ∈ gtb := gt1 167 (by decide +kernel) rfl
theorem k_170 : Cond.instanceMethod yX2_total ∈ gtb := gt1 170 (by decide +kernel) rfl
theorem k_171 : Cond.code yX2_total cX2_total 2 (some FieldType.int) ∈ gtb := gt1 171 (by decide +kernel) rfl
theorem k_172 : Cond.methodLink RX2 61 yX2_warehouseBags ∈ gtb := gt1 172 (by decide +kernel) rfl
theorem k_174 : Cond.instanceMethod yX2_warehouseBags ∈ gtb := gt1 174 (by decide +kernel) rfl
theorem k_175 : Cond.code yX2_warehouseBags cX2_warehouseBags 3 (some FieldType.int) ∈ gtb := gt1 175 (by decide +kernel) rfl
theorem k_176 : Cond.methodLink RX2 64 yX2_sumOfShares ∈ gtb := gt1 176 (by decide +kernel) rfl
theorem k_178 : Cond.instanceMethod yX2_sumOfShares ∈ gtb := gt1 178 (by decide +kernel) rfl
theorem k_179 : Cond.code yX2_sumOfShares cX2_sumOfShares 4 (some FieldType.int) ∈ gtb := gt1 179 (by decide +kernel) rfl
theorem k_182 : Cond.instanceMethod yX1_shareOfTotal ∈ gtb := gt1 182 (by decide +kernel) rfl
theorem k_183 : Cond.code yX1_shareOfTotal cX1_shareOfTotal 2 (some FieldType.int) ∈ gtb := gt1 183 (by decide +kernel) rfl
theorem k_184 : Cond.methodLink RX1 85 yX1_sumOf ∈ gtb := gt1 184 (by decide +kernel) rfl
theorem k_185 : Cond.static yX1_sumOf ∈ gtb := gt1 185 (by decide +kernel) rfl
theorem k_186 : Cond.code yX1_sumOf cX1_sumOf 6 (some FieldType.int) ∈ gtb := gt1 186 (by decide +kernel) rfl
theorem k_187 : Cond.methodLink RL 56 yX3_pass ∈ gtb := gt1 187 (by decide +kernel) rfl
theorem k_188 : Cond.instanceMethod yX3_pass ∈ gtb := gt1 188 (by decide +kernel) rfl
theorem k_189 : Cond.selects RX3 yX3_pass yX3_pass ∈ gtb := gt1 189 (by decide +kernel) rfl
theorem k_190 : Cond.code yX3_pass cX3_pass 2 (some FieldType.int) ∈ gtb := gt1 190 (by decide +kernel) rfl
theorem k_193 : Cond.instanceMethod yX2_goBy ∈ gtb := gt1 193 (by decide +kernel) rfl
theorem k_194 : Cond.code yX2_goBy cX2_goBy 4 (some FieldType.int) ∈ gtb := gt1 194 (by decide +kernel) rfl
theorem k_195 : Cond.methodLink RX2 39 yX2_goByOne ∈ gtb := gt1 195 (by decide +kernel) rfl
theorem k_197 : Cond.instanceMethod yX2_goByOne ∈ gtb := gt1 197 (by decide +kernel) rfl
theorem k_198 : Cond.code yX2_goByOne cX2_goByOne 3 (some FieldType.int) ∈ gtb := gt1 198 (by decide +kernel) rfl
theorem k_201 : Cond.instanceMethod yX1_workHour ∈ gtb := gt1 201 (by decide +kernel) rfl
theorem k_202 : Cond.code yX1_workHour cX1_workHour 3 (some FieldType.int) ∈ gtb := gt1 202 (by decide +kernel) rfl
theorem k_203 : Cond.methodLink RX1 59 yX1_tendFire ∈ gtb := gt1 203 (by decide +kernel) rfl
theorem k_205 : Cond.instanceMethod yX1_tendFire ∈ gtb := gt1 205 (by decide +kernel) rfl
theorem k_206 : Cond.code yX1_tendFire cX1_tendFire 1 none ∈ gtb := gt1 206 (by decide +kernel) rfl
theorem k_207 : Cond.methodLink RX1 70 Lib.Math.min.name ∈ gtb := gt1 207 (by decide +kernel) rfl
theorem k_208 : Cond.static Lib.Math.min.name ∈ gtb := gt1 208 (by decide +kernel) rfl
theorem k_209 : Cond.code Lib.Math.min.name cJ9_min_7cf53 2 (some FieldType.int) ∈ gtb := gt1 209 (by decide +kernel) rfl
theorem k_210 : Cond.methodLink RX1 76 Lib.Math.max.name ∈ gtb := gt1 210 (by decide +kernel) rfl
theorem k_211 : Cond.static Lib.Math.max.name ∈ gtb := gt1 211 (by decide +kernel) rfl
theorem k_212 : Cond.code Lib.Math.max.name cJ9_max_7cf53 2 (some FieldType.int) ∈ gtb := gt1 212 (by decide +kernel) rfl
theorem k_213 : Cond.methodLink RX1 62 yX1_head ∈ gtb := gt1 213 (by decide +kernel) rfl
theorem k_215 : Cond.instanceMethod yX1_head ∈ gtb := gt1 215 (by decide +kernel) rfl
theorem k_216 : Cond.code yX1_head cX1_head 3 (some FieldType.int) ∈ gtb := gt1 216 (by decide +kernel) rfl
theorem k_217 : Cond.methodLink RX1 79 yX1_headFromHand ∈ gtb := gt1 217 (by decide +kernel) rfl
theorem k_219 : Cond.instanceMethod yX1_headFromHand ∈ gtb := gt1 219 (by decide +kernel) rfl
theorem k_220 : Cond.code yX1_headFromHand cX1_headFromHand 3 (some FieldType.int) ∈ gtb := gt1 220 (by decide +kernel) rfl
theorem k_223 : Cond.methodLink RX1 66 yX1_store ∈ gtb := gt1 223 (by decide +kernel) rfl
theorem k_225 : Cond.instanceMethod yX1_store ∈ gtb := gt1 225 (by decide +kernel) rfl
theorem k_226 : Cond.code yX1_store cX1_store 2 none ∈ gtb := gt1 226 (by decide +kernel) rfl
theorem k_227 : Cond.methodLink RX2 46 yX2_reckonWeek ∈ gtb := gt1 227 (by decide +kernel) rfl
theorem k_229 : Cond.instanceMethod yX2_reckonWeek ∈ gtb := gt1 229 (by decide +kernel) rfl
theorem k_230 : Cond.code yX2_reckonWeek cX2_reckonWeek 3 none ∈ gtb := gt1 230 (by decide +kernel) rfl
theorem k_233 : Cond.instanceMethod yX0_buyBags ∈ gtb := gt1 233 (by decide +kernel) rfl
theorem k_234 : Cond.instantiable RX0 6 ∈ gtb := gt1 234 (by decide +kernel) rfl
theorem k_235 : Cond.code yX0_buyBags cX0_buyBags 4 none ∈ gtb := gt1 235 (by decide +kernel) rfl
theorem k_240 : Cond.instanceMethod yX0_collectDebt ∈ gtb := gt2 0 (by decide +kernel) rfl
theorem k_241 : Cond.code yX0_collectDebt cX0_collectDebt 3 none ∈ gtb := gt2 1 (by decide +kernel) rfl
theorem k_242 : Cond.methodLink RX0 43 Lib.Math.min.name ∈ gtb := gt2 2 (by decide +kernel) rfl
theorem k_245 : Cond.instanceMethod yX0_deliver ∈ gtb := gt2 5 (by decide +kernel) rfl
theorem k_246 : Cond.code yX0_deliver cX0_deliver 1 none ∈ gtb := gt2 6 (by decide +kernel) rfl
theorem k_247 : Cond.methodLink RL 49 yX3_rate ∈ gtb := gt2 7 (by decide +kernel) rfl
theorem k_248 : Cond.instanceMethod yX3_rate ∈ gtb := gt2 8 (by decide +kernel) rfl
theorem k_249 : Cond.selects RX3 yX3_rate yX3_rate ∈ gtb := gt2 9 (by decide +kernel) rfl
theorem k_250 : Cond.code yX3_rate cX3_rate 2 (some FieldType.int) ∈ gtb := gt2 10 (by decide +kernel) rfl
theorem k_253 : Cond.instanceMethod yX1_copyFrom ∈ gtb := gt2 13 (by decide +kernel) rfl
theorem k_254 : Cond.code yX1_copyFrom cX1_copyFrom 3 none ∈ gtb := gt2 14 (by decide +kernel) rfl
theorem k_257 : Cond.instanceMethod yX1_workHours ∈ gtb := gt2 17 (by decide +kernel) rfl
theorem k_258 : Cond.code yX1_workHours cX1_workHours 4 (some FieldType.int) ∈ gtb := gt2 18 (by decide +kernel) rfl
theorem k_259 : Cond.methodLink RX1 55 yX1_workHour ∈ gtb := gt2 19 (by decide +kernel) rfl
theorem k_260 : Cond.methodLink RL 46 yX3_foresee ∈ gtb := gt2 20 (by decide +kernel) rfl
theorem k_261 : Cond.instanceMethod yX3_foresee ∈ gtb := gt2 21 (by decide +kernel) rfl
theorem k_262 : Cond.selects RX3 yX3_foresee yX3_foresee ∈ gtb := gt2 22 (by decide +kernel) rfl
theorem k_263 : Cond.code yX3_foresee cX3_foresee 3 (some FieldType.int) ∈ gtb := gt2 23 (by decide +kernel) rfl
theorem k_267 : Cond.instanceMethod yX2_copyFrom ∈ gtb := gt2 27 (by decide +kernel) rfl
theorem k_268 : Cond.code yX2_copyFrom cX2_copyFrom 3 none ∈ gtb := gt2 28 (by decide +kernel) rfl
theorem k_272 : Cond.instanceMethod yX0_copyFrom ∈ gtb := gt2 32 (by decide +kernel) rfl
theorem k_273 : Cond.code yX0_copyFrom cX0_copyFrom 2 none ∈ gtb := gt2 33 (by decide +kernel) rfl
theorem k_274 : Cond.methodLink RL 53 yX3_advise ∈ gtb := gt2 34 (by decide +kernel) rfl
theorem k_275 : Cond.instanceMethod yX3_advise ∈ gtb := gt2 35 (by decide +kernel) rfl
theorem k_276 : Cond.selects RX3 yX3_advise yX3_advise ∈ gtb := gt2 36 (by decide +kernel) rfl
theorem k_277 : Cond.code yX3_advise cX3_advise 7 (some FieldType.int) ∈ gtb := gt2 37 (by decide +kernel) rfl
theorem k_278 : Cond.fieldLink RX3 125 "NailRods" "WORTH" "[I" ∈ gtb := gt2 38 (by decide +kernel) rfl
theorem k_279 : Cond.methodLink RL 72 yX3_richest ∈ gtb := gt2 39 (by decide +kernel) rfl
theorem k_280 : Cond.instanceMethod yX3_richest ∈ gtb := gt2 40 (by decide +kernel) rfl
theorem k_281 : Cond.selects RX3 yX3_richest yX3_richest ∈ gtb := gt2 41 (by decide +kernel) rfl
theorem k_282 : Cond.code yX3_richest cX3_richest 5 (some FieldType.int) ∈ gtb := gt2 42 (by decide +kernel) rfl
theorem k_283 : Cond.methodLink RL 42 yX3_digest ∈ gtb := gt2 43 (by decide +kernel) rfl
theorem k_284 : Cond.instanceMethod yX3_digest ∈ gtb := gt2 44 (by decide +kernel) rfl
theorem k_285 : Cond.selects RX3 yX3_digest yX3_digest ∈ gtb := gt2 45 (by decide +kernel) rfl
theorem k_286 : Cond.code yX3_digest cX3_digest 5 (some FieldType.long) ∈ gtb := gt2 46 (by decide +kernel) rfl
theorem k_287 : Cond.constantLong RX3 131 1259 ∈ gtb := gt2 47 (by decide +kernel) rfl
theorem k_288 : Cond.constantLong RX3 133 31 ∈ gtb := gt2 48 (by decide +kernel) rfl
theorem k_291 : Cond.instanceMethod yX1_addToDigest ∈ gtb := gt2 51 (by decide +kernel) rfl
theorem k_292 : Cond.code yX1_addToDigest cX1_addToDigest 6 (some FieldType.long) ∈ gtb := gt2 52 (by decide +kernel) rfl
theorem k_293 : Cond.constantLong RX1 89 31 ∈ gtb := gt2 53 (by decide +kernel) rfl
theorem k_294 : Cond.methodLink RX1 91 yX1_number ∈ gtb := gt2 54 (by decide +kernel) rfl
theorem k_295 : Cond.methodLink RL 18 yL_below ∈ gtb := gt2 55 (by decide +kernel) rfl
theorem k_296 : Cond.static yL_below ∈ gtb := gt2 56 (by decide +kernel) rfl
theorem k_297 : Cond.code yL_below cL_below 2 (some FieldType.int) ∈ gtb := gt2 57 (by decide +kernel) rfl
theorem k_298 : Cond.constant RL 7 2147483647 ∈ gtb := gt2 58 (by decide +kernel) rfl
theorem k_299 : Cond.methodLink RL 12 yL_cell ∈ gtb := gt2 59 (by decide +kernel) rfl
theorem k_300 : Cond.static yL_cell ∈ gtb := gt2 60 (by decide +kernel) rfl
theorem k_301 : Cond.code yL_cell cL_cell 2 (some FieldType.int) ∈ gtb := gt2 61 (by decide +kernel) rfl
theorem k_302 : Cond.constant RL 8 461243603 ∈ gtb := gt2 62 (by decide +kernel) rfl
theorem k_303 : Cond.methodLink RL 35 yL_makers ∈ gtb := gt2 63 (by decide +kernel) rfl
theorem k_304 : Cond.static yL_makers ∈ gtb := gt2 64 (by decide +kernel) rfl
theorem k_305 : Cond.code yL_makers cL_makers 4 (Option.some (FieldType.object "NailRods")) ∈ gtb := gt2 65 (by decide +kernel) rfl
theorem k_306 : Cond.classLink RL 9 RX3 ∈ gtb := gt2 66 (by decide +kernel) rfl
theorem k_307 : Cond.methodLink RL 11 yX3_init ∈ gtb := gt2 67 (by decide +kernel) rfl
theorem k_308 : Cond.instanceMethod yX3_init ∈ gtb := gt2 68 (by decide +kernel) rfl
theorem k_309 : Cond.code yX3_init cX3_init 1 none ∈ gtb := gt2 69 (by decide +kernel) rfl
theorem k_310 : Cond.methodLink RX3 1 objectInit ∈ gtb := gt2 70 (by decide +kernel) rfl
theorem k_311 : Cond.classLink RX3 7 RX2 ∈ gtb := gt2 71 (by decide +kernel) rfl
theorem k_313 : Cond.instanceMethod yX2_init ∈ gtb := gt2 73 (by decide +kernel) rfl
theorem k_314 : Cond.code yX2_init cX2_init 2 none ∈ gtb := gt2 74 (by decide +kernel) rfl
theorem k_315 : Cond.methodLink RX2 3 objectInit ∈ gtb := gt2 75 (by decide +kernel) rfl
theorem k_316 : Cond.classLink RX2 9 RX1 ∈ gtb := gt2 76 (by decide +kernel) rfl
theorem k_319 : Cond.instanceMethod yX1_init ∈ gtb := gt2 79 (by decide +kernel) rfl
theorem k_320 : Cond.code yX1_init cX1_init 1 none ∈ gtb := gt2 80 (by decide +kernel) rfl
theorem k_321 : Cond.methodLink RX1 3 objectInit ∈ gtb := gt2 81 (by decide +kernel) rfl
theorem k_322 : Cond.fieldLink RX1 25 "NailRods$Nailer" "skill" "I" ∈ gtb := gt2 82 (by decide +kernel) rfl
theorem k_323 : Cond.fieldLink RX1 28 "NailRods$Nailer" "kind" "I" ∈ gtb := gt2 83 (by decide +kernel) rfl
theorem k_325 : Cond.fieldLink RX1 31 "NailRods$Nailer" "fogger" "I" ∈ gtb := gt2 85 (by decide +kernel) rfl
theorem k_327 : Cond.fieldLink RX1 34 "NailRods$Nailer" "rods" "I" ∈ gtb := gt2 87 (by decide +kernel) rfl
theorem k_329 : Cond.fieldLink RX1 37 "NailRods$Nailer" "ounces" "I" ∈ gtb := gt2 89 (by decide +kernel) rfl
theorem k_330 : Cond.fieldLink RX1 40 "NailRods$Nailer" "heat" "I" ∈ gtb := gt2 90 (by decide +kernel) rfl
theorem k_331 : Cond.fieldLink RX1 9 "NailRods$Nailer" "coal" "I" ∈ gtb := gt2 91 (by decide +kernel) rfl
theorem k_333 : Cond.fieldLink RX1 15 "NailRods$Nailer" "coins" "I" ∈ gtb := gt2 93 (by decide +kernel) rfl
theorem k_337 : Cond.fieldLink RX1 43 "NailRods$Nailer" "owed" "I" ∈ gtb := gt2 97 (by decide +kernel) rfl
theorem k_339 : Cond.fieldLink RX1 46 "NailRods$Nailer" "scrap" "I" ∈ gtb := gt2 99 (by decide +kernel) rfl
theorem k_340 : Cond.fieldLink RX1 49 "NailRods$Nailer" "burnt" "I" ∈ gtb := gt2 100 (by decide +kernel) rfl
theorem k_341 : Cond.fieldLink RX1 52 "NailRods$Nailer" "good" "I" ∈ gtb := gt2 101 (by decide +kernel) rfl
theorem k_342 : Cond.fieldLink RX1 18 "NailRods$Nailer" "loose" "[I" ∈ gtb := gt2 102 (by decide +kernel) rfl
theorem k_344 : Cond.fieldLink RX1 22 "NailRods$Nailer" "bags" "[I" ∈ gtb := gt2 104 (by decide +kernel) rfl
theorem k_347 : Cond.lays "NailRods$Nailer" "NailRods$Nailer" "skill" "I" ∈ gtb := gt2 107 (by decide +kernel) rfl
theorem k_349 : Cond.lays "NailRods$Nailer" "NailRods$Nailer" "kind" "I" ∈ gtb := gt2 109 (by decide +kernel) rfl
theorem k_351 : Cond.lays "NailRods$Nailer" "NailRods$Nailer" "fogger" "I" ∈ gtb := gt2 111 (by decide +kernel) rfl
theorem k_353 : Cond.lays "NailRods$Nailer" "NailRods$Nailer" "rods" "I" ∈ gtb := gt2 113 (by decide +kernel) rfl
theorem k_355 : Cond.lays "NailRods$Nailer" "NailRods$Nailer" "ounces" "I" ∈ gtb := gt2 115 (by decide +kernel) rfl
theorem k_357 : Cond.lays "NailRods$Nailer" "NailRods$Nailer" "heat" "I" ∈ gtb := gt2 117 (by decide +kernel) rfl
theorem k_359 : Cond.lays "NailRods$Nailer" "NailRods$Nailer" "coal" "I" ∈ gtb := gt2 119 (by decide +kernel) rfl
theorem k_361 : Cond.lays "NailRods$Nailer" "NailRods$Nailer" "coins" "I" ∈ gtb := gt2 121 (by decide +kernel) rfl
theorem k_363 : Cond.lays "NailRods$Nailer" "NailRods$Nailer" "owed" "I" ∈ gtb := gt2 123 (by decide +kernel) rfl
theorem k_365 : Cond.lays "NailRods$Nailer" "NailRods$Nailer" "scrap" "I" ∈ gtb := gt2 125 (by decide +kernel) rfl
theorem k_367 : Cond.lays "NailRods$Nailer" "NailRods$Nailer" "burnt" "I" ∈ gtb := gt2 127 (by decide +kernel) rfl
theorem k_369 : Cond.lays "NailRods$Nailer" "NailRods$Nailer" "good" "I" ∈ gtb := gt2 129 (by decide +kernel) rfl
theorem k_371 : Cond.laysFinal "NailRods$Nailer" "NailRods$Nailer" "loose" "[I" ∈ gtb := gt2 131 (by decide +kernel) rfl
theorem k_373 : Cond.laysFinal "NailRods$Nailer" "NailRods$Nailer" "bags" "[I" ∈ gtb := gt2 133 (by decide +kernel) rfl
theorem k_376 : Cond.arrayClass FieldType.int ∈ gtb := gt2 136 (by decide +kernel) rfl
theorem k_377 : Cond.classLink RX2 18 RX0 ∈ gtb := gt2 137 (by decide +kernel) rfl
theorem k_380 : Cond.instanceMethod yX0_init ∈ gtb := gt2 140 (by decide +kernel) rfl
theorem k_381 : Cond.code yX0_init cX0_init 1 none ∈ gtb := gt2 141 (by decide +kernel) rfl
theorem k_382 : Cond.methodLink RX0 3 objectInit ∈ gtb := gt2 142 (by decide +kernel) rfl
theorem k_383 : Cond.fieldLink RX0 9 "NailRods$Fogger" "keptBack" "I" ∈ gtb := gt2 143 (by decide +kernel) rfl
theorem k_386 : Cond.fieldLink RX0 15 "NailRods$Fogger" "coins" "I" ∈ gtb := gt2 146 (by decide +kernel) rfl
theorem k_388 : Cond.fieldLink RX0 18 "NailRods$Fogger" "bought" "I" ∈ gtb := gt2 148 (by decide +kernel) rfl
theorem k_390 : Cond.fieldLink RX0 21 "NailRods$Fogger" "paid" "I" ∈ gtb := gt2 150 (by decide +kernel) rfl
theorem k_392 : Cond.fieldLink RX0 24 "NailRods$Fogger" "earned" "I" ∈ gtb := gt2 152 (by decide +kernel) rfl
theorem k_394 : Cond.fieldLink RX0 27 "NailRods$Fogger" "loadWorth" "I" ∈ gtb := gt2 154 (by decide +kernel) rfl
theorem k_395 : Cond.lays "NailRods$Fogger" "NailRods$Fogger" "keptBack" "I" ∈ gtb := gt2 155 (by decide +kernel) rfl
theorem k_397 : Cond.lays "NailRods$Fogger" "NailRods$Fogger" "coins" "I" ∈ gtb := gt2 157 (by decide +kernel) rfl
theorem k_399 : Cond.lays "NailRods$Fogger" "NailRods$Fogger" "bought" "I" ∈ gtb := gt2 159 (by decide +kernel) rfl
theorem k_401 : Cond.lays "NailRods$Fogger" "NailRods$Fogger" "paid" "I" ∈ gtb := gt2 161 (by decide +kernel) rfl
theorem k_403 : Cond.lays "NailRods$Fogger" "NailRods$Fogger" "earned" "I" ∈ gtb := gt2 163 (by decide +kernel) rfl
theorem k_405 : Cond.lays "NailRods$Fogger" "NailRods$Fogger" "loadWorth" "I" ∈ gtb := gt2 165 (by decide +kernel) rfl
theorem k_408 : Cond.fieldLink RX2 25 "NailRods$Trade" "hour" "I" ∈ gtb := gt2 168 (by decide +kernel) rfl
theorem k_409 : Cond.fieldLink RX2 29 "NailRods$Trade" "nailerCount" "I" ∈ gtb := gt2 169 (by decide +kernel) rfl
theorem k_411 : Cond.fieldLink RX2 11 "NailRods$Trade" "nailers" "[LNailRods$Nailer;" ∈ gtb := gt2 171 (by decide +kernel) rfl
theorem k_413 : Cond.fieldLink RX2 20 "NailRods$Trade" "foggers" "[LNailRods$Fogger;" ∈ gtb := gt2 173 (by decide +kernel) rfl
theorem k_415 : Cond.lays "NailRods$Trade" "NailRods$Trade" "hour" "I" ∈ gtb := gt2 175 (by decide +kernel) rfl
theorem k_417 : Cond.lays "NailRods$Trade" "NailRods$Trade" "nailerCount" "I" ∈ gtb := gt2 177 (by decide +kernel) rfl
theorem k_419 : Cond.laysFinal "NailRods$Trade" "NailRods$Trade" "nailers" "[LNailRods$Nailer;" ∈ gtb := gt2 179 (by decide +kernel) rfl
theorem k_421 : Cond.laysFinal "NailRods$Trade" "NailRods$Trade" "foggers" "[LNailRods$Fogger;" ∈ gtb := gt2 181 (by decide +kernel) rfl
theorem k_424 : Cond.classLink RX3 19 RX1 ∈ gtb := gt2 184 (by decide +kernel) rfl
theorem k_426 : Cond.fieldLink RX3 10 "NailRods" "trade" "LNailRods$Trade;" ∈ gtb := gt2 186 (by decide +kernel) rfl
theorem k_427 : Cond.fieldLink RX3 16 "NailRods" "foreseen" "LNailRods$Trade;" ∈ gtb := gt2 187 (by decide +kernel) rfl
theorem k_428 : Cond.fieldLink RX3 22 "NailRods" "trial" "LNailRods$Nailer;" ∈ gtb := gt2 188 (by decide +kernel) rfl
theorem k_429 : Cond.laysFinal "NailRods" "NailRods" "trade" "LNailRods$Trade;" ∈ gtb := gt2 189 (by decide +kernel) rfl
theorem k_431 : Cond.laysFinal "NailRods" "NailRods" "foreseen" "LNailRods$Trade;" ∈ gtb := gt2 191 (by decide +kernel) rfl
theorem k_433 : Cond.laysFinal "NailRods" "NailRods" "trial" "LNailRods$Nailer;" ∈ gtb := gt2 193 (by decide +kernel) rfl
theorem k_436 : Cond.methodLink RL 22 yX3_nailer ∈ gtb := gt2 196 (by decide +kernel) rfl
theorem k_437 : Cond.instanceMethod yX3_nailer ∈ gtb := gt2 197 (by decide +kernel) rfl
theorem k_438 : Cond.selects RX3 yX3_nailer yX3_nailer ∈ gtb := gt2 198 (by decide +kernel) rfl
theorem k_439 : Cond.code yX3_nailer cX3_nailer 5 (some FieldType.int) ∈ gtb := gt2 199 (by decide +kernel) rfl
theorem k_443 : Cond.instanceMethod yX1_begin ∈ gtb := gt2 203 (by decide +kernel) rfl
theorem k_444 : Cond.code yX1_begin cX1_begin 4 none ∈ gtb := gt2 204 (by decide +kernel) rfl
theorem k_445 : Cond.fieldLink RL 62 "NailRodsLaw" "OUNCES" "[I" ∈ gtb := gt2 205 (by decide +kernel) rfl
theorem ks_0 : Cond.selects RX3 yX3_needNailer yX3_needNailer ∈ gtb := gt0 0 (by decide +kernel) rfl
theorem ks_2 : Cond.selects RX1 yX1_number yX1_number ∈ gtb := gt0 2 (by decide +kernel) rfl
theorem ks_3 : Cond.selects RX2 yX2_foggerNumber yX2_foggerNumber ∈ gtb := gt0 3 (by decide +kernel) rfl
theorem ks_4 : Cond.selects RX2 yX2_workersFor yX2_workersFor ∈ gtb := gt0 4 (by decide +kernel) rfl
theorem ks_5 : Cond.selects RX2 yX2_total yX2_total ∈ gtb := gt0 5 (by decide +kernel) rfl
theorem ks_6 : Cond.selects RX2 yX2_warehouseBags yX2_warehouseBags ∈ gtb := gt0 6 (by decide +kernel) rfl
theorem ks_7 : Cond.selects RX2 yX2_sumOfShares yX2_sumOfShares ∈ gtb := gt0 7 (by decide +kernel) rfl
theorem ks_8 : Cond.selects RX1 yX1_shareOfTotal yX1_shareOfTotal ∈ gtb := gt0 8 (by decide +kernel) rfl
theorem ks_9 : Cond.selects RX2 yX2_goBy yX2_goBy ∈ gtb := gt0 9 (by decide +kernel) rfl
theorem ks_10 : Cond.selects RX2 yX2_goByOne yX2_goByOne ∈ gtb := gt0 10 (by decide +kernel) rfl
theorem ks_11 : Cond.selects RX1 yX1_workHour yX1_workHour ∈ gtb := gt0 11 (by decide +kernel) rfl
theorem ks_12 : Cond.selects RX1 yX1_tendFire yX1_tendFire ∈ gtb := gt0 12 (by decide +kernel) rfl
theorem ks_13 : Cond.selects RX1 yX1_head yX1_head ∈ gtb := gt0 13 (by decide +kernel) rfl
theorem ks_14 : Cond.selects RX1 yX1_headFromHand yX1_headFromHand ∈ gtb := gt0 14 (by decide +kernel) rfl
theorem ks_15 : Cond.selects RX1 yX1_store yX1_store ∈ gtb := gt0 15 (by decide +kernel) rfl
theorem ks_16 : Cond.selects RX2 yX2_reckonWeek yX2_reckonWeek ∈ gtb := gt0 16 (by decide +kernel) rfl
theorem ks_17 : Cond.selects RX0 yX0_buyBags yX0_buyBags ∈ gtb := gt0 17 (by decide +kernel) rfl
theorem ks_18 : Cond.selects RX0 yX0_collectDebt yX0_collectDebt ∈ gtb := gt0 18 (by decide +kernel) rfl
theorem ks_19 : Cond.selects RX0 yX0_deliver yX0_deliver ∈ gtb := gt0 19 (by decide +kernel) rfl
theorem ks_20 : Cond.selects RX1 yX1_copyFrom yX1_copyFrom ∈ gtb := gt0 20 (by decide +kernel) rfl
theorem ks_21 : Cond.selects RX1 yX1_workHours yX1_workHours ∈ gtb := gt0 21 (by decide +kernel) rfl
theorem ks_22 : Cond.selects RX2 yX2_copyFrom yX2_copyFrom ∈ gtb := gt0 22 (by decide +kernel) rfl
theorem ks_23 : Cond.selects RX0 yX0_copyFrom yX0_copyFrom ∈ gtb := gt0 23 (by decide +kernel) rfl
theorem ks_24 : Cond.selects RX1 yX1_addToDigest yX1_addToDigest ∈ gtb := gt0 24 (by decide +kernel) rfl
theorem ks_25 : Cond.selects RX1 yX1_begin yX1_begin ∈ gtb := gt0 25 (by decide +kernel) rfl
theorem inX0g : ∀ w ∈ wsX00, w ∈ gtb := by
  intro w h
  obtain ⟨k, hk, rfl⟩ := List.mem_map.mp h
  have hk := List.mem_range.mp hk
  rcases (show k = 0 ∨ k = 1 ∨ k = 2 ∨ k = 3 ∨ k = 4 ∨ k = 5 by omega) with rfl | rfl | rfl | rfl | rfl | rfl
  · exact k_395
  · exact k_397
  · exact k_399
  · exact k_401
  · exact k_403
  · exact k_405
theorem inX1g : ∀ w ∈ wsX10, w ∈ gtb := by
  intro w h
  obtain ⟨k, hk, rfl⟩ := List.mem_map.mp h
  have hk := List.mem_range.mp hk
  rcases (show k = 0 ∨ k = 1 ∨ k = 2 ∨ k = 3 ∨ k = 4 ∨ k = 5 ∨ k = 6 ∨ k = 7 ∨ k = 8 ∨ k = 9 ∨ k = 10 ∨ k = 11 ∨ k = 12 ∨ k = 13 by omega) with rfl | rfl | rfl | rfl | rfl | rfl | rfl | rfl | rfl | rfl | rfl | rfl | rfl | rfl
  · exact k_347
  · exact k_349
  · exact k_351
  · exact k_353
  · exact k_355
  · exact k_357
  · exact k_359
  · exact k_361
  · exact k_363
  · exact k_365
  · exact k_367
  · exact k_369
  · exact k_371
  · exact k_373
theorem inX2g : ∀ w ∈ wsX20, w ∈ gtb := by
  intro w h
  obtain ⟨k, hk, rfl⟩ := List.mem_map.mp h
  have hk := List.mem_range.mp hk
  rcases (show k = 0 ∨ k = 1 ∨ k = 2 ∨ k = 3 by omega) with rfl | rfl | rfl | rfl
  · exact k_415
  · exact k_417
  · exact k_419
  · exact k_421
theorem inX3g : ∀ w ∈ wsX30, w ∈ gtb := by
  intro w h
  obtain ⟨k, hk, rfl⟩ := List.mem_map.mp h
  have hk := List.mem_range.mp hk
  rcases (show k = 0 ∨ k = 1 ∨ k = 2 by omega) with rfl | rfl | rfl
  · exact k_429
  · exact k_431
  · exact k_433
end
section
/-! of each method: not a handle, so many parameters; a plain name -/
theorem dd_X0_init : yX0_init.cls ≠ "java/lang/invoke/MethodHandle" ∧ yX0_init.cls ≠ "java/lang/invoke/VarHandle" ∧ (parseMethodDescriptor yX0_init.desc).map (fun d => d.parameters.length) = some 0 := by decide +kernel
theorem dd_X0_copyFrom : yX0_copyFrom.cls ≠ "java/lang/invoke/MethodHandle" ∧ yX0_copyFrom.cls ≠ "java/lang/invoke/VarHandle" ∧ (parseMethodDescriptor yX0_copyFrom.desc).map (fun d => d.parameters.length) = some 1 := by decide +kernel
theorem dd_X0_buyBags : yX0_buyBags.cls ≠ "java/lang/invoke/MethodHandle" ∧ yX0_buyBags.cls ≠ "java/lang/invoke/VarHandle" ∧ (parseMethodDescriptor yX0_buyBags.desc).map (fun d => d.parameters.length) = some 1 := by decide +kernel
theorem dd_X0_collectDebt : yX0_collectDebt.cls ≠ "java/lang/invoke/MethodHandle" ∧ yX0_collectDebt.cls ≠ "java/lang/invoke/VarHandle" ∧ (parseMethodDescriptor yX0_collectDebt.desc).map (fun d => d.parameters.length) = some 1 := by decide +kernel
theorem dd_X0_deliver : yX0_deliver.cls ≠ "java/lang/invoke/MethodHandle" ∧ yX0_deliver.cls ≠ "java/lang/invoke/VarHandle" ∧ (parseMethodDescriptor yX0_deliver.desc).map (fun d => d.parameters.length) = some 0 := by decide +kernel
theorem dd_X1_init : yX1_init.cls ≠ "java/lang/invoke/MethodHandle" ∧ yX1_init.cls ≠ "java/lang/invoke/VarHandle" ∧ (parseMethodDescriptor yX1_init.desc).map (fun d => d.parameters.length) = some 0 := by decide +kernel
theorem dd_X1_begin : yX1_begin.cls ≠ "java/lang/invoke/MethodHandle" ∧ yX1_begin.cls ≠ "java/lang/invoke/VarHandle" ∧ (parseMethodDescriptor yX1_begin.desc).map (fun d => d.parameters.length) = some 3 := by decide +kernel
theorem dd_X1_copyFrom : yX1_copyFrom.cls ≠ "java/lang/invoke/MethodHandle" ∧ yX1_copyFrom.cls ≠ "java/lang/invoke/VarHandle" ∧ (parseMethodDescriptor yX1_copyFrom.desc).map (fun d => d.parameters.length) = some 1 := by decide +kernel
theorem dd_X1_workHours : yX1_workHours.cls ≠ "java/lang/invoke/MethodHandle" ∧ yX1_workHours.cls ≠ "java/lang/invoke/VarHandle" ∧ (parseMethodDescriptor yX1_workHours.desc).map (fun d => d.parameters.length) = some 1 := by decide +kernel
theorem dd_X1_workHour : yX1_workHour.cls ≠ "java/lang/invoke/MethodHandle" ∧ yX1_workHour.cls ≠ "java/lang/invoke/VarHandle" ∧ (parseMethodDescriptor yX1_workHour.desc).map (fun d => d.parameters.length) = some 0 := by decide +kernel
theorem dd_X1_tendFire : yX1_tendFire.cls ≠ "java/lang/invoke/MethodHandle" ∧ yX1_tendFire.cls ≠ "java/lang/invoke/VarHandle" ∧ (parseMethodDescriptor yX1_tendFire.desc).map (fun d => d.parameters.length) = some 0 := by decide +kernel
theorem dd_X1_head : yX1_head.cls ≠ "java/lang/invoke/MethodHandle" ∧ yX1_head.cls ≠ "java/lang/invoke/VarHandle" ∧ (parseMethodDescriptor yX1_head.desc).map (fun d => d.parameters.length) = some 1 := by decide +kernel
theorem dd_X1_headFromHand : yX1_headFromHand.cls ≠ "java/lang/invoke/MethodHandle" ∧ yX1_headFromHand.cls ≠ "java/lang/invoke/VarHandle" ∧ (parseMethodDescriptor yX1_headFromHand.desc).map (fun d => d.parameters.length) = some 1 := by decide +kernel
theorem dd_X1_store : yX1_store.cls ≠ "java/lang/invoke/MethodHandle" ∧ yX1_store.cls ≠ "java/lang/invoke/VarHandle" ∧ (parseMethodDescriptor yX1_store.desc).map (fun d => d.parameters.length) = some 1 := by decide +kernel
theorem dd_X1_number : yX1_number.cls ≠ "java/lang/invoke/MethodHandle" ∧ yX1_number.cls ≠ "java/lang/invoke/VarHandle" ∧ (parseMethodDescriptor yX1_number.desc).map (fun d => d.parameters.length) = some 1 := by decide +kernel
theorem dd_X1_shareOfTotal : yX1_shareOfTotal.cls ≠ "java/lang/invoke/MethodHandle" ∧ yX1_shareOfTotal.cls ≠ "java/lang/invoke/VarHandle" ∧ (parseMethodDescriptor yX1_shareOfTotal.desc).map (fun d => d.parameters.length) = some 1 := by decide +kernel
theorem dd_X1_sumOf : yX1_sumOf.cls ≠ "java/lang/invoke/MethodHandle" ∧ yX1_sumOf.cls ≠ "java/lang/invoke/VarHandle" ∧ (parseMethodDescriptor yX1_sumOf.desc).map (fun d => d.parameters.length) = some 1 := by decide +kernel
theorem dd_X1_addToDigest : yX1_addToDigest.cls ≠ "java/lang/invoke/MethodHandle" ∧ yX1_addToDigest.cls ≠ "java/lang/invoke/VarHandle" ∧ (parseMethodDescriptor yX1_addToDigest.desc).map (fun d => d.parameters.length) = some 1 := by decide +kernel
theorem dd_X2_init : yX2_init.cls ≠ "java/lang/invoke/MethodHandle" ∧ yX2_init.cls ≠ "java/lang/invoke/VarHandle" ∧ (parseMethodDescriptor yX2_init.desc).map (fun d => d.parameters.length) = some 0 := by decide +kernel
theorem dd_X2_copyFrom : yX2_copyFrom.cls ≠ "java/lang/invoke/MethodHandle" ∧ yX2_copyFrom.cls ≠ "java/lang/invoke/VarHandle" ∧ (parseMethodDescriptor yX2_copyFrom.desc).map (fun d => d.parameters.length) = some 1 := by decide +kernel
theorem dd_X2_goBy : yX2_goBy.cls ≠ "java/lang/invoke/MethodHandle" ∧ yX2_goBy.cls ≠ "java/lang/invoke/VarHandle" ∧ (parseMethodDescriptor yX2_goBy.desc).map (fun d => d.parameters.length) = some 1 := by decide +kernel
theorem dd_X2_goByOne : yX2_goByOne.cls ≠ "java/lang/invoke/MethodHandle" ∧ yX2_goByOne.cls ≠ "java/lang/invoke/VarHandle" ∧ (parseMethodDescriptor yX2_goByOne.desc).map (fun d => d.parameters.length) = some 0 := by decide +kernel
theorem dd_X2_reckonWeek : yX2_reckonWeek.cls ≠ "java/lang/invoke/MethodHandle" ∧ yX2_reckonWeek.cls ≠ "java/lang/invoke/VarHandle" ∧ (parseMethodDescriptor yX2_reckonWeek.desc).map (fun d => d.parameters.length) = some 0 := by decide +kernel
theorem dd_X2_total : yX2_total.cls ≠ "java/lang/invoke/MethodHandle" ∧ yX2_total.cls ≠ "java/lang/invoke/VarHandle" ∧ (parseMethodDescriptor yX2_total.desc).map (fun d => d.parameters.length) = some 1 := by decide +kernel
theorem dd_X2_warehouseBags : yX2_warehouseBags.cls ≠ "java/lang/invoke/MethodHandle" ∧ yX2_warehouseBags.cls ≠ "java/lang/invoke/VarHandle" ∧ (parseMethodDescriptor yX2_warehouseBags.desc).map (fun d => d.parameters.length) = some 0 := by decide +kernel
theorem dd_X2_sumOfShares : yX2_sumOfShares.cls ≠ "java/lang/invoke/MethodHandle" ∧ yX2_sumOfShares.cls ≠ "java/lang/invoke/VarHandle" ∧ (parseMethodDescriptor yX2_sumOfShares.desc).map (fun d => d.parameters.length) = some 1 := by decide +kernel
theorem dd_X2_foggerNumber : yX2_foggerNumber.cls ≠ "java/lang/invoke/MethodHandle" ∧ yX2_foggerNumber.cls ≠ "java/lang/invoke/VarHandle" ∧ (parseMethodDescriptor yX2_foggerNumber.desc).map (fun d => d.parameters.length) = some 2 := by decide +kernel
theorem dd_X2_workersFor : yX2_workersFor.cls ≠ "java/lang/invoke/MethodHandle" ∧ yX2_workersFor.cls ≠ "java/lang/invoke/VarHandle" ∧ (parseMethodDescriptor yX2_workersFor.desc).map (fun d => d.parameters.length) = some 1 := by decide +kernel
theorem dd_X3_init : yX3_init.cls ≠ "java/lang/invoke/MethodHandle" ∧ yX3_init.cls ≠ "java/lang/invoke/VarHandle" ∧ (parseMethodDescriptor yX3_init.desc).map (fun d => d.parameters.length) = some 0 := by decide +kernel
theorem dd_X3_nailer : yX3_nailer.cls ≠ "java/lang/invoke/MethodHandle" ∧ yX3_nailer.cls ≠ "java/lang/invoke/VarHandle" ∧ (parseMethodDescriptor yX3_nailer.desc).map (fun d => d.parameters.length) = some 3 := by decide +kernel
theorem dd_X3_lend : yX3_lend.cls ≠ "java/lang/invoke/MethodHandle" ∧ yX3_lend.cls ≠ "java/lang/invoke/VarHandle" ∧ (parseMethodDescriptor yX3_lend.desc).map (fun d => d.parameters.length) = some 2 := by decide +kernel
theorem dd_X3_coal : yX3_coal.cls ≠ "java/lang/invoke/MethodHandle" ∧ yX3_coal.cls ≠ "java/lang/invoke/VarHandle" ∧ (parseMethodDescriptor yX3_coal.desc).map (fun d => d.parameters.length) = some 2 := by decide +kernel
theorem dd_X3_told : yX3_told.cls ≠ "java/lang/invoke/MethodHandle" ∧ yX3_told.cls ≠ "java/lang/invoke/VarHandle" ∧ (parseMethodDescriptor yX3_told.desc).map (fun d => d.parameters.length) = some 2 := by decide +kernel
theorem dd_X3_nails : yX3_nails.cls ≠ "java/lang/invoke/MethodHandle" ∧ yX3_nails.cls ≠ "java/lang/invoke/VarHandle" ∧ (parseMethodDescriptor yX3_nails.desc).map (fun d => d.parameters.length) = some 3 := by decide +kernel
theorem dd_X3_keep : yX3_keep.cls ≠ "java/lang/invoke/MethodHandle" ∧ yX3_keep.cls ≠ "java/lang/invoke/VarHandle" ∧ (parseMethodDescriptor yX3_keep.desc).map (fun d => d.parameters.length) = some 2 := by decide +kernel
theorem dd_X3_fogger : yX3_fogger.cls ≠ "java/lang/invoke/MethodHandle" ∧ yX3_fogger.cls ≠ "java/lang/invoke/VarHandle" ∧ (parseMethodDescriptor yX3_fogger.desc).map (fun d => d.parameters.length) = some 2 := by decide +kernel
theorem dd_X3_count : yX3_count.cls ≠ "java/lang/invoke/MethodHandle" ∧ yX3_count.cls ≠ "java/lang/invoke/VarHandle" ∧ (parseMethodDescriptor yX3_count.desc).map (fun d => d.parameters.length) = some 1 := by decide +kernel
theorem dd_X3_pass : yX3_pass.cls ≠ "java/lang/invoke/MethodHandle" ∧ yX3_pass.cls ≠ "java/lang/invoke/VarHandle" ∧ (parseMethodDescriptor yX3_pass.desc).map (fun d => d.parameters.length) = some 1 := by decide +kernel
theorem dd_X3_rate : yX3_rate.cls ≠ "java/lang/invoke/MethodHandle" ∧ yX3_rate.cls ≠ "java/lang/invoke/VarHandle" ∧ (parseMethodDescriptor yX3_rate.desc).map (fun d => d.parameters.length) = some 1 := by decide +kernel
theorem dd_X3_foresee : yX3_foresee.cls ≠ "java/lang/invoke/MethodHandle" ∧ yX3_foresee.cls ≠ "java/lang/invoke/VarHandle" ∧ (parseMethodDescriptor yX3_foresee.desc).map (fun d => d.parameters.length) = some 2 := by decide +kernel
theorem dd_X3_advise : yX3_advise.cls ≠ "java/lang/invoke/MethodHandle" ∧ yX3_advise.cls ≠ "java/lang/invoke/VarHandle" ∧ (parseMethodDescriptor yX3_advise.desc).map (fun d => d.parameters.length) = some 2 := by decide +kernel
theorem dd_X3_richest : yX3_richest.cls ≠ "java/lang/invoke/MethodHandle" ∧ yX3_richest.cls ≠ "java/lang/invoke/VarHandle" ∧ (parseMethodDescriptor yX3_richest.desc).map (fun d => d.parameters.length) = some 0 := by decide +kernel
theorem dd_X3_digest : yX3_digest.cls ≠ "java/lang/invoke/MethodHandle" ∧ yX3_digest.cls ≠ "java/lang/invoke/VarHandle" ∧ (parseMethodDescriptor yX3_digest.desc).map (fun d => d.parameters.length) = some 0 := by decide +kernel
theorem dd_X3_needNailer : yX3_needNailer.cls ≠ "java/lang/invoke/MethodHandle" ∧ yX3_needNailer.cls ≠ "java/lang/invoke/VarHandle" ∧ (parseMethodDescriptor yX3_needNailer.desc).map (fun d => d.parameters.length) = some 1 := by decide +kernel
theorem dd_X3_needIndex : yX3_needIndex.cls ≠ "java/lang/invoke/MethodHandle" ∧ yX3_needIndex.cls ≠ "java/lang/invoke/VarHandle" ∧ (parseMethodDescriptor yX3_needIndex.desc).map (fun d => d.parameters.length) = some 2 := by decide +kernel
theorem dd_X3_needWithin : yX3_needWithin.cls ≠ "java/lang/invoke/MethodHandle" ∧ yX3_needWithin.cls ≠ "java/lang/invoke/VarHandle" ∧ (parseMethodDescriptor yX3_needWithin.desc).map (fun d => d.parameters.length) = some 3 := by decide +kernel
theorem dd_L_law : yL_law.cls ≠ "java/lang/invoke/MethodHandle" ∧ yL_law.cls ≠ "java/lang/invoke/VarHandle" ∧ (parseMethodDescriptor yL_law.desc).map (fun d => d.parameters.length) = some 1 := by decide +kernel
theorem pl_X0 : plainName RX0 = true := by decide +kernel
theorem pl_X1 : plainName RX1 = true := by decide +kernel
theorem pl_X2 : plainName RX2 = true := by decide +kernel
theorem pl_X3 : plainName RX3 = true := by decide +kernel
theorem pl_L : plainName RL = true := by decide +kernel

theorem dd_L_below : yL_below.cls ≠ "java/lang/invoke/MethodHandle" ∧ yL_below.cls ≠ "java/lang/invoke/VarHandle" ∧ (parseMethodDescriptor yL_below.desc).map (fun d => d.parameters.length) = some 2 := by decide +kernel
theorem dd_L_cell : yL_cell.cls ≠ "java/lang/invoke/MethodHandle" ∧ yL_cell.cls ≠ "java/lang/invoke/VarHandle" ∧ (parseMethodDescriptor yL_cell.desc).map (fun d => d.parameters.length) = some 2 := by decide +kernel
theorem dd_L_makers : yL_makers.cls ≠ "java/lang/invoke/MethodHandle" ∧ yL_makers.cls ≠ "java/lang/invoke/VarHandle" ∧ (parseMethodDescriptor yL_makers.desc).map (fun d => d.parameters.length) = some 1 := by decide +kernel
end
section
/-! THE LAYOUT. All cells lie side by side from o on: NailRods (0), its Trade (1) with its rows and 12 nailers of 3 cells and 4 foggers (2 .. 43), the foreseen Trade (44 .. 86), the trial nailer (87 .. 89), the law's row (90). -/
/-- o, and what arrays are: int rows, Nailer rows, Fogger rows; whether the law's row is there; where the static tables lie -/
abbrev L5 : Type := Nat × ClassId × ClassId × ClassId × Bool × (Nat → Nat)
/-- so many cells: 90 of the class, or one more, the law's row -/
def nB (b : Bool) : Nat := match b with
  | true => 91
  | false => 90
theorem nB_ge (b : Bool) : 90 ≤ nB b ∧ nB b ≤ 91 := by cases b <;> decide
def nW (P : L5) : Nat := nB P.2.2.2.2.1
theorem nW_ge (P : L5) : 90 ≤ nW P ∧ nW P ≤ 91 := nB_ge _
def tyP (P : L5) : List (ClassId × FieldType) := [(P.2.1, .int), (P.2.2.1, .object RX1), (P.2.2.2.1, .object RX0)]
def nA (j : Nat) : Nat := if j < 12 then 3 + 3 * j else if j < 24 then 10 + 3 * j else 87
def fA (j : Nat) : Nat := if j < 4 then 40 + j else 79 + j
def rX (P : L5) : Nat := P.1 + 0
def rT (P : L5) (t : Nat) : Nat := P.1 + (1 + 43 * t)
def rNA (P : L5) (t : Nat) : Nat := P.1 + (2 + 43 * t)
def rFA (P : L5) (t : Nat) : Nat := P.1 + (39 + 43 * t)
def rN (P : L5) (j : Nat) : Nat := P.1 + nA j
def rL (P : L5) (j : Nat) : Nat := P.1 + (nA j + 1)
def rB (P : L5) (j : Nat) : Nat := P.1 + (nA j + 2)
def rF (P : L5) (j : Nat) : Nat := P.1 + fA j
def rA (P : L5) (b : Nat) : Nat := P.1 + (90 + b)
def rS (P : L5) (b : Nat) : Nat := P.2.2.2.2.2 b
/-- the kind of a place, and which of its kind -/
def kd (a : Nat) : Nat × Nat :=
  if a = 0 then (0, 0) else if a = 1 then (1, 0) else if a = 2 then (2, 0) else if a < 39 then (3 + a % 3, (a - 3) / 3) else if a = 39 then (6, 0) else if a < 44 then (7, a - 40)
  else if a = 44 then (1, 1) else if a = 45 then (2, 1) else if a < 82 then (3 + (a - 46) % 3, 12 + (a - 46) / 3) else if a = 82 then (6, 1) else if a < 87 then (7, a - 79)
  else if a = 87 then (3, 24) else if a = 88 then (4, 24) else if a = 89 then (5, 24) else (9, 0)
def ik (q : Nat × Nat) : Nat := match q.1 with
  | 0 => 0 | 1 => 1 + 43 * q.2 | 2 => 2 + 43 * q.2 | 3 => nA q.2 | 4 => nA q.2 + 1 | 5 => nA q.2 + 2 | 6 => 39 + 43 * q.2 | 7 => fA q.2 | 8 => 96 | 9 => 90 + q.2 | _ => 96
theorem ik_kd : ∀ a, a < 91 → ik (kd a) = a := by decide +kernel
/-- what a cell holds: nailers' rows N (20 numbers each: 12 fields, 4 loose, 4 bags), foggers' rows F, trades' T, the model's numbers K and rows A, the law's w -/
def cK (P : L5) (N F T : Nat → Nat → Int32) (K : Nat → Int32) (A : Nat → Nat → Int32) (w : Int64) (q : Nat × Nat) : va_E := match q.1 with
  | 0 => .inr (3, [.ref (rT P 0), .ref (rT P 1), .ref (rN P 24)])
  | 1 => .inr (2, [.int (T q.2 0), .int (T q.2 1), .ref (rNA P q.2), .ref (rFA P q.2)])
  | 2 => .inl (P.2.2.1, 12, .inr (.inr (.inr (.inr (fun i => some (rN P (12 * q.2 + i)))))))
  | 3 => .inr (1, [.int (N q.2 0), .int (N q.2 1), .int (N q.2 2), .int (N q.2 3), .int (N q.2 4), .int (N q.2 5), .int (N q.2 6), .int (N q.2 7), .int (N q.2 8), .int (N q.2 9), .int (N q.2 10), .int (N q.2 11), .ref (rL P q.2), .ref (rB P q.2)])
  | 4 => .inl (P.2.1, 4, .inl (fun i => if i < 4 then N q.2 (12 + i) else 0))
  | 5 => .inl (P.2.1, 4, .inl (fun i => if i < 4 then N q.2 (16 + i) else 0))
  | 6 => .inl (P.2.2.2.1, 4, .inr (.inr (.inr (.inr (fun i => some (rF P (4 * q.2 + i)))))))
  | 7 => .inr (0, [.int (F q.2 0), .int (F q.2 1), .int (F q.2 2), .int (F q.2 3), .int (F q.2 4), .int (F q.2 5)])
  | 8 => .inl (P.2.1, 3, .inl (fun _ => 0))
  | 9 => .inl (P.2.1, 3, .inl (A q.2))
  | _ => .inl (P.2.1, 3, .inl (fun _ => 0))
def cw (P : L5) (N F T : Nat → Nat → Int32) (K : Nat → Int32) (A : Nat → Nat → Int32) (w : Int64) : Nat → va_E := fun a => cK P N F T K A w (kd a)
/-- n cells from o on -/
def wl (o n : Nat) (f : Nat → va_E) : va_W := (List.range n).map (fun a => (o + a, f a))
theorem wl_len {o n : Nat} {f : Nat → va_E} : (wl o n f).length = n := by simp [wl]
theorem wl_get {o n : Nat} {f : Nat → va_E} {a : Nat} (h : a < n) : (wl o n f)[a]? = some (o + a, f a) := by simp [wl, h]
theorem wl_of {o n : Nat} {f : Nat → va_E} {k : Nat} {q : Nat × va_E} (h : (wl o n f)[k]? = some q) : k < n ∧ q = (o + k, f k) := by
  have hk : k < n := by
    have := (List.getElem?_eq_some_iff.mp h).1
    rwa [wl_len] at this
  rw [wl_get hk] at h
  exact ⟨hk, (Option.some.inj h).symm⟩
theorem wl_cong {o n : Nat} {f g : Nat → va_E} (h : ∀ a, a < n → f a = g a) : wl o n f = wl o n g := by
  unfold wl
  apply List.map_congr_left
  intro a ha
  rw [h a (List.mem_range.mp ha)]
theorem wl_set {o n : Nat} {f : Nat → va_E} {a : Nat} {e : va_E} (h : a < n) : (wl o n f).set a (o + a, e) = wl o n (va_up f a e) := by
  apply List.ext_getElem?
  intro j
  by_cases hj : j = a
  · subst hj
    rw [List.getElem?_set_self (by rw [wl_len]; exact h), wl_get h, va_up_self]
  · rw [List.getElem?_set_ne (Ne.symm hj)]
    by_cases hl : j < n
    · rw [wl_get hl, wl_get hl, va_up_ne _ _ hj]
    · rw [List.getElem?_eq_none (by rw [wl_len]; omega), List.getElem?_eq_none (by rw [wl_len]; omega)]
theorem wl_push {o n : Nat} {f : Nat → va_E} {e : va_E} : wl o n f ++ [(o + n, e)] = wl o (n + 1) (va_up f n e) := by
  unfold wl
  rw [List.range_succ, List.map_append, List.map_cons, List.map_nil, va_up_self]
  congr 1
  apply List.map_congr_left
  intro a ha
  rw [va_up_ne _ _ (Nat.ne_of_lt (List.mem_range.mp ha))]
theorem wl_D (o n : Nat) (f : Nat → va_E) : va_D (fun q => o ≤ q) (wl o n f) := by
  refine ⟨fun i j p q hi hj h => ?_, fun k q hk => ?_⟩
  · obtain ⟨-, rfl⟩ := wl_of hi
    obtain ⟨-, rfl⟩ := wl_of hj
    exact Nat.add_left_cancel h
  · obtain ⟨-, rfl⟩ := wl_of hk
    exact Nat.le_add_right _ _
theorem wl_sub {D : va_G} {cl : List vw_C} {o n n' : Nat} {f : Nat → va_E} {H : Heap} (hn : n' ≤ n) (h : va_P D cl (wl o n f) H) : va_P D cl (wl o n' f) H := by
  intro k q hk
  obtain ⟨h1, rfl⟩ := wl_of hk
  exact h k _ (wl_get (Nat.lt_of_lt_of_le h1 hn))
theorem cw_get {P : L5} {N F T : Nat → Nat → Int32} {K : Nat → Int32} {A : Nat → Nat → Int32} {w : Int64} (q : Nat × Nat) (h : kd (ik q) = q) (h2 : ik q < 90) : (wl P.1 (nW P) (cw P N F T K A w))[ik q]? = some (P.1 + ik q, cK P N F T K A w q) := by
  rw [wl_get (Nat.lt_of_lt_of_le h2 (nW_ge P).1)]
  unfold cw
  rw [h]
theorem cw_set {P : L5} {N F T : Nat → Nat → Int32} {K : Nat → Int32} {A : Nat → Nat → Int32} {w : Int64} {N' F' T' : Nat → Nat → Int32} {K' : Nat → Int32} {A' : Nat → Nat → Int32} {w' : Int64} (q : Nat × Nat) (h : kd (ik q) = q) (h2 : ik q < 90) {e : va_E} (he : cK P N' F' T' K' A' w' q = e) (ho : ∀ q', q' ≠ q → (∃ a, a < 91 ∧ kd a = q') → cK P N' F' T' K' A' w' q' = cK P N F T K A w q') :
    (wl P.1 (nW P) (cw P N F T K A w)).set (ik q) (P.1 + ik q, e) = wl P.1 (nW P) (cw P N' F' T' K' A' w') := by
  rw [wl_set (Nat.lt_of_lt_of_le h2 (nW_ge P).1)]
  apply wl_cong
  intro a ha
  by_cases hq : a = ik q
  · subst hq
    rw [va_up_self]
    unfold cw
    rw [h, he]
  · rw [va_up_ne _ _ hq]
    unfold cw
    rw [ho (kd a) (fun z => hq (by rw [← z, ik_kd a (Nat.lt_of_lt_of_le ha (nW_ge P).2)])) ⟨a, Nat.lt_of_lt_of_le ha (nW_ge P).2, rfl⟩]
theorem kdN : ∀ j, j < 25 → kd (ik (3, j)) = (3, j) ∧ ik (3, j) < 90 := by decide +kernel
theorem kdL : ∀ j, j < 25 → kd (ik (4, j)) = (4, j) ∧ ik (4, j) < 90 := by decide +kernel
theorem kdB : ∀ j, j < 25 → kd (ik (5, j)) = (5, j) ∧ ik (5, j) < 90 := by decide +kernel
theorem kdF : ∀ j, j < 8 → kd (ik (7, j)) = (7, j) ∧ ik (7, j) < 90 := by decide +kernel
theorem kdT : ∀ j, j < 2 → kd (ik (1, j)) = (1, j) ∧ ik (1, j) < 90 := by decide +kernel
theorem kdNA : ∀ j, j < 2 → kd (ik (2, j)) = (2, j) ∧ ik (2, j) < 90 := by decide +kernel
theorem kdFA : ∀ j, j < 2 → kd (ik (6, j)) = (6, j) ∧ ik (6, j) < 90 := by decide +kernel
theorem kdA : kd (ik (9, 0)) = (9, 0) ∧ ik (9, 0) = 90 := by decide +kernel
theorem kdX : kd (ik (0, 0)) = (0, 0) ∧ ik (0, 0) < 90 := by decide +kernel
theorem va_up_eta {α : Type} (f : Nat → α) (k : Nat) : va_up f k (f k) = f := by
  funext j
  by_cases h : j = k
  · subst h; rw [va_up_self]
  · rw [va_up_ne _ _ h]
theorem va_up_up {α : Type} (f : Nat → α) (k : Nat) (a b : α) : va_up (va_up f k a) k b = va_up f k b := by
  funext j
  by_cases h : j = k
  · subst h; rw [va_up_self, va_up_self]
  · rw [va_up_ne _ _ h, va_up_ne _ _ h, va_up_ne _ _ h]
end
section
/-! WHAT STAYS ALL THE TIME (tables, strings, links between nest mates), THE STATE OF A WALK, AND ITS ROWS, one an instruction -/
def ozT (j : Nat) : Int32 := if j = 0 then 1 else if j = 1 then 2 else if j = 2 then 3 else 6
def woT (j : Nat) : Int32 := if j = 0 then 8 else if j = 1 then 14 else if j = 2 then 20 else 36
def stQ : List (String × String × (Nat → Int32)) := [("NailRods", "OUNCES", ozT), ("NailRods", "WORTH", woT), ("NailRodsLaw", "OUNCES", ozT)]
def nwF : List (String × Nat × String × String × String) := [(RX3, 72, "NailRods$Nailer", "kind", "I"), (RX2, 49, "NailRods$Nailer", "fogger", "I"), (RX1, 82, "NailRods", "OUNCES", "[I"), (RX3, 61, "NailRods$Nailer", "rods", "I"), (RX1, 82, "NailRods", "OUNCES", "[I"), (RX3, 67, "NailRods$Nailer", "coal", "I"), (RX0, 39, "NailRods$Nailer", "coins", "I"), (RX3, 64, "NailRods$Nailer", "coins", "I"), (RX3, 56, "NailRods$Nailer", "owed", "I"), (RX0, 40, "NailRods$Nailer", "owed", "I"), (RX3, 84, "NailRods$Nailer", "loose", "[I"), (RX0, 34, "NailRods$Nailer", "bags", "[I"), (RX3, 88, "NailRods$Nailer", "bags", "[I"), (RX3, 95, "NailRods$Fogger", "keptBack", "I"), (RX2, 74, "NailRods$Fogger", "keptBack", "I"), (RX2, 77, "NailRods$Fogger", "coins", "I"), (RX2, 68, "NailRods$Fogger", "bought", "I"), (RX2, 83, "NailRods$Fogger", "paid", "I"), (RX2, 86, "NailRods$Fogger", "earned", "I"), (RX3, 34, "NailRods$Trade", "nailerCount", "I"), (RX3, 45, "NailRods$Trade", "nailers", "[LNailRods$Nailer;"), (RX3, 91, "NailRods$Trade", "foggers", "[LNailRods$Fogger;"), (RX1, 82, "NailRods", "OUNCES", "[I"), (RX0, 30, "NailRods", "WORTH", "[I")]
def nwM : List (String × Nat × MethodName) := [(RX3, 9, yX2_init), (RX2, 17, yX1_init), (RX2, 24, yX0_init), (RX3, 21, yX1_init), (RX3, 104, yX2_total), (RX2, 71, yX1_shareOfTotal), (RX3, 135, yX1_addToDigest), (RX3, 100, yX2_foggerNumber), (RX3, 49, yX1_begin), (RX3, 80, yX1_number), (RX3, 107, yX2_goBy), (RX2, 43, yX1_workHour), (RX2, 52, yX0_buyBags), (RX2, 55, yX0_collectDebt), (RX2, 58, yX0_deliver), (RX3, 110, yX1_copyFrom), (RX3, 114, yX1_workHours), (RX3, 122, yX2_copyFrom), (RX2, 32, yX1_copyFrom), (RX2, 36, yX0_copyFrom)]
def ST (P : L5) (U : State) : Prop :=
  (∀ (b : Nat) (q : String × String × (Nat → Int32)), stQ[b]? = some q → va_Z q.1 q.2.1 "[I" (.ref (rS P b)) (fun a => P.1 ≤ a) U U.heap ∧ va_T .int (rS P b) 4 (fun j => .int (q.2.2 j)) (fun a => P.1 ≤ a) U U.heap) ∧
  (∃ xs : Nat → Int32, va_X (rS P 5) (rS P 6) xs U U.heap) ∧ (rS P 6 ≤ 260 ∧ rS P 5 < P.1) ∧
  (∀ q ∈ nwF, va_Nw (.fieldLinkNest q.1 q.2.1 q.2.2.1 q.2.2.2.1 q.2.2.2.2 RX3) U) ∧
  (∀ q ∈ nwM, va_Nw (.methodLinkNest q.1 q.2.1 q.2.2 RX3) U) ∧
  (va_AO RX1 U ∧ va_AO RX0 U) ∧ True
theorem ST.move {P : L5} {s U : State} (h : ST P s) (hW : s.WarmedH U.vm) (hH : ∀ q : Nat, q < s.heap.size → ¬ (fun a => P.1 ≤ a) q → U.heap[q]? = s.heap[q]?) : ST P U := by
  obtain ⟨h1, ⟨xs, h2⟩, h3, h4, h5, h6, -⟩ := h
  have h2s : rS P 5 < s.heap.size := by
    obtain ⟨scr, hc, -⟩ := h2
    exact (Array.getElem?_eq_some_iff.mp hc).1
  refine ⟨fun b q hq => ?_, ⟨xs, va_X.moved hW.alike (va_X.kept h2 (hH _ h2s (Nat.not_le.mpr h3.2)))⟩, h3, fun q hq => ?_, fun q hq => ?_, ?_, trivial⟩
  · obtain ⟨a1, a2⟩ := h1 b q hq
    exact ⟨va_Z.moved hW.alike (va_Z.kept a1 hH), va_T.moved hW.alike (va_T.kept a2 hH)⟩
  · exact va_Nw.warmF hW (h4 q hq)
  · exact va_Nw.warmM hW (h5 q hq)
  · exact ⟨va_AO.moved hW.alike h6.1, va_AO.moved hW.alike h6.2⟩
/-- at a method's start: n cells that hold f; x: nothing else was made behind o -/
def PreI (P : L5) (D : va_G) (n : Nat) (x : Prop) (f : Nat → va_E) (U : State) : Prop := va_P D vwCl (wl P.1 n f) U.heap ∧ va_K D vwCl (tyP P) U ∧ P.1 ≤ U.heap.size ∧ (x → U.heap.size = P.1 + n) ∧ ST P U
theorem PreI.blind {P : L5} {D : va_G} {n : Nat} {x : Prop} {f : Nat → va_E} {av : List Value} : FrameBlind (va_Pc av (PreI P D n x f)) := by
  intro a U g mk h
  obtain ⟨h0, h1, h2, h3, h4, h5⟩ := h
  exact ⟨h0, h1, va_K.moved (u := U) (U := U.calling g mk a) (Vm.Alike.refl U.vm) h2, h3, h4, ST.move (s := U) (U := U.calling g mk a) h5 (State.WarmedH.refl U) (fun _ _ _ => rfl)⟩
def rmO (h mc ms : Nat) : Room := { frames := h, cells := mc, slots := ms, locals := 28 * h }
/-- what a method's walk stands on -/
def Cx (p : Program) (l : Launch) (s : State) (m : MethodId) (args : Array Value) (meth : Method) (c : Code) (P : L5) (D : va_G) (cc : ByteArray) (nL : Nat) (ret : Option FieldType) (own : String) : Prop :=
  p.tables.exec = Jvm.exec ∧ c.code = cc ∧ c.maxLocals = nL ∧ s.vm.findClass own = some m.cls ∧ (∀ w ∈ gtb, w.before args s = true) ∧ meth.sig.returnType = ret ∧ meth.locks = false ∧ va_K D vwCl (tyP P) s ∧ P.1 ≤ s.heap.size ∧ ST P s
/-- the walk's judgement: from every heap that holds f -/
def V (p : Program) (l : Launch) (e : Env) (R : Room) (s : State) (m : MethodId) (args : Array Value) (below : List Frame) (meth : Method) (c : Code) (P : L5) (D : va_G) (Q : State → Prop) (nL n : Nat) (x : Prop) (f : Nat → va_E) (k z pc : Nat) (lv : List (Nat × Value)) (st : List Value) : Prop :=
  ∀ (H : Heap) (locs : List Loc) (ls : Array Slot), va_P D vwCl (wl P.1 n f) H → (x → H.size = P.1 + n) → va_S (fun q => P.1 ≤ q) s.heap H locs → lv_has ls nL lv → W p l e R s m args below meth c H locs k z Q (F0 m pc ls st)
section VRows
variable {p : Program} {l : Launch} {e : Env} {R : Room} {s : State} {m : MethodId} {args : Array Value} {below : List Frame} {meth : Method} {c : Code} {P : L5} {D : va_G} {Q : State → Prop} {nL n : Nat} {x : Prop} {f : Nat → va_E} {k z pc : Nat} {lv : List (Nat × Value)} {st : List Value} {cc : ByteArray} {ret : Option FieldType} {own : String}
theorem v_iconst (C : Cx p l s m args meth c P D cc nL ret own) {i : Int} {v : Int32} (hdg : decode cc pc = .ok (.iconst i, 1)) (hv : Int32.ofInt i = v) (kk : V p l e R s m args below meth c P D Q nL n x f k z (pc + 1) lv (.int v :: st)) : V p l e R s m args below meth c P D Q nL n x f k z pc lv st := fun H locs ls hP hz hS hl => lv_iconst C.1 C.2.1 hdg hv (kk H locs ls hP hz hS hl)
theorem v_bipush (C : Cx p l s m args meth c P D cc nL ret own) {i : Int} {v : Int32} (hdg : decode cc pc = .ok (.bipush i, 2)) (hv : (Int8.ofInt i).toInt32 = v) (kk : V p l e R s m args below meth c P D Q nL n x f k z (pc + 2) lv (.int v :: st)) : V p l e R s m args below meth c P D Q nL n x f k z pc lv st := fun H locs ls hP hz hS hl => lv_bipush C.1 C.2.1 hdg hv (kk H locs ls hP hz hS hl)
theorem v_sipush (C : Cx p l s m args meth c P D cc nL ret own) {i : Int} {v : Int32} (hdg : decode cc pc = .ok (.sipush i, 3)) (hv : (Int16.ofInt i).toInt32 = v) (kk : V p l e R s m args below meth c P D Q nL n x f k z (pc + 3) lv (.int v :: st)) : V p l e R s m args below meth c P D Q nL n x f k z pc lv st := fun H locs ls hP hz hS hl => lv_sipush C.1 C.2.1 hdg hv (kk H locs ls hP hz hS hl)
theorem v_iload_n (C : Cx p l s m args meth c P D cc nL ret own) {i : Fin 4} {a : Int32} (q : Nat) (hdg : decode cc pc = .ok (.iload_n i, 1)) (hq : lv[q]? = some ((i : Nat), .int a)) (kk : V p l e R s m args below meth c P D Q nL n x f k z (pc + 1) lv (.int a :: st)) : V p l e R s m args below meth c P D Q nL n x f k z pc lv st := fun H locs ls hP hz hS hl => lv_iload_n C.1 C.2.1 hdg rfl (lv_at hl q hq) (kk H locs ls hP hz hS hl)
theorem v_iload (C : Cx p l s m args meth c P D cc nL ret own) {i : Nat} {a : Int32} (q : Nat) (hdg : decode cc pc = .ok (.iload i, 2)) (hq : lv[q]? = some (i, .int a)) (kk : V p l e R s m args below meth c P D Q nL n x f k z (pc + 2) lv (.int a :: st)) : V p l e R s m args below meth c P D Q nL n x f k z pc lv st := fun H locs ls hP hz hS hl => lv_iload C.1 C.2.1 hdg (lv_at hl q hq) (kk H locs ls hP hz hS hl)
theorem v_aload_n (C : Cx p l s m args meth c P D cc nL ret own) {i : Fin 4} {a : Nat} (q : Nat) (hdg : decode cc pc = .ok (.aload_n i, 1)) (hq : lv[q]? = some ((i : Nat), .ref a)) (kk : V p l e R s m args below meth c P D Q nL n x f k z (pc + 1) lv (.ref a :: st)) : V p l e R s m args below meth c P D Q nL n x f k z pc lv st := fun H locs ls hP hz hS hl => lv_aload_n C.1 C.2.1 hdg rfl (lv_at hl q hq) (kk H locs ls hP hz hS hl)
theorem v_aload (C : Cx p l s m args meth c P D cc nL ret own) {i : Nat} {a : Nat} (q : Nat) (hdg : decode cc pc = .ok (.aload i, 2)) (hq : lv[q]? = some (i, .ref a)) (kk : V p l e R s m args below meth c P D Q nL n x f k z (pc + 2) lv (.ref a :: st)) : V p l e R s m args below meth c P D Q nL n x f k z pc lv st := fun H locs ls hP hz hS hl => lv_aload C.1 C.2.1 hdg (lv_at hl q hq) (kk H locs ls hP hz hS hl)
theorem v_lload_n (C : Cx p l s m args meth c P D cc nL ret own) {i : Fin 4} {a : Int64} (q : Nat) (hdg : decode cc pc = .ok (.lload_n i, 1)) (hq : lv[q]? = some ((i : Nat), .long a)) (kk : V p l e R s m args below meth c P D Q nL n x f k z (pc + 1) lv (.long a :: st)) : V p l e R s m args below meth c P D Q nL n x f k z pc lv st := fun H locs ls hP hz hS hl => lv_lload_n C.1 C.2.1 hdg rfl (lv_at hl q hq) (kk H locs ls hP hz hS hl)
theorem v_dload (C : Cx p l s m args meth c P D cc nL ret own) {i : Nat} {a : UInt64} (q : Nat) (hdg : decode cc pc = .ok (.dload i, 2)) (hq : lv[q]? = some (i, .double a)) (kk : V p l e R s m args below meth c P D Q nL n x f k z (pc + 2) lv (.double a :: st)) : V p l e R s m args below meth c P D Q nL n x f k z pc lv st := fun H locs ls hP hz hS hl => lv_dload C.1 C.2.1 hdg (lv_at hl q hq) (kk H locs ls hP hz hS hl)
theorem v_istore_n (C : Cx p l s m args meth c P D cc nL ret own) {u : Fin 4} {i : Nat} {a : Int32} {lv' : List (Nat × Value)} (hdg : decode cc pc = .ok (.istore_n u, 1)) (hi : (u : Nat) = i) (hn : i < nL) (hl2 : (i, Value.int a) :: lv.filter (fun q => !(q.1 == i) && !(q.1 + 1 == i && q.2.category == 2)) = lv') (kk : V p l e R s m args below meth c P D Q nL n x f k z (pc + 1) lv' st) : V p l e R s m args below meth c P D Q nL n x f k z pc lv (.int a :: st) := fun H locs ls hP hz hS hl => lv_istore_n C.1 C.2.1 hdg hi hl hn hl2 (fun ls' hl' => kk H locs ls' hP hz hS hl')
theorem v_istore (C : Cx p l s m args meth c P D cc nL ret own) {i : Nat} {a : Int32} {lv' : List (Nat × Value)} (hdg : decode cc pc = .ok (.istore i, 2)) (hn : i < nL) (hl2 : (i, Value.int a) :: lv.filter (fun q => !(q.1 == i) && !(q.1 + 1 == i && q.2.category == 2)) = lv') (kk : V p l e R s m args below meth c P D Q nL n x f k z (pc + 2) lv' st) : V p l e R s m args below meth c P D Q nL n x f k z pc lv (.int a :: st) := fun H locs ls hP hz hS hl => lv_istore C.1 C.2.1 hdg hl hn hl2 (fun ls' hl' => kk H locs ls' hP hz hS hl')
theorem v_astore_n (C : Cx p l s m args meth c P D cc nL ret own) {u : Fin 4} {i : Nat} {a : Nat} {lv' : List (Nat × Value)} (hdg : decode cc pc = .ok (.astore_n u, 1)) (hi : (u : Nat) = i) (hn : i < nL) (hl2 : (i, Value.ref a) :: lv.filter (fun q => !(q.1 == i) && !(q.1 + 1 == i && q.2.category == 2)) = lv') (kk : V p l e R s m args below meth c P D Q nL n x f k z (pc + 1) lv' st) : V p l e R s m args below meth c P D Q nL n x f k z pc lv (.ref a :: st) := fun H locs ls hP hz hS hl => lv_astore_n C.1 C.2.1 hdg hi hl hn hl2 (fun ls' hl' => kk H locs ls' hP hz hS hl')
theorem v_astore (C : Cx p l s m args meth c P D cc nL ret own) {i : Nat} {a : Nat} {lv' : List (Nat × Value)} (hdg : decode cc pc = .ok (.astore i, 2)) (hn : i < nL) (hl2 : (i, Value.ref a) :: lv.filter (fun q => !(q.1 == i) && !(q.1 + 1 == i && q.2.category == 2)) = lv') (kk : V p l e R s m args below meth c P D Q nL n x f k z (pc + 2) lv' st) : V p l e R s m args below meth c P D Q nL n x f k z pc lv (.ref a :: st) := fun H locs ls hP hz hS hl => lv_astore C.1 C.2.1 hdg hl hn hl2 (fun ls' hl' => kk H locs ls' hP hz hS hl')
theorem v_lstore_n (C : Cx p l s m args meth c P D cc nL ret own) {u : Fin 4} {i : Nat} {a : Int64} {lv' : List (Nat × Value)} (hdg : decode cc pc = .ok (.lstore_n u, 1)) (hi : (u : Nat) = i) (hn : i + 1 < nL) (hl2 : (i, Value.long a) :: lv.filter (fun q => !(q.1 == i) && (!(q.1 == i + 1) && !(q.1 + 1 == i && q.2.category == 2))) = lv') (kk : V p l e R s m args below meth c P D Q nL n x f k z (pc + 1) lv' st) : V p l e R s m args below meth c P D Q nL n x f k z pc lv (.long a :: st) := fun H locs ls hP hz hS hl => lv_lstore_n C.1 C.2.1 hdg hi hl hn hl2 (fun ls' hl' => kk H locs ls' hP hz hS hl')
theorem v_dstore (C : Cx p l s m args meth c P D cc nL ret own) {i : Nat} {a : UInt64} {lv' : List (Nat × Value)} (hdg : decode cc pc = .ok (.dstore i, 2)) (hn : i + 1 < nL) (hl2 : (i, Value.double a) :: lv.filter (fun q => !(q.1 == i) && (!(q.1 == i + 1) && !(q.1 + 1 == i && q.2.category == 2))) = lv') (kk : V p l e R s m args below meth c P D Q nL n x f k z (pc + 2) lv' st) : V p l e R s m args below meth c P D Q nL n x f k z pc lv (.double a :: st) := fun H locs ls hP hz hS hl => lv_dstore C.1 C.2.1 hdg hl hn hl2 (fun ls' hl' => kk H locs ls' hP hz hS hl')
theorem v_iinc (C : Cx p l s m args meth c P D cc nL ret own) {i : Nat} {d : Int} {a b : Int32} {lv' : List (Nat × Value)} (q : Nat) (hdg : decode cc pc = .ok (.iinc i d, 3)) (hq : lv[q]? = some (i, .int a)) (hv : a + Int32.ofInt d = b) (hn : i < nL) (hl2 : (i, Value.int b) :: lv.filter (fun q => !(q.1 == i) && !(q.1 + 1 == i && q.2.category == 2)) = lv') (kk : V p l e R s m args below meth c P D Q nL n x f k z (pc + 3) lv' st) : V p l e R s m args below meth c P D Q nL n x f k z pc lv st := fun H locs ls hP hz hS hl => lv_iinc C.1 C.2.1 hdg hl hq hv hn hl2 (fun ls' hl' => kk H locs ls' hP hz hS hl')
theorem v_iadd (C : Cx p l s m args meth c P D cc nL ret own) {a b : Int32} (hdg : decode cc pc = .ok (.iadd, 1))  (kk : V p l e R s m args below meth c P D Q nL n x f k z (pc + 1) lv (.int (a + b) :: st)) : V p l e R s m args below meth c P D Q nL n x f k z pc lv (.int b :: .int a :: st) := fun H locs ls hP hz hS hl => lv_iadd C.1 C.2.1 hdg (kk H locs ls hP hz hS hl)
theorem v_isub (C : Cx p l s m args meth c P D cc nL ret own) {a b : Int32} (hdg : decode cc pc = .ok (.isub, 1))  (kk : V p l e R s m args below meth c P D Q nL n x f k z (pc + 1) lv (.int (a - b) :: st)) : V p l e R s m args below meth c P D Q nL n x f k z pc lv (.int b :: .int a :: st) := fun H locs ls hP hz hS hl => lv_isub C.1 C.2.1 hdg (kk H locs ls hP hz hS hl)
theorem v_imul (C : Cx p l s m args meth c P D cc nL ret own) {a b : Int32} (hdg : decode cc pc = .ok (.imul, 1))  (kk : V p l e R s m args below meth c P D Q nL n x f k z (pc + 1) lv (.int (a * b) :: st)) : V p l e R s m args below meth c P D Q nL n x f k z pc lv (.int b :: .int a :: st) := fun H locs ls hP hz hS hl => lv_imul C.1 C.2.1 hdg (kk H locs ls hP hz hS hl)
theorem v_iand (C : Cx p l s m args meth c P D cc nL ret own) {a b : Int32} (hdg : decode cc pc = .ok (.iand, 1))  (kk : V p l e R s m args below meth c P D Q nL n x f k z (pc + 1) lv (.int (a &&& b) :: st)) : V p l e R s m args below meth c P D Q nL n x f k z pc lv (.int b :: .int a :: st) := fun H locs ls hP hz hS hl => lv_iand C.1 C.2.1 hdg (kk H locs ls hP hz hS hl)
theorem v_idiv (C : Cx p l s m args meth c P D cc nL ret own) {a b : Int32} (hdg : decode cc pc = .ok (.idiv, 1)) (hne : ¬ b = 0) (kk : V p l e R s m args below meth c P D Q nL n x f k z (pc + 1) lv (.int (a / b) :: st)) : V p l e R s m args below meth c P D Q nL n x f k z pc lv (.int b :: .int a :: st) := fun H locs ls hP hz hS hl => lv_idiv C.1 C.2.1 hdg hne (kk H locs ls hP hz hS hl)
theorem v_irem (C : Cx p l s m args meth c P D cc nL ret own) {a b : Int32} (hdg : decode cc pc = .ok (.irem, 1)) (hne : ¬ b = 0) (kk : V p l e R s m args below meth c P D Q nL n x f k z (pc + 1) lv (.int (a - a / b * b) :: st)) : V p l e R s m args below meth c P D Q nL n x f k z pc lv (.int b :: .int a :: st) := fun H locs ls hP hz hS hl => lv_irem C.1 C.2.1 hdg hne (kk H locs ls hP hz hS hl)
theorem v_ladd (C : Cx p l s m args meth c P D cc nL ret own) {a b : Int64} (hdg : decode cc pc = .ok (.ladd, 1))  (kk : V p l e R s m args below meth c P D Q nL n x f k z (pc + 1) lv (.long (a + b) :: st)) : V p l e R s m args below meth c P D Q nL n x f k z pc lv (.long b :: .long a :: st) := fun H locs ls hP hz hS hl => lv_ladd C.1 C.2.1 hdg (kk H locs ls hP hz hS hl)
theorem v_lmul (C : Cx p l s m args meth c P D cc nL ret own) {a b : Int64} (hdg : decode cc pc = .ok (.lmul, 1))  (kk : V p l e R s m args below meth c P D Q nL n x f k z (pc + 1) lv (.long (a * b) :: st)) : V p l e R s m args below meth c P D Q nL n x f k z pc lv (.long b :: .long a :: st) := fun H locs ls hP hz hS hl => lv_lmul C.1 C.2.1 hdg (kk H locs ls hP hz hS hl)
theorem v_i2l (C : Cx p l s m args meth c P D cc nL ret own) {a : Int32} (hdg : decode cc pc = .ok (.i2l, 1))  (kk : V p l e R s m args below meth c P D Q nL n x f k z (pc + 1) lv (.long a.toInt64 :: st)) : V p l e R s m args below meth c P D Q nL n x f k z pc lv (.int a :: st) := fun H locs ls hP hz hS hl => lv_i2l C.1 C.2.1 hdg rfl (kk H locs ls hP hz hS hl)
theorem v_lcmp (C : Cx p l s m args meth c P D cc nL ret own) {a b : Int64} (hdg : decode cc pc = .ok (.lcmp, 1))  (kk : V p l e R s m args below meth c P D Q nL n x f k z (pc + 1) lv (.int (lg_cmp a b) :: st)) : V p l e R s m args below meth c P D Q nL n x f k z pc lv (.long b :: .long a :: st) := fun H locs ls hP hz hS hl => W.lcmp C.1 C.2.1 hdg (kk H locs ls hP hz hS hl)
theorem v_dup (C : Cx p l s m args meth c P D cc nL ret own) {a : Value} (hdg : decode cc pc = .ok (.dup, 1)) (ha : a.category = 1) (kk : V p l e R s m args below meth c P D Q nL n x f k z (pc + 1) lv (a :: a :: st)) : V p l e R s m args below meth c P D Q nL n x f k z pc lv (a :: st) := fun H locs ls hP hz hS hl => lv_dup C.1 C.2.1 hdg ha (kk H locs ls hP hz hS hl)
theorem v_dup2 (C : Cx p l s m args meth c P D cc nL ret own) {a b : Value} (hdg : decode cc pc = .ok (.dup2, 1)) (ha : a.category = 1) (hb : b.category = 1) (kk : V p l e R s m args below meth c P D Q nL n x f k z (pc + 1) lv (a :: b :: a :: b :: st)) : V p l e R s m args below meth c P D Q nL n x f k z pc lv (a :: b :: st) := fun H locs ls hP hz hS hl => lv_dup2_11 C.1 C.2.1 hdg ha hb (kk H locs ls hP hz hS hl)
theorem v_pop (C : Cx p l s m args meth c P D cc nL ret own) {a : Value} (hdg : decode cc pc = .ok (.pop, 1)) (ha : a.category = 1) (kk : V p l e R s m args below meth c P D Q nL n x f k z (pc + 1) lv st) : V p l e R s m args below meth c P D Q nL n x f k z pc lv (a :: st) := fun H locs ls hP hz hS hl => lv_pop C.1 C.2.1 hdg ha (kk H locs ls hP hz hS hl)
theorem v_if_eq (C : Cx p l s m args meth c P D cc nL ret own) {a : Int32} {off : Int} {tgt : Nat} (hdg : decode cc pc = .ok (.ifCond .eq off, 3)) (ht : (pc : Int) + off = (tgt : Int)) (kt : (a = 0) → V p l e R s m args below meth c P D Q nL n x f k z tgt lv st) (kf : ¬ (a = 0) → V p l e R s m args below meth c P D Q nL n x f k z (pc + 3) lv st) : V p l e R s m args below meth c P D Q nL n x f k z pc lv (.int a :: st) := fun H locs ls hP hz hS hl => lv_if_eq C.1 C.2.1 hdg ht (fun h => kt h H locs ls hP hz hS hl) (fun h => kf h H locs ls hP hz hS hl)
theorem v_icmp_eq (C : Cx p l s m args meth c P D cc nL ret own) {a b : Int32} {off : Int} {tgt : Nat} (hdg : decode cc pc = .ok (.if_icmp .eq off, 3)) (ht : (pc : Int) + off = (tgt : Int)) (kt : (a = b) → V p l e R s m args below meth c P D Q nL n x f k z tgt lv st) (kf : ¬ (a = b) → V p l e R s m args below meth c P D Q nL n x f k z (pc + 3) lv st) : V p l e R s m args below meth c P D Q nL n x f k z pc lv (.int b :: .int a :: st) := fun H locs ls hP hz hS hl => lv_icmp_eq C.1 C.2.1 hdg ht (fun h => kt h H locs ls hP hz hS hl) (fun h => kf h H locs ls hP hz hS hl)
theorem v_if_ne (C : Cx p l s m args meth c P D cc nL ret own) {a : Int32} {off : Int} {tgt : Nat} (hdg : decode cc pc = .ok (.ifCond .ne off, 3)) (ht : (pc : Int) + off = (tgt : Int)) (kt : (¬ a = 0) → V p l e R s m args below meth c P D Q nL n x f k z tgt lv st) (kf : a = 0 → V p l e R s m args below meth c P D Q nL n x f k z (pc + 3) lv st) : V p l e R s m args below meth c P D Q nL n x f k z pc lv (.int a :: st) := fun H locs ls hP hz hS hl => lv_if_ne C.1 C.2.1 hdg ht (fun h => kt h H locs ls hP hz hS hl) (fun h => kf h H locs ls hP hz hS hl)
theorem v_icmp_ne (C : Cx p l s m args meth c P D cc nL ret own) {a b : Int32} {off : Int} {tgt : Nat} (hdg : decode cc pc = .ok (.if_icmp .ne off, 3)) (ht : (pc : Int) + off = (tgt : Int)) (kt : (¬ a = b) → V p l e R s m args below meth c P D Q nL n x f k z tgt lv st) (kf : a = b → V p l e R s m args below meth c P D Q nL n x f k z (pc + 3) lv st) : V p l e R s m args below meth c P D Q nL n x f k z pc lv (.int b :: .int a :: st) := fun H locs ls hP hz hS hl => lv_icmp_ne C.1 C.2.1 hdg ht (fun h => kt h H locs ls hP hz hS hl) (fun h => kf h H locs ls hP hz hS hl)
theorem v_if_lt (C : Cx p l s m args meth c P D cc nL ret own) {a : Int32} {off : Int} {tgt : Nat} (hdg : decode cc pc = .ok (.ifCond .lt off, 3)) (ht : (pc : Int) + off = (tgt : Int)) (kt : (a < 0) → V p l e R s m args below meth c P D Q nL n x f k z tgt lv st) (kf : ¬ (a < 0) → V p l e R s m args below meth c P D Q nL n x f k z (pc + 3) lv st) : V p l e R s m args below meth c P D Q nL n x f k z pc lv (.int a :: st) := fun H locs ls hP hz hS hl => lv_if_lt C.1 C.2.1 hdg ht (fun h => kt h H locs ls hP hz hS hl) (fun h => kf h H locs ls hP hz hS hl)
theorem v_icmp_lt (C : Cx p l s m args meth c P D cc nL ret own) {a b : Int32} {off : Int} {tgt : Nat} (hdg : decode cc pc = .ok (.if_icmp .lt off, 3)) (ht : (pc : Int) + off = (tgt : Int)) (kt : (a < b) → V p l e R s m args below meth c P D Q nL n x f k z tgt lv st) (kf : ¬ (a < b) → V p l e R s m args below meth c P D Q nL n x f k z (pc + 3) lv st) : V p l e R s m args below meth c P D Q nL n x f k z pc lv (.int b :: .int a :: st) := fun H locs ls hP hz hS hl => lv_icmp_lt C.1 C.2.1 hdg ht (fun h => kt h H locs ls hP hz hS hl) (fun h => kf h H locs ls hP hz hS hl)
theorem v_if_ge (C : Cx p l s m args meth c P D cc nL ret own) {a : Int32} {off : Int} {tgt : Nat} (hdg : decode cc pc = .ok (.ifCond .ge off, 3)) (ht : (pc : Int) + off = (tgt : Int)) (kt : (0 ≤ a) → V p l e R s m args below meth c P D Q nL n x f k z tgt lv st) (kf : ¬ (0 ≤ a) → V p l e R s m args below meth c P D Q nL n x f k z (pc + 3) lv st) : V p l e R s m args below meth c P D Q nL n x f k z pc lv (.int a :: st) := fun H locs ls hP hz hS hl => lv_if_ge C.1 C.2.1 hdg ht (fun h => kt h H locs ls hP hz hS hl) (fun h => kf h H locs ls hP hz hS hl)
theorem v_icmp_ge (C : Cx p l s m args meth c P D cc nL ret own) {a b : Int32} {off : Int} {tgt : Nat} (hdg : decode cc pc = .ok (.if_icmp .ge off, 3)) (ht : (pc : Int) + off = (tgt : Int)) (kt : (b ≤ a) → V p l e R s m args below meth c P D Q nL n x f k z tgt lv st) (kf : ¬ (b ≤ a) → V p l e R s m args below meth c P D Q nL n x f k z (pc + 3) lv st) : V p l e R s m args below meth c P D Q nL n x f k z pc lv (.int b :: .int a :: st) := fun H locs ls hP hz hS hl => lv_icmp_ge C.1 C.2.1 hdg ht (fun h => kt h H locs ls hP hz hS hl) (fun h => kf h H locs ls hP hz hS hl)
theorem v_if_gt (C : Cx p l s m args meth c P D cc nL ret own) {a : Int32} {off : Int} {tgt : Nat} (hdg : decode cc pc = .ok (.ifCond .gt off, 3)) (ht : (pc : Int) + off = (tgt : Int)) (kt : (0 < a) → V p l e R s m args below meth c P D Q nL n x f k z tgt lv st) (kf : ¬ (0 < a) → V p l e R s m args below meth c P D Q nL n x f k z (pc + 3) lv st) : V p l e R s m args below meth c P D Q nL n x f k z pc lv (.int a :: st) := fun H locs ls hP hz hS hl => lv_if_gt C.1 C.2.1 hdg ht (fun h => kt h H locs ls hP hz hS hl) (fun h => kf h H locs ls hP hz hS hl)
theorem v_icmp_gt (C : Cx p l s m args meth c P D cc nL ret own) {a b : Int32} {off : Int} {tgt : Nat} (hdg : decode cc pc = .ok (.if_icmp .gt off, 3)) (ht : (pc : Int) + off = (tgt : Int)) (kt : (b < a) → V p l e R s m args below meth c P D Q nL n x f k z tgt lv st) (kf : ¬ (b < a) → V p l e R s m args below meth c P D Q nL n x f k z (pc + 3) lv st) : V p l e R s m args below meth c P D Q nL n x f k z pc lv (.int b :: .int a :: st) := fun H locs ls hP hz hS hl => lv_icmp_gt C.1 C.2.1 hdg ht (fun h => kt h H locs ls hP hz hS hl) (fun h => kf h H locs ls hP hz hS hl)
theorem v_if_le (C : Cx p l s m args meth c P D cc nL ret own) {a : Int32} {off : Int} {tgt : Nat} (hdg : decode cc pc = .ok (.ifCond .le off, 3)) (ht : (pc : Int) + off = (tgt : Int)) (kt : (a ≤ 0) → V p l e R s m args below meth c P D Q nL n x f k z tgt lv st) (kf : ¬ (a ≤ 0) → V p l e R s m args below meth c P D Q nL n x f k z (pc + 3) lv st) : V p l e R s m args below meth c P D Q nL n x f k z pc lv (.int a :: st) := fun H locs ls hP hz hS hl => lv_if_le C.1 C.2.1 hdg ht (fun h => kt h H locs ls hP hz hS hl) (fun h => kf h H locs ls hP hz hS hl)
theorem v_icmp_le (C : Cx p l s m args meth c P D cc nL ret own) {a b : Int32} {off : Int} {tgt : Nat} (hdg : decode cc pc = .ok (.if_icmp .le off, 3)) (ht : (pc : Int) + off = (tgt : Int)) (kt : (a ≤ b) → V p l e R s m args below meth c P D Q nL n x f k z tgt lv st) (kf : ¬ (a ≤ b) → V p l e R s m args below meth c P D Q nL n x f k z (pc + 3) lv st) : V p l e R s m args below meth c P D Q nL n x f k z pc lv (.int b :: .int a :: st) := fun H locs ls hP hz hS hl => lv_icmp_le C.1 C.2.1 hdg ht (fun h => kt h H locs ls hP hz hS hl) (fun h => kf h H locs ls hP hz hS hl)
theorem v_goto (C : Cx p l s m args meth c P D cc nL ret own) {off : Int} {tgt : Nat} (hdg : decode cc pc = .ok (.goto off, 3)) (ht : (pc : Int) + off = (tgt : Int)) (kk : V p l e R s m args below meth c P D Q nL n x f k z tgt lv st) : V p l e R s m args below meth c P D Q nL n x f k z pc lv st := fun H locs ls hP hz hS hl => lv_goto C.1 C.2.1 hdg ht (kk H locs ls hP hz hS hl)
theorem v_tableOut (C : Cx p l s m args meth c P D cc nL ret own) {dflt lo hi : Int} {offs : Array Int} {len : Nat} {a : Int32} {tgt : Nat} (hdg : decode cc pc = .ok (.tableswitch dflt lo hi offs, len)) (h : a.toInt < lo ∨ hi < a.toInt) (ht : (pc : Int) + dflt = (tgt : Int)) (kk : V p l e R s m args below meth c P D Q nL n x f k z tgt lv st) : V p l e R s m args below meth c P D Q nL n x f k z pc lv (.int a :: st) := fun H locs ls hP hz hS hl => lv_tableOut C.1 C.2.1 hdg h ht (kk H locs ls hP hz hS hl)
theorem v_tableIn (C : Cx p l s m args meth c P D cc nL ret own) {dflt lo hi : Int} {offs : Array Int} {len : Nat} {a : Int32} {off : Int} {tgt : Nat} (hdg : decode cc pc = .ok (.tableswitch dflt lo hi offs, len)) (h1 : ¬ a.toInt < lo) (h2 : ¬ hi < a.toInt) (ho : offs[(a.toInt - lo).toNat]? = some off) (ht : (pc : Int) + off = (tgt : Int)) (kk : V p l e R s m args below meth c P D Q nL n x f k z tgt lv st) : V p l e R s m args below meth c P D Q nL n x f k z pc lv (.int a :: st) := fun H locs ls hP hz hS hl => lv_tableIn C.1 C.2.1 hdg h1 h2 ho ht (kk H locs ls hP hz hS hl)
theorem v_lookup (C : Cx p l s m args meth c P D cc nL ret own) {dflt : Int} {ps : Array (Int × Int)} {len : Nat} {a : Int32} {off : Int} {tgt : Nat} (hdg : decode cc pc = .ok (.lookupswitch dflt ps, len)) (hp : (ps.toList.zip (ps.toList.drop 1)).all (fun (a, next) => a.1 < next.1) = true) (ho : Op.lookupswitch.offset ps.toList dflt a.toInt = off) (ht : (pc : Int) + off = (tgt : Int)) (kk : V p l e R s m args below meth c P D Q nL n x f k z tgt lv st) : V p l e R s m args below meth c P D Q nL n x f k z pc lv (.int a :: st) := fun H locs ls hP hz hS hl => lv_lookup C.1 C.2.1 hdg hp ho ht (kk H locs ls hP hz hS hl)
theorem v_lv {lv' : List (Nat × Value)} (ks : List Nat) (h : lv_pick lv ks = lv') (kk : V p l e R s m args below meth c P D Q nL n x f k z pc lv' st) : V p l e R s m args below meth c P D Q nL n x f k z pc lv st := fun H locs ls hP hz hS hl => kk H locs ls hP hz hS (lv_sub hl ks h)
theorem v_top {a : Int32} (kk : ∀ b : Int32, b = a → V p l e R s m args below meth c P D Q nL n x f k z pc lv (.int b :: st)) : V p l e R s m args below meth c P D Q nL n x f k z pc lv (.int a :: st) := kk a rfl
theorem v_eq {f' : Nat → va_E} (h : f = f') (kk : V p l e R s m args below meth c P D Q nL n x f' k z pc lv st) : V p l e R s m args below meth c P D Q nL n x f k z pc lv st := by rw [h]; exact kk
theorem v_widen {k' z' : Nat} (h1 : k ≤ k') (h2 : z ≤ z') (kk : V p l e R s m args below meth c P D Q nL n x f k' z' pc lv st) : V p l e R s m args below meth c P D Q nL n x f k z pc lv st := fun H locs ls hP hz hS hl => W.widen h1 h2 (kk H locs ls hP hz hS hl)
theorem v_min (C : Cx p l s m args meth c P D cc nL ret own) {index : Nat} {a b : Int32} (hdg : decode cc pc = .ok (.invokestatic index, 3)) (hlink : Cond.methodLink own index Lib.Math.min.name ∈ gtb) (hstat : Cond.static Lib.Math.min.name ∈ gtb) (hini : Cond.initialized "java/lang/Math" ∈ gtb) (hcode : Cond.code Lib.Math.min.name Lib.Math.min.code 2 (some .int) ∈ gtb) (hR : 1 ≤ R.frames) (hlo : (st.map fun v => v.category).sum + 13 ≤ R.locals) (hc : k ≤ R.cells) (hs : z ≤ R.slots) (kk : V p l e R s m args below meth c P D Q nL n x f k z (pc + 3) lv (.int (if b < a then b else a) :: st)) : V p l e R s m args below meth c P D Q nL n x f k z pc lv (.int b :: .int a :: st) := by
  intro H locs ls hP hz hS hl
  obtain ⟨hx, hb, hml, hown, hts, -⟩ := C
  exact va_mmin hx hb (hml.trans hl.1.symm) hown (hts _ hlink) (hts _ hstat) (hts _ hini) (hts _ hcode) hR hlo hc hs hdg (kk H locs ls hP hz hS hl)
theorem v_max (C : Cx p l s m args meth c P D cc nL ret own) {index : Nat} {a b : Int32} (hdg : decode cc pc = .ok (.invokestatic index, 3)) (hlink : Cond.methodLink own index Lib.Math.max.name ∈ gtb) (hstat : Cond.static Lib.Math.max.name ∈ gtb) (hini : Cond.initialized "java/lang/Math" ∈ gtb) (hcode : Cond.code Lib.Math.max.name Lib.Math.max.code 2 (some .int) ∈ gtb) (hR : 1 ≤ R.frames) (hlo : (st.map fun v => v.category).sum + 13 ≤ R.locals) (hc : k ≤ R.cells) (hs : z ≤ R.slots) (kk : V p l e R s m args below meth c P D Q nL n x f k z (pc + 3) lv (.int (if a < b then b else a) :: st)) : V p l e R s m args below meth c P D Q nL n x f k z pc lv (.int b :: .int a :: st) := by
  intro H locs ls hP hz hS hl
  obtain ⟨hx, hb, hml, hown, hts, -⟩ := C
  exact va_mmax hx hb (hml.trans hl.1.symm) hown (hts _ hlink) (hts _ hstat) (hts _ hini) (hts _ hcode) hR hlo hc hs hdg (kk H locs ls hP hz hS hl)
theorem v_ldc2 (C : Cx p l s m args meth c P D cc nL ret own) {index : Nat} {v : Int64} (hdg : decode cc pc = .ok (.ldc2_w index, 3)) (hk : Cond.constantLong own index v ∈ gtb) (kk : V p l e R s m args below meth c P D Q nL n x f k z (pc + 3) lv (.long v :: st)) : V p l e R s m args below meth c P D Q nL n x f k z pc lv st := fun H locs ls hP hz hS hl => lv_ldc2 C.1 C.2.1 C.2.2.2.1 (C.2.2.2.2.1 _ hk) hdg (kk H locs ls hP hz hS hl)
end VRows
end
section
/-! ROWS THAT READ AND WRITE CELLS -/
section VHeap
variable {p : Program} {l : Launch} {e : Env} {R : Room} {s : State} {m : MethodId} {args : Array Value} {below : List Frame} {meth : Method} {c : Code} {P : L5} {D : va_G} {Q : State → Prop} {nL n : Nat} {x : Prop} {f : Nat → va_E} {k z pc : Nat} {lv : List (Nat × Value)} {st : List Value} {cc : ByteArray} {ret : Option FieldType} {own : String}
variable {N F T : Nat → Nat → Int32} {K : Nat → Int32} {A : Nat → Nat → Int32} {w : Int64}
theorem v_get (C : Cx p l s m args meth c P D cc nL ret own) (q : Nat × Nat) (hq : kd (ik q) = q ∧ ik q < 90) {ci : Nat} {r : vw_C} {fs : List Value} (hc : vwCl[ci]? = some r) (hfs : cK P N F T K A w q = .inr (ci, fs)) (hin : ∀ w ∈ u_ws r.1 r.2.1 r.2.2, w ∈ gtb) (kf : Nat) (hk : kf < r.2.2) {index : Nat} (hlink : Cond.fieldLink own index (r.2.1 kf).1 (r.2.1 kf).2.1 (r.2.1 kf).2.2.1 ∈ gtb) {u : Value} (hv : fs[kf]? = some u) (hdg : decode cc pc = .ok (.getfield index, 3)) (kk : V p l e R s m args below meth c P D Q nL (nW P) False (cw P N F T K A w) k z (pc + 3) lv (u :: st)) : V p l e R s m args below meth c P D Q nL (nW P) False (cw P N F T K A w) k z pc lv (.ref (P.1 + ik q) :: st) := by
  intro H locs ls hP hz hS hl
  obtain ⟨hx, hb, hml, hown, hts, hr, hlk, hK, ho, hST⟩ := C
  exact va_get hx hb hts hin hown hK hP (ik q) (by rw [cw_get q hq.1 hq.2, hfs]) hc kf hk (hts _ hlink) (fun _ h9 => h9) hv hdg (kk H locs ls hP hz hS hl)
theorem v_put (C : Cx p l s m args meth c P D cc nL ret own) {N' F' T' : Nat → Nat → Int32} {K' : Nat → Int32} (q : Nat × Nat) (hq : kd (ik q) = q ∧ ik q < 90) {ci : Nat} {r : vw_C} {fs : List Value} (hc : vwCl[ci]? = some r) (hfs : cK P N F T K A w q = .inr (ci, fs)) (hin : ∀ w ∈ u_ws r.1 r.2.1 r.2.2, w ∈ gtb) (ty0 : Nat → FieldType) (hty : ∀ k, k < r.2.2 → parseFieldDescriptor (r.2.1 k).2.2.1 = some (ty0 k)) (hnm : ∀ a, a < r.2.2 → ∀ b, b < r.2.2 → a ≠ b → (r.2.1 a).2.1 ≠ (r.2.1 b).2.1) (kf : Nat) (hk : kf < r.2.2) (hti : ty0 kf = .int) (hfin : (r.2.1 kf).2.2.2 = false) (hlen : kf < fs.length) {index : Nat} (hlink : Cond.fieldLink own index (r.2.1 kf).1 (r.2.1 kf).2.1 (r.2.1 kf).2.2.1 ∈ gtb) {a : Int32} (hdg : decode cc pc = .ok (.putfield index, 3)) (he : cK P N' F' T' K' A w q = .inr (ci, fs.set kf (.int a))) (ho9 : ∀ q', q' ≠ q → (∃ a, a < 91 ∧ kd a = q') → cK P N' F' T' K' A w q' = cK P N F T K A w q') (kk : V p l e R s m args below meth c P D Q nL (nW P) False (cw P N' F' T' K' A w) k z (pc + 3) lv st) : V p l e R s m args below meth c P D Q nL (nW P) False (cw P N F T K A w) k z pc lv (.int a :: .ref (P.1 + ik q) :: st) := by
  intro H locs ls hP hz hS hl
  obtain ⟨hx, hb, hml, hown, hts, hr, hlk, hK, ho, hST⟩ := C
  refine va_put (ty := .int) hx hb hts hin ty0 hty hnm hown hK hP (wl_D _ _ _) hS (ik q) (by rw [cw_get q hq.1 hq.2, hfs]) hc kf hk (hts _ hlink) (fun _ h9 => h9) hfin (by rw [hty kf hk, hti]) (vp_nar_int a) rfl hlen hdg (fun H1 locs1 hP1 _ hS1 => ?_)
  rw [cw_set (P := P) (N := N) (F := F) (T := T) (K := K) (A := A) (w := w) (N' := N') (F' := F') (T' := T') (K' := K') (A' := A) (w' := w) q hq.1 hq.2 he ho9] at hP1
  exact kk H1 locs1 ls hP1 (fun h9 => h9.elim) hS1 hl
theorem v_getN (C : Cx p l s m args meth c P D cc nL ret own) (q : Nat × Nat) (hq : kd (ik q) = q ∧ ik q < 90) {ci : Nat} {r : vw_C} {fs : List Value} (hc : vwCl[ci]? = some r) (hfs : cK P N F T K A w q = .inr (ci, fs)) (hin : ∀ w ∈ u_ws r.1 r.2.1 r.2.2, w ∈ gtb) (kf : Nat) (hk : kf < r.2.2) {index : Nat} (hlink : (own, index, (r.2.1 kf).1, (r.2.1 kf).2.1, (r.2.1 kf).2.2.1) ∈ nwF) {u : Value} (hv : fs[kf]? = some u) (hdg : decode cc pc = .ok (.getfield index, 3)) (kk : V p l e R s m args below meth c P D Q nL (nW P) False (cw P N F T K A w) k z (pc + 3) lv (u :: st)) : V p l e R s m args below meth c P D Q nL (nW P) False (cw P N F T K A w) k z pc lv (.ref (P.1 + ik q) :: st) := by
  intro H locs ls hP hz hS hl
  obtain ⟨hx, hb, hml, hown, hts, hr, hlk, hK, ho, hST⟩ := C
  exact va_getN hx hb hts hin hown hK hP (ik q) (by rw [cw_get q hq.1 hq.2, hfs]) hc kf hk (va_Nw.use rfl (hST.2.2.2.1 _ hlink)) (fun _ h9 => h9) hv hdg (kk H locs ls hP hz hS hl)
theorem v_putN (C : Cx p l s m args meth c P D cc nL ret own) {N' F' T' : Nat → Nat → Int32} {K' : Nat → Int32} (q : Nat × Nat) (hq : kd (ik q) = q ∧ ik q < 90) {ci : Nat} {r : vw_C} {fs : List Value} (hc : vwCl[ci]? = some r) (hfs : cK P N F T K A w q = .inr (ci, fs)) (hin : ∀ w ∈ u_ws r.1 r.2.1 r.2.2, w ∈ gtb) (ty0 : Nat → FieldType) (hty : ∀ k, k < r.2.2 → parseFieldDescriptor (r.2.1 k).2.2.1 = some (ty0 k)) (hnm : ∀ a, a < r.2.2 → ∀ b, b < r.2.2 → a ≠ b → (r.2.1 a).2.1 ≠ (r.2.1 b).2.1) (kf : Nat) (hk : kf < r.2.2) (hti : ty0 kf = .int) (hfin : (r.2.1 kf).2.2.2 = false) (hlen : kf < fs.length) {index : Nat} (hlink : (own, index, (r.2.1 kf).1, (r.2.1 kf).2.1, (r.2.1 kf).2.2.1) ∈ nwF) {a : Int32} (hdg : decode cc pc = .ok (.putfield index, 3)) (he : cK P N' F' T' K' A w q = .inr (ci, fs.set kf (.int a))) (ho9 : ∀ q', q' ≠ q → (∃ a, a < 91 ∧ kd a = q') → cK P N' F' T' K' A w q' = cK P N F T K A w q') (kk : V p l e R s m args below meth c P D Q nL (nW P) False (cw P N' F' T' K' A w) k z (pc + 3) lv st) : V p l e R s m args below meth c P D Q nL (nW P) False (cw P N F T K A w) k z pc lv (.int a :: .ref (P.1 + ik q) :: st) := by
  intro H locs ls hP hz hS hl
  obtain ⟨hx, hb, hml, hown, hts, hr, hlk, hK, ho, hST⟩ := C
  refine va_putN (ty := .int) hx hb hts hin ty0 hty hnm hown hK hP (wl_D _ _ _) hS (ik q) (by rw [cw_get q hq.1 hq.2, hfs]) hc kf hk (va_Nw.use rfl (hST.2.2.2.1 _ hlink)) (fun _ h9 => h9) hfin (by rw [hty kf hk, hti]) (vp_nar_int a) rfl hlen hdg (fun H1 locs1 hP1 _ hS1 => ?_)
  rw [cw_set (P := P) (N := N) (F := F) (T := T) (K := K) (A := A) (w := w) (N' := N') (F' := F') (T' := T') (K' := K') (A' := A) (w' := w) q hq.1 hq.2 he ho9] at hP1
  exact kk H1 locs1 ls hP1 (fun h9 => h9.elim) hS1 hl
theorem v_ldG (C : Cx p l s m args meth c P D cc nL ret own) (q : Nat × Nat) (hq : kd (ik q) = q ∧ ik q < 90) {len : Nat} {g : Nat → Int32} (hg : cK P N F T K A w q = .inl (P.2.1, len, .inl g)) {i a : Int32} (hin : vp_in i len) (ha : g i.toNatClampNeg = a) (hdg : decode cc pc = .ok (.iaload, 1)) (kk : V p l e R s m args below meth c P D Q nL (nW P) False (cw P N F T K A w) k z (pc + 1) lv (.int a :: st)) : V p l e R s m args below meth c P D Q nL (nW P) False (cw P N F T K A w) k z pc lv (.int i :: .ref (P.1 + ik q) :: st) := by
  intro H locs ls hP hz hS hl
  obtain ⟨hx, hb, hml, hown, hts, hr, hlk, hK, ho, hST⟩ := C
  refine va_iald hx hb hK hP (ik q) 0 (by rw [cw_get q hq.1 hq.2, hg]) rfl hin hdg ?_
  rw [ha]
  exact kk H locs ls hP hz hS hl
theorem v_lenG (C : Cx p l s m args meth c P D cc nL ret own) (q : Nat × Nat) (hq : kd (ik q) = q ∧ ik q < 90) {len : Nat} {g : Nat → Int32} (hg : cK P N F T K A w q = .inl (P.2.1, len, .inl g)) {a : Int32} (ha : Int32.ofNat len = a) (hdg : decode cc pc = .ok (.arraylength, 1)) (kk : V p l e R s m args below meth c P D Q nL (nW P) False (cw P N F T K A w) k z (pc + 1) lv (.int a :: st)) : V p l e R s m args below meth c P D Q nL (nW P) False (cw P N F T K A w) k z pc lv (.ref (P.1 + ik q) :: st) := by
  intro H locs ls hP hz hS hl
  obtain ⟨hx, hb, hml, hown, hts, hr, hlk, hK, ho, hST⟩ := C
  exact va_alen hx hb hK hP (ik q) 0 (by rw [cw_get q hq.1 hq.2, hg]) rfl ha hdg (kk H locs ls hP hz hS hl)
theorem v_stG (C : Cx p l s m args meth c P D cc nL ret own) {N' : Nat → Nat → Int32} {A' : Nat → Nat → Int32} (q : Nat × Nat) (hq : kd (ik q) = q ∧ ik q < 90) {len : Nat} {g : Nat → Int32} (hg : cK P N F T K A w q = .inl (P.2.1, len, .inl g)) {i a : Int32} (hin : vp_in i len) (hdg : decode cc pc = .ok (.iastore, 1)) (he : cK P N' F T K A' w q = .inl (P.2.1, len, .inl (upd g i.toNatClampNeg a))) (ho9 : ∀ q', q' ≠ q → (∃ a, a < 91 ∧ kd a = q') → cK P N' F T K A' w q' = cK P N F T K A w q') (kk : V p l e R s m args below meth c P D Q nL (nW P) False (cw P N' F T K A' w) k z (pc + 1) lv st) : V p l e R s m args below meth c P D Q nL (nW P) False (cw P N F T K A w) k z pc lv (.int a :: .int i :: .ref (P.1 + ik q) :: st) := by
  intro H locs ls hP hz hS hl
  obtain ⟨hx, hb, hml, hown, hts, hr, hlk, hK, ho, hST⟩ := C
  refine va_iast hx hb hK hP (wl_D _ _ _) hS (ik q) 0 (by rw [cw_get q hq.1 hq.2, hg]) rfl hin hdg (fun H1 locs1 hP1 _ hS1 => ?_)
  rw [cw_set (P := P) (N := N) (F := F) (T := T) (K := K) (A := A) (w := w) (N' := N') (F' := F) (T' := T) (K' := K) (A' := A') (w' := w) q hq.1 hq.2 he ho9] at hP1
  exact kk H1 locs1 ls hP1 (fun h9 => h9.elim) hS1 hl
theorem v_aaN (C : Cx p l s m args meth c P D cc nL ret own) {t : Nat} (ht : t < 2) {i : Int32} (hin : vp_in i 12) (hdg : decode cc pc = .ok (.aaload, 1)) (kk : V p l e R s m args below meth c P D Q nL (nW P) False (cw P N F T K A w) k z (pc + 1) lv (.ref (rN P (12 * t + i.toNatClampNeg)) :: st)) : V p l e R s m args below meth c P D Q nL (nW P) False (cw P N F T K A w) k z pc lv (.int i :: .ref (rNA P t) :: st) := by
  intro H locs ls hP hz hS hl
  obtain ⟨hx, hb, hml, hown, hts, hr, hlk, hK, ho, hST⟩ := C
  exact va_aldq hx hb hK hP (ik (2, t)) 1 (cw_get (2, t) (kdNA t ht).1 (kdNA t ht).2) rfl hin hdg (kk H locs ls hP hz hS hl)
theorem v_aaF (C : Cx p l s m args meth c P D cc nL ret own) {t : Nat} (ht : t < 2) {i : Int32} (hin : vp_in i 4) (hdg : decode cc pc = .ok (.aaload, 1)) (kk : V p l e R s m args below meth c P D Q nL (nW P) False (cw P N F T K A w) k z (pc + 1) lv (.ref (rF P (4 * t + i.toNatClampNeg)) :: st)) : V p l e R s m args below meth c P D Q nL (nW P) False (cw P N F T K A w) k z pc lv (.int i :: .ref (rFA P t) :: st) := by
  intro H locs ls hP hz hS hl
  obtain ⟨hx, hb, hml, hown, hts, hr, hlk, hK, ho, hST⟩ := C
  exact va_aldq hx hb hK hP (ik (6, t)) 2 (cw_get (6, t) (kdFA t ht).1 (kdFA t ht).2) rfl hin hdg (kk H locs ls hP hz hS hl)
theorem v_gS (C : Cx p l s m args meth c P D cc nL ret own) (b : Nat) {q : String × String × (Nat → Int32)} (hq : stQ[b]? = some q) {index : Nat} (hlink : Cond.fieldLink own index q.1 q.2.1 "[I" ∈ gtb) (hdg : decode cc pc = .ok (.getstatic index, 3)) (kk : V p l e R s m args below meth c P D Q nL n x f k z (pc + 3) lv (.ref (rS P b) :: st)) : V p l e R s m args below meth c P D Q nL n x f k z pc lv st := by
  intro H locs ls hP hz hS hl
  obtain ⟨hx, hb, hml, hown, hts, hr, hlk, hK, ho, hST⟩ := C
  exact va_gets hx hb (hST.1 b q hq).1 hS hown (hts _ hlink) (fun _ h9 => h9) hdg (kk H locs ls hP hz hS hl)
theorem v_gSN (C : Cx p l s m args meth c P D cc nL ret own) (b : Nat) {q : String × String × (Nat → Int32)} (hq : stQ[b]? = some q) {index : Nat} (hlink : (own, index, q.1, q.2.1, "[I") ∈ nwF) (hdg : decode cc pc = .ok (.getstatic index, 3)) (kk : V p l e R s m args below meth c P D Q nL n x f k z (pc + 3) lv (.ref (rS P b) :: st)) : V p l e R s m args below meth c P D Q nL n x f k z pc lv st := by
  intro H locs ls hP hz hS hl
  obtain ⟨hx, hb, hml, hown, hts, hr, hlk, hK, ho, hST⟩ := C
  exact va_getsN hx hb (hST.1 b q hq).1 hS hown (va_Nw.use rfl (hST.2.2.2.1 _ hlink)) (fun _ h9 => h9) hdg (kk H locs ls hP hz hS hl)
theorem v_ldS (C : Cx p l s m args meth c P D cc nL ret own) (b : Nat) {q : String × String × (Nat → Int32)} (hq : stQ[b]? = some q) {i : Int32} (hin : vp_in i 4) (hdg : decode cc pc = .ok (.iaload, 1)) (kk : V p l e R s m args below meth c P D Q nL n x f k z (pc + 1) lv (.int (q.2.2 i.toNatClampNeg) :: st)) : V p l e R s m args below meth c P D Q nL n x f k z pc lv (.int i :: .ref (rS P b) :: st) := by
  intro H locs ls hP hz hS hl
  obtain ⟨hx, hb, hml, hown, hts, hr, hlk, hK, ho, hST⟩ := C
  exact va_ti hx hb (hST.1 b q hq).2 hS hin rfl hdg (kk H locs ls hP hz hS hl)
theorem cK_frN {N1 N2 : Nat → Nat → Int32} {j : Nat} (h : ∀ i, i ≠ j → N1 i = N2 i) {q' : Nat × Nat} (h3 : q' ≠ (3, j) ∨ ∀ t, t < 12 → N1 j t = N2 j t) (h4 : q' ≠ (4, j) ∨ ∀ t, t < 4 → N1 j (12 + t) = N2 j (12 + t)) (h5 : q' ≠ (5, j) ∨ ∀ t, t < 4 → N1 j (16 + t) = N2 j (16 + t)) : cK P N1 F T K A w q' = cK P N2 F T K A w q' := by
  obtain ⟨κ, i⟩ := q'
  by_cases hi : i = j
  · subst hi
    match κ with
    | 0 => rfl
    | 1 => rfl
    | 2 => rfl
    | 3 =>
      have g := h3.resolve_left (fun z => z rfl)
      simp only [cK, g 0 (by omega), g 1 (by omega), g 2 (by omega), g 3 (by omega), g 4 (by omega), g 5 (by omega), g 6 (by omega), g 7 (by omega), g 8 (by omega), g 9 (by omega), g 10 (by omega), g 11 (by omega)]
    | 4 =>
      have g := h4.resolve_left (fun z => z rfl)
      have e : (fun t => if t < 4 then N1 i (12 + t) else 0) = (fun t => if t < 4 then N2 i (12 + t) else 0) := by
        funext t
        by_cases ht : t < 4
        · rw [if_pos ht, if_pos ht, g t ht]
        · rw [if_neg ht, if_neg ht]
      simp only [cK, e]
    | 5 =>
      have g := h5.resolve_left (fun z => z rfl)
      have e : (fun t => if t < 4 then N1 i (16 + t) else 0) = (fun t => if t < 4 then N2 i (16 + t) else 0) := by
        funext t
        by_cases ht : t < 4
        · rw [if_pos ht, if_pos ht, g t ht]
        · rw [if_neg ht, if_neg ht]
      simp only [cK, e]
    | 6 => rfl
    | 7 => rfl
    | 8 => rfl
    | 9 => rfl
    | κ + 10 => rfl
  · have e := h i hi
    match κ with
    | 0 => rfl
    | 1 => rfl
    | 2 => rfl
    | 3 => simp only [cK, e]
    | 4 => simp only [cK, e]
    | 5 => simp only [cK, e]
    | 6 => rfl
    | 7 => rfl
    | 8 => rfl
    | 9 => rfl
    | κ + 10 => rfl
theorem cK_frF {F1 F2 : Nat → Nat → Int32} {j : Nat} (h : ∀ i, i ≠ j → F1 i = F2 i) {q' : Nat × Nat} (h3 : q' ≠ (7, j)) : cK P N F1 T K A w q' = cK P N F2 T K A w q' := by
  obtain ⟨κ, i⟩ := q'
  match κ with
  | 0 => rfl
  | 1 => rfl
  | 2 => rfl
  | 3 => rfl
  | 4 => rfl
  | 5 => rfl
  | 6 => rfl
  | 7 =>
    have e := h i (fun z => h3 (by rw [z]))
    simp only [cK, e]
  | 8 => rfl
  | 9 => rfl
  | κ + 10 => rfl
theorem cK_frT {T1 T2 : Nat → Nat → Int32} {j : Nat} (h : ∀ i, i ≠ j → T1 i = T2 i) {q' : Nat × Nat} (h3 : q' ≠ (1, j)) : cK P N F T1 K A w q' = cK P N F T2 K A w q' := by
  obtain ⟨κ, i⟩ := q'
  match κ with
  | 0 => rfl
  | 1 =>
    have e := h i (fun z => h3 (by rw [z]))
    simp only [cK, e]
  | 2 => rfl
  | 3 => rfl
  | 4 => rfl
  | 5 => rfl
  | 6 => rfl
  | 7 => rfl
  | 8 => rfl
  | 9 => rfl
  | κ + 10 => rfl
theorem cK_frA {A1 A2 : Nat → Nat → Int32} {j : Nat} (h : ∀ i, i ≠ j → A1 i = A2 i) {q' : Nat × Nat} (h3 : q' ≠ (9, j)) : cK P N F T K A1 w q' = cK P N F T K A2 w q' := by
  obtain ⟨κ, i⟩ := q'
  match κ with
  | 0 => rfl
  | 1 => rfl
  | 2 => rfl
  | 3 => rfl
  | 4 => rfl
  | 5 => rfl
  | 6 => rfl
  | 7 => rfl
  | 8 => rfl
  | 9 =>
    have e := h i (fun z => h3 (by rw [z]))
    simp only [cK, e]
  | κ + 10 => rfl
theorem cK_frK {K1 K2 : Nat → Int32} {q' : Nat × Nat} (h3 : q'.1 ≠ 8) : cK P N F T K1 A w q' = cK P N F T K2 A w q' := by
  obtain ⟨κ, i⟩ := q'
  match κ with
  | 0 => rfl
  | 1 => rfl
  | 2 => rfl
  | 3 => rfl
  | 4 => rfl
  | 5 => rfl
  | 6 => rfl
  | 7 => rfl
  | 8 => exact absurd rfl h3
  | 9 => rfl
  | κ + 10 => rfl
theorem up_off {α : Type} {f : Nat → α} {j : Nat} {a b : α} : ∀ i, i ≠ j → va_up f j a i = va_up f j b i := fun i hi => by rw [va_up_ne _ _ hi, va_up_ne _ _ hi]
/-- the fields of a nailer, of a fogger, of a trade, of the model, by their rows of numbers -/
def nF (P : L5) (j : Nat) (v : Nat → Int32) : List Value := [.int (v 0), .int (v 1), .int (v 2), .int (v 3), .int (v 4), .int (v 5), .int (v 6), .int (v 7), .int (v 8), .int (v 9), .int (v 10), .int (v 11), .ref (rL P j), .ref (rB P j)]
def fF (v : Nat → Int32) : List Value := [.int (v 0), .int (v 1), .int (v 2), .int (v 3), .int (v 4), .int (v 5)]
def tF (P : L5) (t : Nat) (v : Nat → Int32) : List Value := [.int (v 0), .int (v 1), .ref (rNA P t), .ref (rFA P t)]
def xF (P : L5) : List Value := [.ref (rT P 0), .ref (rT P 1), .ref (rN P 24)]
def mF (P : L5) (v : Nat → Int32) : List Value := [.int (v 0), .int (v 1), .int (v 2), .ref (rA P 0), .ref (rA P 1), .ref (rA P 2), .ref (rA P 3), .ref (rA P 4)]
theorem cK3 {j : Nat} {v : Nat → Int32} : cK P (va_up N j v) F T K A w (3, j) = .inr (1, nF P j v) := by
  simp only [cK, nF, va_up_self]
theorem cK4 {j : Nat} {v : Nat → Int32} : cK P (va_up N j v) F T K A w (4, j) = .inl (P.2.1, 4, .inl (fun i => if i < 4 then v (12 + i) else 0)) := by
  simp only [cK, va_up_self]
theorem cK5 {j : Nat} {v : Nat → Int32} : cK P (va_up N j v) F T K A w (5, j) = .inl (P.2.1, 4, .inl (fun i => if i < 4 then v (16 + i) else 0)) := by
  simp only [cK, va_up_self]
theorem cK7 {j : Nat} {v : Nat → Int32} : cK P N (va_up F j v) T K A w (7, j) = .inr (0, fF v) := by
  simp only [cK, fF, va_up_self]
theorem cK1 {j : Nat} {v : Nat → Int32} : cK P N F (va_up T j v) K A w (1, j) = .inr (2, tF P j v) := by
  simp only [cK, tF, va_up_self]
theorem nF_set {j : Nat} {v : Nat → Int32} {a : Int32} : ∀ kf, kf < 12 → nF P j (upd v kf a) = (nF P j v).set kf (.int a) := by
  intro kf hk
  rcases (show kf = 0 ∨ kf = 1 ∨ kf = 2 ∨ kf = 3 ∨ kf = 4 ∨ kf = 5 ∨ kf = 6 ∨ kf = 7 ∨ kf = 8 ∨ kf = 9 ∨ kf = 10 ∨ kf = 11 by omega) with rfl | rfl | rfl | rfl | rfl | rfl | rfl | rfl | rfl | rfl | rfl | rfl <;> rfl
theorem fF_set {v : Nat → Int32} {a : Int32} : ∀ kf, kf < 6 → fF (upd v kf a) = (fF v).set kf (.int a) := by
  intro kf hk
  rcases (show kf = 0 ∨ kf = 1 ∨ kf = 2 ∨ kf = 3 ∨ kf = 4 ∨ kf = 5 by omega) with rfl | rfl | rfl | rfl | rfl | rfl <;> rfl
theorem tF_set {t : Nat} {v : Nat → Int32} {a : Int32} : ∀ kf, kf < 2 → tF P t (upd v kf a) = (tF P t v).set kf (.int a) := by
  intro kf hk
  rcases (show kf = 0 ∨ kf = 1 by omega) with rfl | rfl <;> rfl
theorem upd_ge {v : Nat → Int32} {kf t : Nat} {a : Int32} (h : t ≠ kf) : upd v kf a t = v t := if_neg h
theorem tyN_int : ∀ kf, kf < 12 → tyX1 kf = .int ∧ (TX1 kf).2.2.2 = false := by decide +kernel
theorem tyF_int : ∀ kf, kf < 6 → tyX0 kf = .int ∧ (TX0 kf).2.2.2 = false := by decide +kernel
theorem tyT_int : ∀ kf, kf < 2 → tyX2 kf = .int ∧ (TX2 kf).2.2.2 = false := by decide +kernel
theorem v_gN (C : Cx p l s m args meth c P D cc nL ret own) {j : Nat} {v : Nat → Int32} (hj : j < 25) (kf : Nat) (hk : kf < 14) {index : Nat} (hlink : Cond.fieldLink own index (((RX1, TX1, 14)).2.1 kf).1 (((RX1, TX1, 14)).2.1 kf).2.1 (((RX1, TX1, 14)).2.1 kf).2.2.1 ∈ gtb) {u : Value} (hv : (nF P j v)[kf]? = some u) (hdg : decode cc pc = .ok (.getfield index, 3)) (kk : V p l e R s m args below meth c P D Q nL (nW P) False (cw P (va_up N j v) F T K A w) k z (pc + 3) lv (u :: st)) : V p l e R s m args below meth c P D Q nL (nW P) False (cw P (va_up N j v) F T K A w) k z pc lv (.ref (rN P j) :: st) := v_get C (3, j) (kdN j hj) (ci := 1) (r := (RX1, TX1, 14)) rfl cK3 inX1g kf hk hlink hv hdg kk
theorem v_gF (C : Cx p l s m args meth c P D cc nL ret own) {j : Nat} {v : Nat → Int32} (hj : j < 8) (kf : Nat) (hk : kf < 6) {index : Nat} (hlink : Cond.fieldLink own index (((RX0, TX0, 6)).2.1 kf).1 (((RX0, TX0, 6)).2.1 kf).2.1 (((RX0, TX0, 6)).2.1 kf).2.2.1 ∈ gtb) {u : Value} (hv : (fF v)[kf]? = some u) (hdg : decode cc pc = .ok (.getfield index, 3)) (kk : V p l e R s m args below meth c P D Q nL (nW P) False (cw P N (va_up F j v) T K A w) k z (pc + 3) lv (u :: st)) : V p l e R s m args below meth c P D Q nL (nW P) False (cw P N (va_up F j v) T K A w) k z pc lv (.ref (rF P j) :: st) := v_get C (7, j) (kdF j hj) (ci := 0) (r := (RX0, TX0, 6)) rfl cK7 inX0g kf hk hlink hv hdg kk
theorem v_gT (C : Cx p l s m args meth c P D cc nL ret own) {j : Nat} {v : Nat → Int32} (hj : j < 2) (kf : Nat) (hk : kf < 4) {index : Nat} (hlink : Cond.fieldLink own index (((RX2, TX2, 4)).2.1 kf).1 (((RX2, TX2, 4)).2.1 kf).2.1 (((RX2, TX2, 4)).2.1 kf).2.2.1 ∈ gtb) {u : Value} (hv : (tF P j v)[kf]? = some u) (hdg : decode cc pc = .ok (.getfield index, 3)) (kk : V p l e R s m args below meth c P D Q nL (nW P) False (cw P N F (va_up T j v) K A w) k z (pc + 3) lv (u :: st)) : V p l e R s m args below meth c P D Q nL (nW P) False (cw P N F (va_up T j v) K A w) k z pc lv (.ref (rT P j) :: st) := v_get C (1, j) (kdT j hj) (ci := 2) (r := (RX2, TX2, 4)) rfl cK1 inX2g kf hk hlink hv hdg kk
theorem v_gX (C : Cx p l s m args meth c P D cc nL ret own)  (kf : Nat) (hk : kf < 3) {index : Nat} (hlink : Cond.fieldLink own index (((RX3, TX3, 3)).2.1 kf).1 (((RX3, TX3, 3)).2.1 kf).2.1 (((RX3, TX3, 3)).2.1 kf).2.2.1 ∈ gtb) {u : Value} (hv : (xF P)[kf]? = some u) (hdg : decode cc pc = .ok (.getfield index, 3)) (kk : V p l e R s m args below meth c P D Q nL (nW P) False (cw P N F T K A w) k z (pc + 3) lv (u :: st)) : V p l e R s m args below meth c P D Q nL (nW P) False (cw P N F T K A w) k z pc lv (.ref (rX P) :: st) := v_get C (0, 0) kdX (ci := 3) (r := (RX3, TX3, 3)) rfl rfl inX3g kf hk hlink hv hdg kk
theorem v_pN (C : Cx p l s m args meth c P D cc nL ret own) {j : Nat} {v : Nat → Int32} (hj : j < 25) (kf : Nat) (hk : kf < 12) {index : Nat} (hlink : Cond.fieldLink own index (((RX1, TX1, 14)).2.1 kf).1 (((RX1, TX1, 14)).2.1 kf).2.1 (((RX1, TX1, 14)).2.1 kf).2.2.1 ∈ gtb) {a : Int32} (hdg : decode cc pc = .ok (.putfield index, 3)) (kk : V p l e R s m args below meth c P D Q nL (nW P) False (cw P (va_up N j (upd v kf a)) F T K A w) k z (pc + 3) lv st) : V p l e R s m args below meth c P D Q nL (nW P) False (cw P (va_up N j v) F T K A w) k z pc lv (.int a :: .ref (rN P j) :: st) := v_put C (3, j) (kdN j hj) (ci := 1) (r := (RX1, TX1, 14)) (fs := (nF P j v)) rfl cK3 inX1g tyX1 tyX1_ok nmX1 kf (show kf < 14 by omega) (tyN_int kf hk).1 (tyN_int kf hk).2 (show kf < 14 by omega) hlink hdg (cK3.trans (by rw [nF_set kf hk])) (fun q9 h9 _ => cK_frN up_off (Or.inl h9) (Or.inr fun t _ => by rw [va_up_self, va_up_self, upd_ge (by omega)]) (Or.inr fun t _ => by rw [va_up_self, va_up_self, upd_ge (by omega)])) kk
theorem v_pF (C : Cx p l s m args meth c P D cc nL ret own) {j : Nat} {v : Nat → Int32} (hj : j < 8) (kf : Nat) (hk : kf < 6) {index : Nat} (hlink : Cond.fieldLink own index (((RX0, TX0, 6)).2.1 kf).1 (((RX0, TX0, 6)).2.1 kf).2.1 (((RX0, TX0, 6)).2.1 kf).2.2.1 ∈ gtb) {a : Int32} (hdg : decode cc pc = .ok (.putfield index, 3)) (kk : V p l e R s m args below meth c P D Q nL (nW P) False (cw P N (va_up F j (upd v kf a)) T K A w) k z (pc + 3) lv st) : V p l e R s m args below meth c P D Q nL (nW P) False (cw P N (va_up F j v) T K A w) k z pc lv (.int a :: .ref (rF P j) :: st) := v_put C (7, j) (kdF j hj) (ci := 0) (r := (RX0, TX0, 6)) (fs := (fF v)) rfl cK7 inX0g tyX0 tyX0_ok nmX0 kf (show kf < 6 by omega) (tyF_int kf hk).1 (tyF_int kf hk).2 (show kf < 6 by omega) hlink hdg (cK7.trans (by rw [fF_set kf hk])) (fun q9 h9 _ => cK_frF up_off h9) kk
theorem v_pT (C : Cx p l s m args meth c P D cc nL ret own) {j : Nat} {v : Nat → Int32} (hj : j < 2) (kf : Nat) (hk : kf < 2) {index : Nat} (hlink : Cond.fieldLink own index (((RX2, TX2, 4)).2.1 kf).1 (((RX2, TX2, 4)).2.1 kf).2.1 (((RX2, TX2, 4)).2.1 kf).2.2.1 ∈ gtb) {a : Int32} (hdg : decode cc pc = .ok (.putfield index, 3)) (kk : V p l e R s m args below meth c P D Q nL (nW P) False (cw P N F (va_up T j (upd v kf a)) K A w) k z (pc + 3) lv st) : V p l e R s m args below meth c P D Q nL (nW P) False (cw P N F (va_up T j v) K A w) k z pc lv (.int a :: .ref (rT P j) :: st) := v_put C (1, j) (kdT j hj) (ci := 2) (r := (RX2, TX2, 4)) (fs := (tF P j v)) rfl cK1 inX2g tyX2 tyX2_ok nmX2 kf (show kf < 4 by omega) (tyT_int kf hk).1 (tyT_int kf hk).2 (show kf < 4 by omega) hlink hdg (cK1.trans (by rw [tF_set kf hk])) (fun q9 h9 _ => cK_frT up_off h9) kk
theorem v_gNN (C : Cx p l s m args meth c P D cc nL ret own) {j : Nat} {v : Nat → Int32} (hj : j < 25) (kf : Nat) (hk : kf < 14) {index : Nat} (hlink : (own, index, (((RX1, TX1, 14)).2.1 kf).1, (((RX1, TX1, 14)).2.1 kf).2.1, (((RX1, TX1, 14)).2.1 kf).2.2.1) ∈ nwF) {u : Value} (hv : (nF P j v)[kf]? = some u) (hdg : decode cc pc = .ok (.getfield index, 3)) (kk : V p l e R s m args below meth c P D Q nL (nW P) False (cw P (va_up N j v) F T K A w) k z (pc + 3) lv (u :: st)) : V p l e R s m args below meth c P D Q nL (nW P) False (cw P (va_up N j v) F T K A w) k z pc lv (.ref (rN P j) :: st) := v_getN C (3, j) (kdN j hj) (ci := 1) (r := (RX1, TX1, 14)) rfl cK3 inX1g kf hk hlink hv hdg kk
theorem v_gFN (C : Cx p l s m args meth c P D cc nL ret own) {j : Nat} {v : Nat → Int32} (hj : j < 8) (kf : Nat) (hk : kf < 6) {index : Nat} (hlink : (own, index, (((RX0, TX0, 6)).2.1 kf).1, (((RX0, TX0, 6)).2.1 kf).2.1, (((RX0, TX0, 6)).2.1 kf).2.2.1) ∈ nwF) {u : Value} (hv : (fF v)[kf]? = some u) (hdg : decode cc pc = .ok (.getfield index, 3)) (kk : V p l e R s m args below meth c P D Q nL (nW P) False (cw P N (va_up F j v) T K A w) k z (pc + 3) lv (u :: st)) : V p l e R s m args below meth c P D Q nL (nW P) False (cw P N (va_up F j v) T K A w) k z pc lv (.ref (rF P j) :: st) := v_getN C (7, j) (kdF j hj) (ci := 0) (r := (RX0, TX0, 6)) rfl cK7 inX0g kf hk hlink hv hdg kk
theorem v_gTN (C : Cx p l s m args meth c P D cc nL ret own) {j : Nat} {v : Nat → Int32} (hj : j < 2) (kf : Nat) (hk : kf < 4) {index : Nat} (hlink : (own, index, (((RX2, TX2, 4)).2.1 kf).1, (((RX2, TX2, 4)).2.1 kf).2.1, (((RX2, TX2, 4)).2.1 kf).2.2.1) ∈ nwF) {u : Value} (hv : (tF P j v)[kf]? = some u) (hdg : decode cc pc = .ok (.getfield index, 3)) (kk : V p l e R s m args below meth c P D Q nL (nW P) False (cw P N F (va_up T j v) K A w) k z (pc + 3) lv (u :: st)) : V p l e R s m args below meth c P D Q nL (nW P) False (cw P N F (va_up T j v) K A w) k z pc lv (.ref (rT P j) :: st) := v_getN C (1, j) (kdT j hj) (ci := 2) (r := (RX2, TX2, 4)) rfl cK1 inX2g kf hk hlink hv hdg kk
theorem v_gXN (C : Cx p l s m args meth c P D cc nL ret own)  (kf : Nat) (hk : kf < 3) {index : Nat} (hlink : (own, index, (((RX3, TX3, 3)).2.1 kf).1, (((RX3, TX3, 3)).2.1 kf).2.1, (((RX3, TX3, 3)).2.1 kf).2.2.1) ∈ nwF) {u : Value} (hv : (xF P)[kf]? = some u) (hdg : decode cc pc = .ok (.getfield index, 3)) (kk : V p l e R s m args below meth c P D Q nL (nW P) False (cw P N F T K A w) k z (pc + 3) lv (u :: st)) : V p l e R s m args below meth c P D Q nL (nW P) False (cw P N F T K A w) k z pc lv (.ref (rX P) :: st) := v_getN C (0, 0) kdX (ci := 3) (r := (RX3, TX3, 3)) rfl rfl inX3g kf hk hlink hv hdg kk
theorem v_pNN (C : Cx p l s m args meth c P D cc nL ret own) {j : Nat} {v : Nat → Int32} (hj : j < 25) (kf : Nat) (hk : kf < 12) {index : Nat} (hlink : (own, index, (((RX1, TX1, 14)).2.1 kf).1, (((RX1, TX1, 14)).2.1 kf).2.1, (((RX1, TX1, 14)).2.1 kf).2.2.1) ∈ nwF) {a : Int32} (hdg : decode cc pc = .ok (.putfield index, 3)) (kk : V p l e R s m args below meth c P D Q nL (nW P) False (cw P (va_up N j (upd v kf a)) F T K A w) k z (pc + 3) lv st) : V p l e R s m args below meth c P D Q nL (nW P) False (cw P (va_up N j v) F T K A w) k z pc lv (.int a :: .ref (rN P j) :: st) := v_putN C (3, j) (kdN j hj) (ci := 1) (r := (RX1, TX1, 14)) (fs := (nF P j v)) rfl cK3 inX1g tyX1 tyX1_ok nmX1 kf (show kf < 14 by omega) (tyN_int kf hk).1 (tyN_int kf hk).2 (show kf < 14 by omega) hlink hdg (cK3.trans (by rw [nF_set kf hk])) (fun q9 h9 _ => cK_frN up_off (Or.inl h9) (Or.inr fun t _ => by rw [va_up_self, va_up_self, upd_ge (by omega)]) (Or.inr fun t _ => by rw [va_up_self, va_up_self, upd_ge (by omega)])) kk
theorem v_pFN (C : Cx p l s m args meth c P D cc nL ret own) {j : Nat} {v : Nat → Int32} (hj : j < 8) (kf : Nat) (hk : kf < 6) {index : Nat} (hlink : (own, index, (((RX0, TX0, 6)).2.1 kf).1, (((RX0, TX0, 6)).2.1 kf).2.1, (((RX0, TX0, 6)).2.1 kf).2.2.1) ∈ nwF) {a : Int32} (hdg : decode cc pc = .ok (.putfield index, 3)) (kk : V p l e R s m args below meth c P D Q nL (nW P) False (cw P N (va_up F j (upd v kf a)) T K A w) k z (pc + 3) lv st) : V p l e R s m args below meth c P D Q nL (nW P) False (cw P N (va_up F j v) T K A w) k z pc lv (.int a :: .ref (rF P j) :: st) := v_putN C (7, j) (kdF j hj) (ci := 0) (r := (RX0, TX0, 6)) (fs := (fF v)) rfl cK7 inX0g tyX0 tyX0_ok nmX0 kf (show kf < 6 by omega) (tyF_int kf hk).1 (tyF_int kf hk).2 (show kf < 6 by omega) hlink hdg (cK7.trans (by rw [fF_set kf hk])) (fun q9 h9 _ => cK_frF up_off h9) kk
theorem v_pTN (C : Cx p l s m args meth c P D cc nL ret own) {j : Nat} {v : Nat → Int32} (hj : j < 2) (kf : Nat) (hk : kf < 2) {index : Nat} (hlink : (own, index, (((RX2, TX2, 4)).2.1 kf).1, (((RX2, TX2, 4)).2.1 kf).2.1, (((RX2, TX2, 4)).2.1 kf).2.2.1) ∈ nwF) {a : Int32} (hdg : decode cc pc = .ok (.putfield index, 3)) (kk : V p l e R s m args below meth c P D Q nL (nW P) False (cw P N F (va_up T j (upd v kf a)) K A w) k z (pc + 3) lv st) : V p l e R s m args below meth c P D Q nL (nW P) False (cw P N F (va_up T j v) K A w) k z pc lv (.int a :: .ref (rT P j) :: st) := v_putN C (1, j) (kdT j hj) (ci := 2) (r := (RX2, TX2, 4)) (fs := (tF P j v)) rfl cK1 inX2g tyX2 tyX2_ok nmX2 kf (show kf < 4 by omega) (tyT_int kf hk).1 (tyT_int kf hk).2 (show kf < 4 by omega) hlink hdg (cK1.trans (by rw [tF_set kf hk])) (fun q9 h9 _ => cK_frT up_off h9) kk
theorem v_ldL (C : Cx p l s m args meth c P D cc nL ret own) {j : Nat} {v : Nat → Int32} (hj : j < 25) {i : Int32} (hin : vp_in i 4) (hdg : decode cc pc = .ok (.iaload, 1)) (kk : V p l e R s m args below meth c P D Q nL (nW P) False (cw P (va_up N j v) F T K A w) k z (pc + 1) lv (.int (v (12 + i.toNatClampNeg)) :: st)) : V p l e R s m args below meth c P D Q nL (nW P) False (cw P (va_up N j v) F T K A w) k z pc lv (.int i :: .ref (rL P j) :: st) := v_ldG C (4, j) (kdL j hj) cK4 hin (if_pos (Nat.not_le.mp fun q => hin (Or.inr q))) hdg kk
theorem v_ldB (C : Cx p l s m args meth c P D cc nL ret own) {j : Nat} {v : Nat → Int32} (hj : j < 25) {i : Int32} (hin : vp_in i 4) (hdg : decode cc pc = .ok (.iaload, 1)) (kk : V p l e R s m args below meth c P D Q nL (nW P) False (cw P (va_up N j v) F T K A w) k z (pc + 1) lv (.int (v (16 + i.toNatClampNeg)) :: st)) : V p l e R s m args below meth c P D Q nL (nW P) False (cw P (va_up N j v) F T K A w) k z pc lv (.int i :: .ref (rB P j) :: st) := v_ldG C (5, j) (kdB j hj) cK5 hin (if_pos (Nat.not_le.mp fun q => hin (Or.inr q))) hdg kk
theorem upd_sh {v : Nat → Int32} {b t : Nat} {a : Int32} (ht : t < 4) : (fun i => if i < 4 then upd v (b + t) a (b + i) else 0) = upd (fun i => if i < 4 then v (b + i) else 0) t a := by
  funext i
  by_cases hi : i = t
  · subst hi
    simp [upd, ht]
  · by_cases h4 : i < 4
    · simp only [upd, h4, if_true, if_neg hi, if_neg (show ¬ b + i = b + t by omega)]
    · simp only [upd, h4, if_false, if_neg hi]
theorem v_stL (C : Cx p l s m args meth c P D cc nL ret own) {j : Nat} {v : Nat → Int32} (hj : j < 25) {i a : Int32} (hin : vp_in i 4) (hdg : decode cc pc = .ok (.iastore, 1)) (kk : V p l e R s m args below meth c P D Q nL (nW P) False (cw P (va_up N j (upd v (12 + i.toNatClampNeg) a)) F T K A w) k z (pc + 1) lv st) : V p l e R s m args below meth c P D Q nL (nW P) False (cw P (va_up N j v) F T K A w) k z pc lv (.int a :: .int i :: .ref (rL P j) :: st) := by
  have h4 : i.toNatClampNeg < 4 := Nat.not_le.mp fun q => hin (Or.inr q)
  exact v_stG C (4, j) (kdL j hj) cK4 hin hdg (cK4.trans (by rw [upd_sh h4])) (fun q9 h9 _ => cK_frN up_off (Or.inr fun t ht => by rw [va_up_self, va_up_self, upd_ge (by omega)]) (Or.inl h9) (Or.inr fun t _ => by rw [va_up_self, va_up_self, upd_ge (by omega)])) kk
theorem v_stB (C : Cx p l s m args meth c P D cc nL ret own) {j : Nat} {v : Nat → Int32} (hj : j < 25) {i a : Int32} (hin : vp_in i 4) (hdg : decode cc pc = .ok (.iastore, 1)) (kk : V p l e R s m args below meth c P D Q nL (nW P) False (cw P (va_up N j (upd v (16 + i.toNatClampNeg) a)) F T K A w) k z (pc + 1) lv st) : V p l e R s m args below meth c P D Q nL (nW P) False (cw P (va_up N j v) F T K A w) k z pc lv (.int a :: .int i :: .ref (rB P j) :: st) := by
  have h4 : i.toNatClampNeg < 4 := Nat.not_le.mp fun q => hin (Or.inr q)
  exact v_stG C (5, j) (kdB j hj) cK5 hin hdg (cK5.trans (by rw [upd_sh h4])) (fun q9 h9 _ => cK_frN up_off (Or.inr fun t ht => by rw [va_up_self, va_up_self, upd_ge (by omega)]) (Or.inr fun t _ => by rw [va_up_self, va_up_self, upd_ge (by omega)]) (Or.inl h9)) kk
end VHeap
end
section
/-! CONTRACTS, THEIR BODIES, RETURNS, CALLS -/
abbrev aO (P : L5) : Nat → Prop := fun q => P.1 ≤ q
/-- behind a method: the cells hold f' -/
def PostB (P : L5) (D : va_G) (n : Nat) (x : Prop) (f : Nat → va_E) : Unit → State → Prop := fun _ t => va_P D vwCl (wl P.1 n f) t.heap ∧ (x → t.heap.size = P.1 + n)
abbrev QcI (P : L5) (D : va_G) (n : Nat) (x : Prop) (f : Nat → va_E) (r : Int32) := va_Qi (fun (r' : Int32) (_ : Unit) => r' = r) (PostB P D n x f) (aO P)
abbrev QcL (P : L5) (D : va_G) (n : Nat) (x : Prop) (f : Nat → va_E) (r : Int64) := va_Ql (fun (r' : Int64) (_ : Unit) => r' = r) (PostB P D n x f) (aO P)
abbrev QcV (P : L5) (D : va_G) (n : Nat) (x : Prop) (f : Nat → va_E) := va_Qv (fun (_ : Unit) => True) (PostB P D n x f) (aO P)
def CtI (l : Launch) (y : MethodName) (b : ByteArray) (nL : Nat) (rt : FieldType) (h mc ms : Nat) (P : L5) (D : va_G) (n n' : Nat) (x : Prop) (f f' : Nat → va_E) (av : List Value) (r : Int32) : Prop := Met l y (.code y b nL (some rt) :: gtb) (rmO h mc ms) (va_Pc av (PreI P D n x f)) (QcI P D n' x f' r) mc ms (aO P)
def CtL (l : Launch) (y : MethodName) (b : ByteArray) (nL : Nat) (h mc ms : Nat) (P : L5) (D : va_G) (n n' : Nat) (x : Prop) (f f' : Nat → va_E) (av : List Value) (r : Int64) : Prop := Met l y (.code y b nL (some .long) :: gtb) (rmO h mc ms) (va_Pc av (PreI P D n x f)) (QcL P D n' x f' r) mc ms (aO P)
def CtV (l : Launch) (y : MethodName) (b : ByteArray) (nL : Nat) (h mc ms : Nat) (P : L5) (D : va_G) (n n' : Nat) (x : Prop) (f f' : Nat → va_E) (av : List Value) : Prop := Met l y (.code y b nL none :: gtb) (rmO h mc ms) (va_Pc av (PreI P D n x f)) (QcV P D n' x f') mc ms (aO P)
/-- a method's body: from its walk -/
theorem mk_Met {l : Launch} {y : MethodName} {b : ByteArray} {nL : Nat} {rt : Option FieldType} {h mc ms : Nat} {P : L5} {D : va_G} {n : Nat} {x : Prop} {f : Nat → va_E} {av : List Value} {Qc : Array Value → State → Outcome → State → Prop} (hy : plainName y.cls = true) (lv : List (Nat × Value)) (hlv : lv_args 0 av = lv) (hlen : (lg_sl av).length ≤ nL)
    (body : ∀ (p : Program) (e : Env) (s : State) (m : MethodId) (args : Array Value) (below : List Frame) (meth : Method) (c : Code), Cx p l s m args meth c P D b nL rt y.cls → V p l e (rmO h mc ms) s m args below meth c P D (MQ below Qc args s mc ms (aO P)) nL n x f 0 0 0 lv []) :
    Met l y (.code y b nL rt :: gtb) (rmO h mc ms) (va_Pc av (PreI P D n x f)) Qc mc ms (aO P) := by
  refine Met.ofW (cc := b) (maxL := nL) (ret := rt) hy rfl ?_
  intro p e s m args below meth c s₁ B hml hv
  obtain ⟨rfl, hP, hK, ho, hz, hST⟩ := hv
  have hts := atoms_spec (ws := (.code y b nL rt :: gtb)) B.pre
  have hown : s.vm.findClass y.cls = some m.cls := findClass_of_methodNamed B.named
  have C : Cx p l s m av.toArray meth c P D b nL rt y.cls := ⟨B.exec, B.bytes, hml, hown, fun w hw => hts w (List.mem_cons_of_mem _ hw), B.returns, B.notSynchronized, hK, ho, hST⟩
  have hl := lv_entry av hlen
  rw [lg_entry_eq]
  rw [hlv] at hl
  exact body p e s m av.toArray below meth c C s.heap [] _ hP hz va_S.rf hl
section VCalls
variable {p : Program} {l : Launch} {e : Env} {R : Room} {s : State} {m : MethodId} {args : Array Value} {below : List Frame} {meth : Method} {c : Code} {P : L5} {D : va_G} {Q : State → Prop} {nL n : Nat} {x : Prop} {f : Nat → va_E} {k z pc : Nat} {lv : List (Nat × Value)} {st : List Value} {cc : ByteArray} {ret : Option FieldType} {own : String}
theorem v_iret (C : Cx p l s m args meth c P D cc nL (some .int) own) {f' : Nat → va_E} {a r : Int32} (hdg : decode cc pc = .ok (.ireturn, 1)) (hf : f = f') (hr : a = r) : V p l e R s m args below meth c P D (MQ below (QcI P D n x f' r) args s k z (aO P)) nL n x f k z pc lv [.int a] := by
  subst hf; subst hr
  intro H locs ls hP hz hS hl
  exact W.iret C.1 C.2.1 C.2.2.2.2.2.1 (fun t ht hW => ⟨⟨a, (), rfl, rfl, by rw [ht]; exact hP, fun hx => by rw [ht]; exact hz hx⟩, hS.F ht⟩) hS.2.2 hdg C.2.2.2.2.2.2.1
theorem v_zret (C : Cx p l s m args meth c P D cc nL (some .boolean) own) {f' : Nat → va_E} {a r : Int32} (hdg : decode cc pc = .ok (.ireturn, 1)) (hn : narrow .boolean (.int a) = .int a) (hf : f = f') (hr : a = r) : V p l e R s m args below meth c P D (MQ below (QcI P D n x f' r) args s k z (aO P)) nL n x f k z pc lv [.int a] := by
  subst hf; subst hr
  intro H locs ls hP hz hS hl
  exact W.zret C.1 C.2.1 C.2.2.2.2.2.1 hn (fun t ht hW => ⟨⟨a, (), rfl, rfl, by rw [ht]; exact hP, fun hx => by rw [ht]; exact hz hx⟩, hS.F ht⟩) hS.2.2 hdg C.2.2.2.2.2.2.1
theorem v_lret (C : Cx p l s m args meth c P D cc nL (some .long) own) {f' : Nat → va_E} {a r : Int64} (hdg : decode cc pc = .ok (.lreturn, 1)) (hf : f = f') (hr : a = r) : V p l e R s m args below meth c P D (MQ below (QcL P D n x f' r) args s k z (aO P)) nL n x f k z pc lv [.long a] := by
  subst hf; subst hr
  intro H locs ls hP hz hS hl
  exact W.lret C.1 C.2.1 C.2.2.2.2.2.1 (fun t ht hW => ⟨⟨a, (), rfl, rfl, by rw [ht]; exact hP, fun hx => by rw [ht]; exact hz hx⟩, hS.F ht⟩) hS.2.2 hdg C.2.2.2.2.2.2.1
theorem v_vret (C : Cx p l s m args meth c P D cc nL none own) {f' : Nat → va_E} (hdg : decode cc pc = .ok (.return_, 1)) (hf : f = f') : V p l e R s m args below meth c P D (MQ below (QcV P D n x f') args s k z (aO P)) nL n x f k z pc lv [] := by
  subst hf
  intro H locs ls hP hz hS hl
  exact W.vret C.1 C.2.1 C.2.2.2.2.2.1 (fun t ht hW => ⟨⟨(), rfl, trivial, by rw [ht]; exact hP, fun hx => by rw [ht]; exact hz hx⟩, hS.F ht⟩) hS.2.2 hdg C.2.2.2.2.2.2.1
theorem pre_of (C : Cx p l s m args meth c P D cc nL ret own) {H : Heap} {locs : List Loc} (hP : va_P D vwCl (wl P.1 n f) H) (hz : x → H.size = P.1 + n) (hS : va_S (fun q => P.1 ≤ q) s.heap H locs) {av : List Value} : ∀ U : State, U.heap = H → s.WarmedH U.vm → va_Pc av (PreI P D n x f) av.toArray U := by
  obtain ⟨hx, hb, hml, hown, hts, hr, hlk, hK, ho, hST⟩ := C
  intro U hU hW
  exact ⟨rfl, by rw [hU]; exact hP, va_K.moved hW.alike hK, by rw [hU]; exact Nat.le_trans ho hS.1, fun h9 => by rw [hU]; exact hz h9, ST.move hST hW (by rw [hU]; exact hS.2.1)⟩
/-- the receiver: a cell of the world, of the class Cn -/
def rcv (P : L5) (n : Nat) (f : Nat → va_E) (b : Nat) (Cn : String) : Prop := ∃ (q ci : Nat) (fs : List Value) (r : vw_C), (wl P.1 n f)[q]? = some (b, .inr (ci, fs)) ∧ vwCl[ci]? = some r ∧ r.1 = Cn
theorem run_V (C : Cx p l s m args meth c P D cc nL ret own) {y : MethodName} {b : ByteArray} {nb : Nat} {rt : Option FieldType} {h mc ms : Nat} {As rest : List Value} {a index : Nat} {Qc : Array Value → State → Outcome → State → Prop} (hM : Met l y (.code y b nb rt :: gtb) (rmO h mc ms) (va_Pc (.ref a :: As) (PreI P D n x f)) Qc mc ms (aO P)) (hk : Cond.code y b nb rt ∈ gtb) (hini : Cond.initialized y.cls ∈ gtb) (hl9 : Cond.methodLink own index y ∈ gtb) (hin : Cond.instanceMethod y ∈ gtb) (hse : Cond.selects y.cls y y ∈ gtb) (hd : y.cls ≠ "java/lang/invoke/MethodHandle" ∧ y.cls ≠ "java/lang/invoke/VarHandle" ∧ (parseMethodDescriptor y.desc).map (fun d => d.parameters.length) = some As.length) (hR : h + 1 ≤ R.frames ∧ 8 + (nb + 11) + 28 * h ≤ R.locals) (hrc : rcv P n f a y.cls) (hst : st = As.reverse ++ .ref a :: rest) (hW : (rest.map fun v => v.category).sum ≤ 8) (hdg : decode cc pc = .ok (.invokevirtual index, 3)) (hf : k + mc ≤ R.cells ∧ z + ms ≤ R.slots) : ∀ (H : Heap) (locs : List Loc) (ls : Array Slot), va_P D vwCl (wl P.1 n f) H → (x → H.size = P.1 + n) → va_S (fun q => P.1 ≤ q) s.heap H locs → lv_has ls nL lv → va_Run p l e R s m args below meth c H locs k z mc ms (F0 m pc ls st) rest (Qc (Value.ref a :: As).toArray) (aO P) := by
  intro H locs ls hP hz hS hl
  obtain ⟨hx, hb, hml, hown, hts, hr, hlk, hK, ho, hST⟩ := id C
  obtain ⟨q, ci, fs, r, h1, h2, h3⟩ := hrc
  have hG := gtb_in (w0 := .code y b nb rt) hk
  have hts' : ∀ w ∈ (.code y b nb rt :: gtb : List Cond), w.before args s = true := fun w hw => (List.mem_cons.mp hw).elim (fun e9 => by rw [e9]; exact hts _ hk) (hts w)
  exact va_runV (Ts := (.code y b nb rt :: gtb)) ⟨hx, hb, hml, hown, hts'⟩ hM ⟨callB_of As.length hts' hG rfl rfl rfl (hts _ hini) (hts _ hl9) hd hR, hts _ hin, hts _ hse⟩ ⟨PreI.blind, by rw [← h3]; exact va_recv hK hP h2 h1, pre_of C hP hz hS⟩ rfl rfl hl.1 hst (lv_room hW) hdg hf
theorem run_S (C : Cx p l s m args meth c P D cc nL ret own) {y : MethodName} {b : ByteArray} {nb : Nat} {rt : Option FieldType} {h mc ms : Nat} {As rest : List Value} {index : Nat} {Qc : Array Value → State → Outcome → State → Prop} (hM : Met l y (.code y b nb rt :: gtb) (rmO h mc ms) (va_Pc As (PreI P D n x f)) Qc mc ms (aO P)) (hk : Cond.code y b nb rt ∈ gtb) (hini : Cond.initialized y.cls ∈ gtb) (hl9 : Cond.methodLink own index y ∈ gtb) (hin : Cond.static y ∈ gtb) (hd : y.cls ≠ "java/lang/invoke/MethodHandle" ∧ y.cls ≠ "java/lang/invoke/VarHandle" ∧ (parseMethodDescriptor y.desc).map (fun d => d.parameters.length) = some As.length) (hR : h + 1 ≤ R.frames ∧ 8 + (nb + 11) + 28 * h ≤ R.locals) (hst : st = As.reverse ++ rest) (hW : (rest.map fun v => v.category).sum ≤ 8) (hdg : decode cc pc = .ok (.invokestatic index, 3)) (hf : k + mc ≤ R.cells ∧ z + ms ≤ R.slots) : ∀ (H : Heap) (locs : List Loc) (ls : Array Slot), va_P D vwCl (wl P.1 n f) H → (x → H.size = P.1 + n) → va_S (fun q => P.1 ≤ q) s.heap H locs → lv_has ls nL lv → va_Run p l e R s m args below meth c H locs k z mc ms (F0 m pc ls st) rest (Qc As.toArray) (aO P) := by
  intro H locs ls hP hz hS hl
  obtain ⟨hx, hb, hml, hown, hts, hr, hlk, hK, ho, hST⟩ := id C
  have hG := gtb_in (w0 := .code y b nb rt) hk
  have hts' : ∀ w ∈ (.code y b nb rt :: gtb : List Cond), w.before args s = true := fun w hw => (List.mem_cons.mp hw).elim (fun e9 => by rw [e9]; exact hts _ hk) (hts w)
  exact va_runS (Ts := (.code y b nb rt :: gtb)) ⟨hx, hb, hml, hown, hts'⟩ hM ⟨callB_of As.length hts' hG rfl rfl rfl (hts _ hini) (hts _ hl9) hd hR, hts _ hin⟩ ⟨PreI.blind, pre_of C hP hz hS⟩ rfl rfl hl.1 hst (lv_room hW) hdg hf
theorem run_VN (C : Cx p l s m args meth c P D cc nL ret own) {y : MethodName} {b : ByteArray} {nb : Nat} {rt : Option FieldType} {h mc ms : Nat} {As rest : List Value} {a index : Nat} {Qc : Array Value → State → Outcome → State → Prop} (hM : Met l y (.code y b nb rt :: gtb) (rmO h mc ms) (va_Pc (.ref a :: As) (PreI P D n x f)) Qc mc ms (aO P)) (hk : Cond.code y b nb rt ∈ gtb) (hini : Cond.initialized y.cls ∈ gtb) (hl9 : (own, index, y) ∈ nwM) (hin : Cond.instanceMethod y ∈ gtb) (hse : Cond.selects y.cls y y ∈ gtb) (hd : y.cls ≠ "java/lang/invoke/MethodHandle" ∧ y.cls ≠ "java/lang/invoke/VarHandle" ∧ (parseMethodDescriptor y.desc).map (fun d => d.parameters.length) = some As.length) (hR : h + 1 ≤ R.frames ∧ 8 + (nb + 11) + 28 * h ≤ R.locals) (hrc : rcv P n f a y.cls) (hst : st = As.reverse ++ .ref a :: rest) (hW : (rest.map fun v => v.category).sum ≤ 8) (hdg : decode cc pc = .ok (.invokevirtual index, 3)) (hf : k + mc ≤ R.cells ∧ z + ms ≤ R.slots) : ∀ (H : Heap) (locs : List Loc) (ls : Array Slot), va_P D vwCl (wl P.1 n f) H → (x → H.size = P.1 + n) → va_S (fun q => P.1 ≤ q) s.heap H locs → lv_has ls nL lv → va_Run p l e R s m args below meth c H locs k z mc ms (F0 m pc ls st) rest (Qc (Value.ref a :: As).toArray) (aO P) := by
  intro H locs ls hP hz hS hl
  obtain ⟨hx, hb, hml, hown, hts, hr, hlk, hK, ho, hST⟩ := id C
  obtain ⟨q, ci, fs, r, h1, h2, h3⟩ := hrc
  have hG := gtb_in (w0 := .code y b nb rt) hk
  have hts' : ∀ w ∈ (.code y b nb rt :: gtb : List Cond), w.before args s = true := fun w hw => (List.mem_cons.mp hw).elim (fun e9 => by rw [e9]; exact hts _ hk) (hts w)
  exact va_runVN (Ts := (.code y b nb rt :: gtb)) ⟨hx, hb, hml, hown, hts'⟩ hM ⟨va_cnB As.length hts' hG rfl rfl rfl (hST.2.2.2.2.1 _ hl9) (hts _ hini) hd hR, hts _ hin, hts _ hse⟩ ⟨PreI.blind, by rw [← h3]; exact va_recv hK hP h2 h1, pre_of C hP hz hS⟩ rfl rfl hl.1 hst (lv_room hW) hdg hf
theorem run_IN (C : Cx p l s m args meth c P D cc nL ret own) {y : MethodName} {b : ByteArray} {nb : Nat} {h mc ms : Nat} {As rest : List Value} {a index : Nat} {Qc : Array Value → State → Outcome → State → Prop} (hM : Met l y (.code y b nb none :: gtb) (rmO h mc ms) (va_Pc (.ref a :: As) (PreI P D n x f)) Qc mc ms (aO P)) (hk : Cond.code y b nb none ∈ gtb) (hini : Cond.initialized y.cls ∈ gtb) (hl9 : (own, index, y) ∈ nwM) (hin : Cond.instanceMethod y ∈ gtb) (hy1 : y.name = "<init>") (hd : y.cls ≠ "java/lang/invoke/MethodHandle" ∧ y.cls ≠ "java/lang/invoke/VarHandle" ∧ (parseMethodDescriptor y.desc).map (fun d => d.parameters.length) = some As.length) (hR : h + 1 ≤ R.frames ∧ 8 + (nb + 11) + 28 * h ≤ R.locals) (hst : st = As.reverse ++ .ref a :: rest) (hW : (rest.map fun v => v.category).sum ≤ 8) (hdg : decode cc pc = .ok (.invokespecial index, 3)) (hf : k + mc ≤ R.cells ∧ z + ms ≤ R.slots) : ∀ (H : Heap) (locs : List Loc) (ls : Array Slot), va_P D vwCl (wl P.1 n f) H → (x → H.size = P.1 + n) → va_S (fun q => P.1 ≤ q) s.heap H locs → lv_has ls nL lv → va_Run p l e R s m args below meth c H locs k z mc ms (F0 m pc ls st) rest (Qc (Value.ref a :: As).toArray) (aO P) := by
  intro H locs ls hP hz hS hl
  obtain ⟨hx, hb, hml, hown, hts, hr, hlk, hK, ho, hST⟩ := id C
  have hG := gtb_in (w0 := .code y b nb none) hk
  have hts' : ∀ w ∈ (.code y b nb none :: gtb : List Cond), w.before args s = true := fun w hw => (List.mem_cons.mp hw).elim (fun e9 => by rw [e9]; exact hts _ hk) (hts w)
  exact va_runIN (Ts := (.code y b nb none :: gtb)) ⟨hx, hb, hml, hown, hts'⟩ hM ⟨va_cnB As.length hts' hG rfl rfl rfl (hST.2.2.2.2.1 _ hl9) (hts _ hini) hd hR, hy1, hts _ hin⟩ ⟨PreI.blind, pre_of C hP hz hS⟩ rfl rfl hl.1 hst (lv_room hW) hdg hf
theorem go_I {mc ms n' : Nat} {f' : Nat → va_E} {r : Int32} {rest : List Value} {a : Array Value} (hr : ∀ (H : Heap) (locs : List Loc) (ls : Array Slot), va_P D vwCl (wl P.1 n f) H → (x → H.size = P.1 + n) → va_S (fun q => P.1 ≤ q) s.heap H locs → lv_has ls nL lv → va_Run p l e R s m args below meth c H locs k z mc ms (F0 m pc ls st) rest ((QcI P D n' x f' r) a) (aO P)) (kk : V p l e R s m args below meth c P D Q nL n' x f' (k + mc) (z + ms) (pc + 3) lv (.int r :: rest)) : V p l e R s m args below meth c P D Q nL n x f k z pc lv st := by
  intro H locs ls hP hz hS hl
  refine va_calli (hr H locs ls hP hz hS hl) hS (fun q _ h => h) (fun q h => h) (fun r9 u t H1 locs1 ht hvm hw hB hz1 hk1 hS1 => ?_)
  subst ht
  subst hw
  exact kk _ locs1 ls hB.1 hB.2 hS1 hl
theorem go_L {mc ms n' : Nat} {f' : Nat → va_E} {r : Int64} {rest : List Value} {a : Array Value} (hr : ∀ (H : Heap) (locs : List Loc) (ls : Array Slot), va_P D vwCl (wl P.1 n f) H → (x → H.size = P.1 + n) → va_S (fun q => P.1 ≤ q) s.heap H locs → lv_has ls nL lv → va_Run p l e R s m args below meth c H locs k z mc ms (F0 m pc ls st) rest ((QcL P D n' x f' r) a) (aO P)) (kk : V p l e R s m args below meth c P D Q nL n' x f' (k + mc) (z + ms) (pc + 3) lv (.long r :: rest)) : V p l e R s m args below meth c P D Q nL n x f k z pc lv st := by
  intro H locs ls hP hz hS hl
  refine va_calll (hr H locs ls hP hz hS hl) hS (fun q _ h => h) (fun q h => h) (fun r9 u t H1 locs1 ht hvm hw hB hz1 hk1 hS1 => ?_)
  subst ht
  subst hw
  exact kk _ locs1 ls hB.1 hB.2 hS1 hl
theorem go_V {mc ms n' : Nat} {f' : Nat → va_E} {rest : List Value} {a : Array Value} (hr : ∀ (H : Heap) (locs : List Loc) (ls : Array Slot), va_P D vwCl (wl P.1 n f) H → (x → H.size = P.1 + n) → va_S (fun q => P.1 ≤ q) s.heap H locs → lv_has ls nL lv → va_Run p l e R s m args below meth c H locs k z mc ms (F0 m pc ls st) rest ((QcV P D n' x f') a) (aO P)) (kk : V p l e R s m args below meth c P D Q nL n' x f' (k + mc) (z + ms) (pc + 3) lv rest) : V p l e R s m args below meth c P D Q nL n x f k z pc lv st := by
  intro H locs ls hP hz hS hl
  refine va_callv (hr H locs ls hP hz hS hl) hS (fun q _ h => h) (fun q h => h) (fun u t H1 locs1 ht hvm hw hB hz1 hk1 hS1 => ?_)
  subst ht
  clear hw
  exact kk _ locs1 ls hB.1 hB.2 hS1 hl
theorem rcN {N F T : Nat → Nat → Int32} {K : Nat → Int32} {A : Nat → Nat → Int32} {w : Int64} {j : Nat} (hj : j < 25) : rcv P (nW P) (cw P N F T K A w) (rN P j) RX1 := ⟨ik (3, j), 1, _, _, cw_get (3, j) (kdN j hj).1 (kdN j hj).2, rfl, rfl⟩
theorem rcF {N F T : Nat → Nat → Int32} {K : Nat → Int32} {A : Nat → Nat → Int32} {w : Int64} {j : Nat} (hj : j < 8) : rcv P (nW P) (cw P N F T K A w) (rF P j) RX0 := ⟨ik (7, j), 0, _, _, cw_get (7, j) (kdF j hj).1 (kdF j hj).2, rfl, rfl⟩
theorem rcT {N F T : Nat → Nat → Int32} {K : Nat → Int32} {A : Nat → Nat → Int32} {w : Int64} {j : Nat} (hj : j < 2) : rcv P (nW P) (cw P N F T K A w) (rT P j) RX2 := ⟨ik (1, j), 2, _, _, cw_get (1, j) (kdT j hj).1 (kdT j hj).2, rfl, rfl⟩
theorem rcX {N F T : Nat → Nat → Int32} {K : Nat → Int32} {A : Nat → Nat → Int32} {w : Int64} : rcv P (nW P) (cw P N F T K A w) (rX P) RX3 := ⟨ik (0, 0), 3, _, _, cw_get (0, 0) kdX.1 kdX.2, rfl, rfl⟩
end VCalls
end
section
theorem dX0_init_0 : decode cX0_init 0 = .ok (.aload_n 0, 1) := by decide +kernel
theorem dX0_init_1 : decode cX0_init 1 = .ok (.invokespecial 3, 3) := by decide +kernel
theorem dX0_init_4 : decode cX0_init 4 = .ok (.aload_n 0, 1) := by decide +kernel
theorem dX0_init_5 : decode cX0_init 5 = .ok (.bipush 20, 2) := by decide +kernel
theorem dX0_init_7 : decode cX0_init 7 = .ok (.putfield 9, 3) := by decide +kernel
theorem dX0_init_10 : decode cX0_init 10 = .ok (.aload_n 0, 1) := by decide +kernel
theorem dX0_init_11 : decode cX0_init 11 = .ok (.bipush 60, 2) := by decide +kernel
theorem dX0_init_13 : decode cX0_init 13 = .ok (.putfield 15, 3) := by decide +kernel
theorem dX0_init_16 : decode cX0_init 16 = .ok (.return_, 1) := by decide +kernel
theorem dX0_copyFrom_0 : decode cX0_copyFrom 0 = .ok (.aload_n 0, 1) := by decide +kernel
theorem dX0_copyFrom_1 : decode cX0_copyFrom 1 = .ok (.aload_n 1, 1) := by decide +kernel
theorem dX0_copyFrom_2 : decode cX0_copyFrom 2 = .ok (.getfield 9, 3) := by decide +kernel
theorem dX0_copyFrom_5 : decode cX0_copyFrom 5 = .ok (.putfield 9, 3) := by decide +kernel
theorem dX0_copyFrom_8 : decode cX0_copyFrom 8 = .ok (.aload_n 0, 1) := by decide +kernel
theorem dX0_copyFrom_9 : decode cX0_copyFrom 9 = .ok (.aload_n 1, 1) := by decide +kernel
theorem dX0_copyFrom_10 : decode cX0_copyFrom 10 = .ok (.getfield 15, 3) := by decide +kernel
theorem dX0_copyFrom_13 : decode cX0_copyFrom 13 = .ok (.putfield 15, 3) := by decide +kernel
theorem dX0_copyFrom_16 : decode cX0_copyFrom 16 = .ok (.aload_n 0, 1) := by decide +kernel
theorem dX0_copyFrom_17 : decode cX0_copyFrom 17 = .ok (.aload_n 1, 1) := by decide +kernel
theorem dX0_copyFrom_18 : decode cX0_copyFrom 18 = .ok (.getfield 18, 3) := by decide +kernel
theorem dX0_copyFrom_21 : decode cX0_copyFrom 21 = .ok (.putfield 18, 3) := by decide +kernel
theorem dX0_copyFrom_24 : decode cX0_copyFrom 24 = .ok (.aload_n 0, 1) := by decide +kernel
theorem dX0_copyFrom_25 : decode cX0_copyFrom 25 = .ok (.aload_n 1, 1) := by decide +kernel
theorem dX0_copyFrom_26 : decode cX0_copyFrom 26 = .ok (.getfield 21, 3) := by decide +kernel
theorem dX0_copyFrom_29 : decode cX0_copyFrom 29 = .ok (.putfield 21, 3) := by decide +kernel
theorem dX0_copyFrom_32 : decode cX0_copyFrom 32 = .ok (.aload_n 0, 1) := by decide +kernel
theorem dX0_copyFrom_33 : decode cX0_copyFrom 33 = .ok (.aload_n 1, 1) := by decide +kernel
theorem dX0_copyFrom_34 : decode cX0_copyFrom 34 = .ok (.getfield 24, 3) := by decide +kernel
theorem dX0_copyFrom_37 : decode cX0_copyFrom 37 = .ok (.putfield 24, 3) := by decide +kernel
theorem dX0_copyFrom_40 : decode cX0_copyFrom 40 = .ok (.aload_n 0, 1) := by decide +kernel
theorem dX0_copyFrom_41 : decode cX0_copyFrom 41 = .ok (.aload_n 1, 1) := by decide +kernel
theorem dX0_copyFrom_42 : decode cX0_copyFrom 42 = .ok (.getfield 27, 3) := by decide +kernel
theorem dX0_copyFrom_45 : decode cX0_copyFrom 45 = .ok (.putfield 27, 3) := by decide +kernel
theorem dX0_copyFrom_48 : decode cX0_copyFrom 48 = .ok (.return_, 1) := by decide +kernel
theorem dX0_buyBags_0 : decode cX0_buyBags 0 = .ok (.iconst 0, 1) := by decide +kernel
theorem dX0_buyBags_1 : decode cX0_buyBags 1 = .ok (.istore_n 2, 1) := by decide +kernel
theorem dX0_buyBags_2 : decode cX0_buyBags 2 = .ok (.iload_n 2, 1) := by decide +kernel
theorem dX0_buyBags_3 : decode cX0_buyBags 3 = .ok (.iconst 4, 1) := by decide +kernel
theorem dX0_buyBags_4 : decode cX0_buyBags 4 = .ok (.if_icmp .ge 110, 3) := by decide +kernel
theorem dX0_buyBags_7 : decode cX0_buyBags 7 = .ok (.getstatic 30, 3) := by decide +kernel
theorem dX0_buyBags_10 : decode cX0_buyBags 10 = .ok (.iload_n 2, 1) := by decide +kernel
theorem dX0_buyBags_11 : decode cX0_buyBags 11 = .ok (.iaload, 1) := by decide +kernel
theorem dX0_buyBags_12 : decode cX0_buyBags 12 = .ok (.bipush 100, 2) := by decide +kernel
theorem dX0_buyBags_14 : decode cX0_buyBags 14 = .ok (.aload_n 0, 1) := by decide +kernel
theorem dX0_buyBags_15 : decode cX0_buyBags 15 = .ok (.getfield 9, 3) := by decide +kernel
theorem dX0_buyBags_18 : decode cX0_buyBags 18 = .ok (.isub, 1) := by decide +kernel
theorem dX0_buyBags_19 : decode cX0_buyBags 19 = .ok (.imul, 1) := by decide +kernel
theorem dX0_buyBags_20 : decode cX0_buyBags 20 = .ok (.bipush 100, 2) := by decide +kernel
theorem dX0_buyBags_22 : decode cX0_buyBags 22 = .ok (.idiv, 1) := by decide +kernel
theorem dX0_buyBags_23 : decode cX0_buyBags 23 = .ok (.istore_n 3, 1) := by decide +kernel
theorem dX0_buyBags_24 : decode cX0_buyBags 24 = .ok (.aload_n 1, 1) := by decide +kernel
theorem dX0_buyBags_25 : decode cX0_buyBags 25 = .ok (.getfield 34, 3) := by decide +kernel
theorem dX0_buyBags_28 : decode cX0_buyBags 28 = .ok (.iload_n 2, 1) := by decide +kernel
theorem dX0_buyBags_29 : decode cX0_buyBags 29 = .ok (.iaload, 1) := by decide +kernel
theorem dX0_buyBags_30 : decode cX0_buyBags 30 = .ok (.ifCond .le 78, 3) := by decide +kernel
theorem dX0_buyBags_33 : decode cX0_buyBags 33 = .ok (.aload_n 0, 1) := by decide +kernel
theorem dX0_buyBags_34 : decode cX0_buyBags 34 = .ok (.getfield 15, 3) := by decide +kernel
theorem dX0_buyBags_37 : decode cX0_buyBags 37 = .ok (.iload_n 3, 1) := by decide +kernel
theorem dX0_buyBags_38 : decode cX0_buyBags 38 = .ok (.if_icmp .lt 70, 3) := by decide +kernel
theorem dX0_buyBags_41 : decode cX0_buyBags 41 = .ok (.aload_n 1, 1) := by decide +kernel
theorem dX0_buyBags_42 : decode cX0_buyBags 42 = .ok (.getfield 34, 3) := by decide +kernel
theorem dX0_buyBags_45 : decode cX0_buyBags 45 = .ok (.iload_n 2, 1) := by decide +kernel
theorem dX0_buyBags_46 : decode cX0_buyBags 46 = .ok (.dup2, 1) := by decide +kernel
theorem dX0_buyBags_47 : decode cX0_buyBags 47 = .ok (.iaload, 1) := by decide +kernel
theorem dX0_buyBags_48 : decode cX0_buyBags 48 = .ok (.iconst 1, 1) := by decide +kernel
theorem dX0_buyBags_49 : decode cX0_buyBags 49 = .ok (.isub, 1) := by decide +kernel
theorem dX0_buyBags_50 : decode cX0_buyBags 50 = .ok (.iastore, 1) := by decide +kernel
theorem dX0_buyBags_51 : decode cX0_buyBags 51 = .ok (.aload_n 1, 1) := by decide +kernel
theorem dX0_buyBags_52 : decode cX0_buyBags 52 = .ok (.dup, 1) := by decide +kernel
theorem dX0_buyBags_53 : decode cX0_buyBags 53 = .ok (.getfield 39, 3) := by decide +kernel
theorem dX0_buyBags_56 : decode cX0_buyBags 56 = .ok (.iload_n 3, 1) := by decide +kernel
theorem dX0_buyBags_57 : decode cX0_buyBags 57 = .ok (.iadd, 1) := by decide +kernel
theorem dX0_buyBags_58 : decode cX0_buyBags 58 = .ok (.putfield 39, 3) := by decide +kernel
theorem dX0_buyBags_61 : decode cX0_buyBags 61 = .ok (.aload_n 0, 1) := by decide +kernel
theorem dX0_buyBags_62 : decode cX0_buyBags 62 = .ok (.dup, 1) := by decide +kernel
theorem dX0_buyBags_63 : decode cX0_buyBags 63 = .ok (.getfield 15, 3) := by decide +kernel
theorem dX0_buyBags_66 : decode cX0_buyBags 66 = .ok (.iload_n 3, 1) := by decide +kernel
theorem dX0_buyBags_67 : decode cX0_buyBags 67 = .ok (.isub, 1) := by decide +kernel
theorem dX0_buyBags_68 : decode cX0_buyBags 68 = .ok (.putfield 15, 3) := by decide +kernel
theorem dX0_buyBags_71 : decode cX0_buyBags 71 = .ok (.aload_n 0, 1) := by decide +kernel
theorem dX0_buyBags_72 : decode cX0_buyBags 72 = .ok (.dup, 1) := by decide +kernel
theorem dX0_buyBags_73 : decode cX0_buyBags 73 = .ok (.getfield 21, 3) := by decide +kernel
theorem dX0_buyBags_76 : decode cX0_buyBags 76 = .ok (.iload_n 3, 1) := by decide +kernel
theorem dX0_buyBags_77 : decode cX0_buyBags 77 = .ok (.iadd, 1) := by decide +kernel
theorem dX0_buyBags_78 : decode cX0_buyBags 78 = .ok (.putfield 21, 3) := by decide +kernel
theorem dX0_buyBags_81 : decode cX0_buyBags 81 = .ok (.aload_n 0, 1) := by decide +kernel
theorem dX0_buyBags_82 : decode cX0_buyBags 82 = .ok (.dup, 1) := by decide +kernel
theorem dX0_buyBags_83 : decode cX0_buyBags 83 = .ok (.getfield 18, 3) := by decide +kernel
theorem dX0_buyBags_86 : decode cX0_buyBags 86 = .ok (.iconst 1, 1) := by decide +kernel
theorem dX0_buyBags_87 : decode cX0_buyBags 87 = .ok (.iadd, 1) := by decide +kernel
theorem dX0_buyBags_88 : decode cX0_buyBags 88 = .ok (.putfield 18, 3) := by decide +kernel
theorem dX0_buyBags_91 : decode cX0_buyBags 91 = .ok (.aload_n 0, 1) := by decide +kernel
theorem dX0_buyBags_92 : decode cX0_buyBags 92 = .ok (.dup, 1) := by decide +kernel
theorem dX0_buyBags_93 : decode cX0_buyBags 93 = .ok (.getfield 27, 3) := by decide +kernel
theorem dX0_buyBags_96 : decode cX0_buyBags 96 = .ok (.getstatic 30, 3) := by decide +kernel
theorem dX0_buyBags_99 : decode cX0_buyBags 99 = .ok (.iload_n 2, 1) := by decide +kernel
theorem dX0_buyBags_100 : decode cX0_buyBags 100 = .ok (.iaload, 1) := by decide +kernel
theorem dX0_buyBags_101 : decode cX0_buyBags 101 = .ok (.iadd, 1) := by decide +kernel
theorem dX0_buyBags_102 : decode cX0_buyBags 102 = .ok (.putfield 27, 3) := by decide +kernel
theorem dX0_buyBags_105 : decode cX0_buyBags 105 = .ok (.goto (-81), 3) := by decide +kernel
theorem dX0_buyBags_108 : decode cX0_buyBags 108 = .ok (.iinc 2 1, 3) := by decide +kernel
theorem dX0_buyBags_111 : decode cX0_buyBags 111 = .ok (.goto (-109), 3) := by decide +kernel
theorem dX0_buyBags_114 : decode cX0_buyBags 114 = .ok (.return_, 1) := by decide +kernel
theorem dX0_collectDebt_0 : decode cX0_collectDebt 0 = .ok (.aload_n 1, 1) := by decide +kernel
theorem dX0_collectDebt_1 : decode cX0_collectDebt 1 = .ok (.getfield 40, 3) := by decide +kernel
theorem dX0_collectDebt_4 : decode cX0_collectDebt 4 = .ok (.aload_n 1, 1) := by decide +kernel
theorem dX0_collectDebt_5 : decode cX0_collectDebt 5 = .ok (.getfield 39, 3) := by decide +kernel
theorem dX0_collectDebt_8 : decode cX0_collectDebt 8 = .ok (.invokestatic 43, 3) := by decide +kernel
theorem dX0_collectDebt_11 : decode cX0_collectDebt 11 = .ok (.istore_n 2, 1) := by decide +kernel
theorem dX0_collectDebt_12 : decode cX0_collectDebt 12 = .ok (.aload_n 1, 1) := by decide +kernel
theorem dX0_collectDebt_13 : decode cX0_collectDebt 13 = .ok (.dup, 1) := by decide +kernel
theorem dX0_collectDebt_14 : decode cX0_collectDebt 14 = .ok (.getfield 40, 3) := by decide +kernel
theorem dX0_collectDebt_17 : decode cX0_collectDebt 17 = .ok (.iload_n 2, 1) := by decide +kernel
theorem dX0_collectDebt_18 : decode cX0_collectDebt 18 = .ok (.isub, 1) := by decide +kernel
theorem dX0_collectDebt_19 : decode cX0_collectDebt 19 = .ok (.putfield 40, 3) := by decide +kernel
theorem dX0_collectDebt_22 : decode cX0_collectDebt 22 = .ok (.aload_n 1, 1) := by decide +kernel
theorem dX0_collectDebt_23 : decode cX0_collectDebt 23 = .ok (.dup, 1) := by decide +kernel
theorem dX0_collectDebt_24 : decode cX0_collectDebt 24 = .ok (.getfield 39, 3) := by decide +kernel
theorem dX0_collectDebt_27 : decode cX0_collectDebt 27 = .ok (.iload_n 2, 1) := by decide +kernel
theorem dX0_collectDebt_28 : decode cX0_collectDebt 28 = .ok (.isub, 1) := by decide +kernel
theorem dX0_collectDebt_29 : decode cX0_collectDebt 29 = .ok (.putfield 39, 3) := by decide +kernel
theorem dX0_collectDebt_32 : decode cX0_collectDebt 32 = .ok (.aload_n 0, 1) := by decide +kernel
theorem dX0_collectDebt_33 : decode cX0_collectDebt 33 = .ok (.dup, 1) := by decide +kernel
theorem dX0_collectDebt_34 : decode cX0_collectDebt 34 = .ok (.getfield 15, 3) := by decide +kernel
theorem dX0_collectDebt_37 : decode cX0_collectDebt 37 = .ok (.iload_n 2, 1) := by decide +kernel
theorem dX0_collectDebt_38 : decode cX0_collectDebt 38 = .ok (.iadd, 1) := by decide +kernel
theorem dX0_collectDebt_39 : decode cX0_collectDebt 39 = .ok (.putfield 15, 3) := by decide +kernel
theorem dX0_collectDebt_42 : decode cX0_collectDebt 42 = .ok (.return_, 1) := by decide +kernel
theorem dX0_deliver_0 : decode cX0_deliver 0 = .ok (.aload_n 0, 1) := by decide +kernel
theorem dX0_deliver_1 : decode cX0_deliver 1 = .ok (.dup, 1) := by decide +kernel
theorem dX0_deliver_2 : decode cX0_deliver 2 = .ok (.getfield 15, 3) := by decide +kernel
theorem dX0_deliver_5 : decode cX0_deliver 5 = .ok (.aload_n 0, 1) := by decide +kernel
theorem dX0_deliver_6 : decode cX0_deliver 6 = .ok (.getfield 27, 3) := by decide +kernel
theorem dX0_deliver_9 : decode cX0_deliver 9 = .ok (.iadd, 1) := by decide +kernel
theorem dX0_deliver_10 : decode cX0_deliver 10 = .ok (.putfield 15, 3) := by decide +kernel
theorem dX0_deliver_13 : decode cX0_deliver 13 = .ok (.aload_n 0, 1) := by decide +kernel
theorem dX0_deliver_14 : decode cX0_deliver 14 = .ok (.dup, 1) := by decide +kernel
theorem dX0_deliver_15 : decode cX0_deliver 15 = .ok (.getfield 24, 3) := by decide +kernel
theorem dX0_deliver_18 : decode cX0_deliver 18 = .ok (.aload_n 0, 1) := by decide +kernel
theorem dX0_deliver_19 : decode cX0_deliver 19 = .ok (.getfield 27, 3) := by decide +kernel
theorem dX0_deliver_22 : decode cX0_deliver 22 = .ok (.iadd, 1) := by decide +kernel
theorem dX0_deliver_23 : decode cX0_deliver 23 = .ok (.putfield 24, 3) := by decide +kernel
theorem dX0_deliver_26 : decode cX0_deliver 26 = .ok (.aload_n 0, 1) := by decide +kernel
theorem dX0_deliver_27 : decode cX0_deliver 27 = .ok (.iconst 0, 1) := by decide +kernel
theorem dX0_deliver_28 : decode cX0_deliver 28 = .ok (.putfield 27, 3) := by decide +kernel
theorem dX0_deliver_31 : decode cX0_deliver 31 = .ok (.return_, 1) := by decide +kernel
theorem dX1_init_0 : decode cX1_init 0 = .ok (.aload_n 0, 1) := by decide +kernel
theorem dX1_init_1 : decode cX1_init 1 = .ok (.invokespecial 3, 3) := by decide +kernel
theorem dX1_init_4 : decode cX1_init 4 = .ok (.aload_n 0, 1) := by decide +kernel
theorem dX1_init_5 : decode cX1_init 5 = .ok (.bipush 10, 2) := by decide +kernel
theorem dX1_init_7 : decode cX1_init 7 = .ok (.putfield 9, 3) := by decide +kernel
theorem dX1_init_10 : decode cX1_init 10 = .ok (.aload_n 0, 1) := by decide +kernel
theorem dX1_init_11 : decode cX1_init 11 = .ok (.iconst 5, 1) := by decide +kernel
theorem dX1_init_12 : decode cX1_init 12 = .ok (.putfield 15, 3) := by decide +kernel
theorem dX1_init_15 : decode cX1_init 15 = .ok (.aload_n 0, 1) := by decide +kernel
theorem dX1_init_16 : decode cX1_init 16 = .ok (.iconst 4, 1) := by decide +kernel
theorem dX1_init_17 : decode cX1_init 17 = .ok (.newarray .int, 2) := by decide +kernel
theorem dX1_init_19 : decode cX1_init 19 = .ok (.putfield 18, 3) := by decide +kernel
theorem dX1_init_22 : decode cX1_init 22 = .ok (.aload_n 0, 1) := by decide +kernel
theorem dX1_init_23 : decode cX1_init 23 = .ok (.iconst 4, 1) := by decide +kernel
theorem dX1_init_24 : decode cX1_init 24 = .ok (.newarray .int, 2) := by decide +kernel
theorem dX1_init_26 : decode cX1_init 26 = .ok (.putfield 22, 3) := by decide +kernel
theorem dX1_init_29 : decode cX1_init 29 = .ok (.return_, 1) := by decide +kernel
theorem dX1_begin_0 : decode cX1_begin 0 = .ok (.aload_n 0, 1) := by decide +kernel
theorem dX1_begin_1 : decode cX1_begin 1 = .ok (.iload_n 1, 1) := by decide +kernel
theorem dX1_begin_2 : decode cX1_begin 2 = .ok (.putfield 25, 3) := by decide +kernel
theorem dX1_begin_5 : decode cX1_begin 5 = .ok (.aload_n 0, 1) := by decide +kernel
theorem dX1_begin_6 : decode cX1_begin 6 = .ok (.iload_n 2, 1) := by decide +kernel
theorem dX1_begin_7 : decode cX1_begin 7 = .ok (.putfield 28, 3) := by decide +kernel
theorem dX1_begin_10 : decode cX1_begin 10 = .ok (.aload_n 0, 1) := by decide +kernel
theorem dX1_begin_11 : decode cX1_begin 11 = .ok (.iload_n 3, 1) := by decide +kernel
theorem dX1_begin_12 : decode cX1_begin 12 = .ok (.putfield 31, 3) := by decide +kernel
theorem dX1_begin_15 : decode cX1_begin 15 = .ok (.return_, 1) := by decide +kernel
theorem dX1_copyFrom_0 : decode cX1_copyFrom 0 = .ok (.aload_n 0, 1) := by decide +kernel
theorem dX1_copyFrom_1 : decode cX1_copyFrom 1 = .ok (.aload_n 1, 1) := by decide +kernel
theorem dX1_copyFrom_2 : decode cX1_copyFrom 2 = .ok (.getfield 25, 3) := by decide +kernel
theorem dX1_copyFrom_5 : decode cX1_copyFrom 5 = .ok (.putfield 25, 3) := by decide +kernel
theorem dX1_copyFrom_8 : decode cX1_copyFrom 8 = .ok (.aload_n 0, 1) := by decide +kernel
theorem dX1_copyFrom_9 : decode cX1_copyFrom 9 = .ok (.aload_n 1, 1) := by decide +kernel
theorem dX1_copyFrom_10 : decode cX1_copyFrom 10 = .ok (.getfield 28, 3) := by decide +kernel
theorem dX1_copyFrom_13 : decode cX1_copyFrom 13 = .ok (.putfield 28, 3) := by decide +kernel
theorem dX1_copyFrom_16 : decode cX1_copyFrom 16 = .ok (.aload_n 0, 1) := by decide +kernel
theorem dX1_copyFrom_17 : decode cX1_copyFrom 17 = .ok (.aload_n 1, 1) := by decide +kernel
theorem dX1_copyFrom_18 : decode cX1_copyFrom 18 = .ok (.getfield 31, 3) := by decide +kernel
theorem dX1_copyFrom_21 : decode cX1_copyFrom 21 = .ok (.putfield 31, 3) := by decide +kernel
theorem dX1_copyFrom_24 : decode cX1_copyFrom 24 = .ok (.aload_n 0, 1) := by decide +kernel
theorem dX1_copyFrom_25 : decode cX1_copyFrom 25 = .ok (.aload_n 1, 1) := by decide +kernel
theorem dX1_copyFrom_26 : decode cX1_copyFrom 26 = .ok (.getfield 34, 3) := by decide +kernel
theorem dX1_copyFrom_29 : decode cX1_copyFrom 29 = .ok (.putfield 34, 3) := by decide +kernel
theorem dX1_copyFrom_32 : decode cX1_copyFrom 32 = .ok (.aload_n 0, 1) := by decide +kernel
theorem dX1_copyFrom_33 : decode cX1_copyFrom 33 = .ok (.aload_n 1, 1) := by decide +kernel
theorem dX1_copyFrom_34 : decode cX1_copyFrom 34 = .ok (.getfield 37, 3) := by decide +kernel
theorem dX1_copyFrom_37 : decode cX1_copyFrom 37 = .ok (.putfield 37, 3) := by decide +kernel
theorem dX1_copyFrom_40 : decode cX1_copyFrom 40 = .ok (.aload_n 0, 1) := by decide +kernel
theorem dX1_copyFrom_41 : decode cX1_copyFrom 41 = .ok (.aload_n 1, 1) := by decide +kernel
theorem dX1_copyFrom_42 : decode cX1_copyFrom 42 = .ok (.getfield 40, 3) := by decide +kernel
theorem dX1_copyFrom_45 : decode cX1_copyFrom 45 = .ok (.putfield 40, 3) := by decide +kernel
theorem dX1_copyFrom_48 : decode cX1_copyFrom 48 = .ok (.aload_n 0, 1) := by decide +kernel
theorem dX1_copyFrom_49 : decode cX1_copyFrom 49 = .ok (.aload_n 1, 1) := by decide +kernel
theorem dX1_copyFrom_50 : decode cX1_copyFrom 50 = .ok (.getfield 9, 3) := by decide +kernel
theorem dX1_copyFrom_53 : decode cX1_copyFrom 53 = .ok (.putfield 9, 3) := by decide +kernel
theorem dX1_copyFrom_56 : decode cX1_copyFrom 56 = .ok (.aload_n 0, 1) := by decide +kernel
theorem dX1_copyFrom_57 : decode cX1_copyFrom 57 = .ok (.aload_n 1, 1) := by decide +kernel
theorem dX1_copyFrom_58 : decode cX1_copyFrom 58 = .ok (.getfield 15, 3) := by decide +kernel
theorem dX1_copyFrom_61 : decode cX1_copyFrom 61 = .ok (.putfield 15, 3) := by decide +kernel
theorem dX1_copyFrom_64 : decode cX1_copyFrom 64 = .ok (.aload_n 0, 1) := by decide +kernel
theorem dX1_copyFrom_65 : decode cX1_copyFrom 65 = .ok (.aload_n 1, 1) := by decide +kernel
theorem dX1_copyFrom_66 : decode cX1_copyFrom 66 = .ok (.getfield 43, 3) := by decide +kernel
theorem dX1_copyFrom_69 : decode cX1_copyFrom 69 = .ok (.putfield 43, 3) := by decide +kernel
theorem dX1_copyFrom_72 : decode cX1_copyFrom 72 = .ok (.aload_n 0, 1) := by decide +kernel
theorem dX1_copyFrom_73 : decode cX1_copyFrom 73 = .ok (.aload_n 1, 1) := by decide +kernel
theorem dX1_copyFrom_74 : decode cX1_copyFrom 74 = .ok (.getfield 46, 3) := by decide +kernel
theorem dX1_copyFrom_77 : decode cX1_copyFrom 77 = .ok (.putfield 46, 3) := by decide +kernel
theorem dX1_copyFrom_80 : decode cX1_copyFrom 80 = .ok (.aload_n 0, 1) := by decide +kernel
theorem dX1_copyFrom_81 : decode cX1_copyFrom 81 = .ok (.aload_n 1, 1) := by decide +kernel
theorem dX1_copyFrom_82 : decode cX1_copyFrom 82 = .ok (.getfield 49, 3) := by decide +kernel
theorem dX1_copyFrom_85 : decode cX1_copyFrom 85 = .ok (.putfield 49, 3) := by decide +kernel
theorem dX1_copyFrom_88 : decode cX1_copyFrom 88 = .ok (.aload_n 0, 1) := by decide +kernel
theorem dX1_copyFrom_89 : decode cX1_copyFrom 89 = .ok (.aload_n 1, 1) := by decide +kernel
theorem dX1_copyFrom_90 : decode cX1_copyFrom 90 = .ok (.getfield 52, 3) := by decide +kernel
theorem dX1_copyFrom_93 : decode cX1_copyFrom 93 = .ok (.putfield 52, 3) := by decide +kernel
theorem dX1_copyFrom_96 : decode cX1_copyFrom 96 = .ok (.iconst 0, 1) := by decide +kernel
theorem dX1_copyFrom_97 : decode cX1_copyFrom 97 = .ok (.istore_n 2, 1) := by decide +kernel
theorem dX1_copyFrom_98 : decode cX1_copyFrom 98 = .ok (.iload_n 2, 1) := by decide +kernel
theorem dX1_copyFrom_99 : decode cX1_copyFrom 99 = .ok (.iconst 4, 1) := by decide +kernel
theorem dX1_copyFrom_100 : decode cX1_copyFrom 100 = .ok (.if_icmp .ge 33, 3) := by decide +kernel
theorem dX1_copyFrom_103 : decode cX1_copyFrom 103 = .ok (.aload_n 0, 1) := by decide +kernel
theorem dX1_copyFrom_104 : decode cX1_copyFrom 104 = .ok (.getfield 18, 3) := by decide +kernel
theorem dX1_copyFrom_107 : decode cX1_copyFrom 107 = .ok (.iload_n 2, 1) := by decide +kernel
theorem dX1_copyFrom_108 : decode cX1_copyFrom 108 = .ok (.aload_n 1, 1) := by decide +kernel
theorem dX1_copyFrom_109 : decode cX1_copyFrom 109 = .ok (.getfield 18, 3) := by decide +kernel
theorem dX1_copyFrom_112 : decode cX1_copyFrom 112 = .ok (.iload_n 2, 1) := by decide +kernel
theorem dX1_copyFrom_113 : decode cX1_copyFrom 113 = .ok (.iaload, 1) := by decide +kernel
theorem dX1_copyFrom_114 : decode cX1_copyFrom 114 = .ok (.iastore, 1) := by decide +kernel
theorem dX1_copyFrom_115 : decode cX1_copyFrom 115 = .ok (.aload_n 0, 1) := by decide +kernel
theorem dX1_copyFrom_116 : decode cX1_copyFrom 116 = .ok (.getfield 22, 3) := by decide +kernel
theorem dX1_copyFrom_119 : decode cX1_copyFrom 119 = .ok (.iload_n 2, 1) := by decide +kernel
theorem dX1_copyFrom_120 : decode cX1_copyFrom 120 = .ok (.aload_n 1, 1) := by decide +kernel
theorem dX1_copyFrom_121 : decode cX1_copyFrom 121 = .ok (.getfield 22, 3) := by decide +kernel
theorem dX1_copyFrom_124 : decode cX1_copyFrom 124 = .ok (.iload_n 2, 1) := by decide +kernel
theorem dX1_copyFrom_125 : decode cX1_copyFrom 125 = .ok (.iaload, 1) := by decide +kernel
theorem dX1_copyFrom_126 : decode cX1_copyFrom 126 = .ok (.iastore, 1) := by decide +kernel
theorem dX1_copyFrom_127 : decode cX1_copyFrom 127 = .ok (.iinc 2 1, 3) := by decide +kernel
theorem dX1_copyFrom_130 : decode cX1_copyFrom 130 = .ok (.goto (-32), 3) := by decide +kernel
theorem dX1_copyFrom_133 : decode cX1_copyFrom 133 = .ok (.return_, 1) := by decide +kernel
theorem dX1_workHours_0 : decode cX1_workHours 0 = .ok (.iconst 0, 1) := by decide +kernel
theorem dX1_workHours_1 : decode cX1_workHours 1 = .ok (.istore_n 2, 1) := by decide +kernel
theorem dX1_workHours_2 : decode cX1_workHours 2 = .ok (.iconst 0, 1) := by decide +kernel
theorem dX1_workHours_3 : decode cX1_workHours 3 = .ok (.istore_n 3, 1) := by decide +kernel
theorem dX1_workHours_4 : decode cX1_workHours 4 = .ok (.iload_n 3, 1) := by decide +kernel
theorem dX1_workHours_5 : decode cX1_workHours 5 = .ok (.iload_n 1, 1) := by decide +kernel
theorem dX1_workHours_6 : decode cX1_workHours 6 = .ok (.if_icmp .ge 16, 3) := by decide +kernel
theorem dX1_workHours_9 : decode cX1_workHours 9 = .ok (.iload_n 2, 1) := by decide +kernel
theorem dX1_workHours_10 : decode cX1_workHours 10 = .ok (.aload_n 0, 1) := by decide +kernel
theorem dX1_workHours_11 : decode cX1_workHours 11 = .ok (.invokevirtual 55, 3) := by decide +kernel
theorem dX1_workHours_14 : decode cX1_workHours 14 = .ok (.iadd, 1) := by decide +kernel
theorem dX1_workHours_15 : decode cX1_workHours 15 = .ok (.istore_n 2, 1) := by decide +kernel
theorem dX1_workHours_16 : decode cX1_workHours 16 = .ok (.iinc 3 1, 3) := by decide +kernel
theorem dX1_workHours_19 : decode cX1_workHours 19 = .ok (.goto (-15), 3) := by decide +kernel
theorem dX1_workHours_22 : decode cX1_workHours 22 = .ok (.iload_n 2, 1) := by decide +kernel
theorem dX1_workHours_23 : decode cX1_workHours 23 = .ok (.ireturn, 1) := by decide +kernel
theorem dX1_workHour_0 : decode cX1_workHour 0 = .ok (.aload_n 0, 1) := by decide +kernel
theorem dX1_workHour_1 : decode cX1_workHour 1 = .ok (.invokevirtual 59, 3) := by decide +kernel
theorem dX1_workHour_4 : decode cX1_workHour 4 = .ok (.aload_n 0, 1) := by decide +kernel
theorem dX1_workHour_5 : decode cX1_workHour 5 = .ok (.getfield 40, 3) := by decide +kernel
theorem dX1_workHour_8 : decode cX1_workHour 8 = .ok (.iconst 4, 1) := by decide +kernel
theorem dX1_workHour_9 : decode cX1_workHour 9 = .ok (.if_icmp .ge 5, 3) := by decide +kernel
theorem dX1_workHour_12 : decode cX1_workHour 12 = .ok (.iconst 0, 1) := by decide +kernel
theorem dX1_workHour_13 : decode cX1_workHour 13 = .ok (.ireturn, 1) := by decide +kernel
theorem dX1_workHour_14 : decode cX1_workHour 14 = .ok (.aload_n 0, 1) := by decide +kernel
theorem dX1_workHour_15 : decode cX1_workHour 15 = .ok (.aload_n 0, 1) := by decide +kernel
theorem dX1_workHour_16 : decode cX1_workHour 16 = .ok (.getfield 25, 3) := by decide +kernel
theorem dX1_workHour_19 : decode cX1_workHour 19 = .ok (.aload_n 0, 1) := by decide +kernel
theorem dX1_workHour_20 : decode cX1_workHour 20 = .ok (.getfield 40, 3) := by decide +kernel
theorem dX1_workHour_23 : decode cX1_workHour 23 = .ok (.imul, 1) := by decide +kernel
theorem dX1_workHour_24 : decode cX1_workHour 24 = .ok (.iconst 2, 1) := by decide +kernel
theorem dX1_workHour_25 : decode cX1_workHour 25 = .ok (.imul, 1) := by decide +kernel
theorem dX1_workHour_26 : decode cX1_workHour 26 = .ok (.aload_n 0, 1) := by decide +kernel
theorem dX1_workHour_27 : decode cX1_workHour 27 = .ok (.getfield 28, 3) := by decide +kernel
theorem dX1_workHour_30 : decode cX1_workHour 30 = .ok (.iconst 1, 1) := by decide +kernel
theorem dX1_workHour_31 : decode cX1_workHour 31 = .ok (.iadd, 1) := by decide +kernel
theorem dX1_workHour_32 : decode cX1_workHour 32 = .ok (.idiv, 1) := by decide +kernel
theorem dX1_workHour_33 : decode cX1_workHour 33 = .ok (.invokevirtual 62, 3) := by decide +kernel
theorem dX1_workHour_36 : decode cX1_workHour 36 = .ok (.istore_n 1, 1) := by decide +kernel
theorem dX1_workHour_37 : decode cX1_workHour 37 = .ok (.aload_n 0, 1) := by decide +kernel
theorem dX1_workHour_38 : decode cX1_workHour 38 = .ok (.getfield 40, 3) := by decide +kernel
theorem dX1_workHour_41 : decode cX1_workHour 41 = .ok (.bipush 8, 2) := by decide +kernel
theorem dX1_workHour_43 : decode cX1_workHour 43 = .ok (.if_icmp .lt 10, 3) := by decide +kernel
theorem dX1_workHour_46 : decode cX1_workHour 46 = .ok (.iload_n 1, 1) := by decide +kernel
theorem dX1_workHour_47 : decode cX1_workHour 47 = .ok (.bipush 10, 2) := by decide +kernel
theorem dX1_workHour_49 : decode cX1_workHour 49 = .ok (.idiv, 1) := by decide +kernel
theorem dX1_workHour_50 : decode cX1_workHour 50 = .ok (.goto 4, 3) := by decide +kernel
theorem dX1_workHour_53 : decode cX1_workHour 53 = .ok (.iconst 0, 1) := by decide +kernel
theorem dX1_workHour_54 : decode cX1_workHour 54 = .ok (.istore_n 2, 1) := by decide +kernel
theorem dX1_workHour_55 : decode cX1_workHour 55 = .ok (.aload_n 0, 1) := by decide +kernel
theorem dX1_workHour_56 : decode cX1_workHour 56 = .ok (.dup, 1) := by decide +kernel
theorem dX1_workHour_57 : decode cX1_workHour 57 = .ok (.getfield 49, 3) := by decide +kernel
theorem dX1_workHour_60 : decode cX1_workHour 60 = .ok (.iload_n 2, 1) := by decide +kernel
theorem dX1_workHour_61 : decode cX1_workHour 61 = .ok (.iadd, 1) := by decide +kernel
theorem dX1_workHour_62 : decode cX1_workHour 62 = .ok (.putfield 49, 3) := by decide +kernel
theorem dX1_workHour_65 : decode cX1_workHour 65 = .ok (.aload_n 0, 1) := by decide +kernel
theorem dX1_workHour_66 : decode cX1_workHour 66 = .ok (.iload_n 1, 1) := by decide +kernel
theorem dX1_workHour_67 : decode cX1_workHour 67 = .ok (.iload_n 2, 1) := by decide +kernel
theorem dX1_workHour_68 : decode cX1_workHour 68 = .ok (.isub, 1) := by decide +kernel
theorem dX1_workHour_69 : decode cX1_workHour 69 = .ok (.invokevirtual 66, 3) := by decide +kernel
theorem dX1_workHour_72 : decode cX1_workHour 72 = .ok (.iload_n 1, 1) := by decide +kernel
theorem dX1_workHour_73 : decode cX1_workHour 73 = .ok (.iload_n 2, 1) := by decide +kernel
theorem dX1_workHour_74 : decode cX1_workHour 74 = .ok (.isub, 1) := by decide +kernel
theorem dX1_workHour_75 : decode cX1_workHour 75 = .ok (.ireturn, 1) := by decide +kernel
theorem dX1_tendFire_0 : decode cX1_tendFire 0 = .ok (.aload_n 0, 1) := by decide +kernel
theorem dX1_tendFire_1 : decode cX1_tendFire 1 = .ok (.getfield 9, 3) := by decide +kernel
theorem dX1_tendFire_4 : decode cX1_tendFire 4 = .ok (.ifCond .le 31, 3) := by decide +kernel
theorem dX1_tendFire_7 : decode cX1_tendFire 7 = .ok (.aload_n 0, 1) := by decide +kernel
theorem dX1_tendFire_8 : decode cX1_tendFire 8 = .ok (.dup, 1) := by decide +kernel
theorem dX1_tendFire_9 : decode cX1_tendFire 9 = .ok (.getfield 9, 3) := by decide +kernel
theorem dX1_tendFire_12 : decode cX1_tendFire 12 = .ok (.iconst 1, 1) := by decide +kernel
theorem dX1_tendFire_13 : decode cX1_tendFire 13 = .ok (.isub, 1) := by decide +kernel
theorem dX1_tendFire_14 : decode cX1_tendFire 14 = .ok (.putfield 9, 3) := by decide +kernel
theorem dX1_tendFire_17 : decode cX1_tendFire 17 = .ok (.aload_n 0, 1) := by decide +kernel
theorem dX1_tendFire_18 : decode cX1_tendFire 18 = .ok (.aload_n 0, 1) := by decide +kernel
theorem dX1_tendFire_19 : decode cX1_tendFire 19 = .ok (.getfield 40, 3) := by decide +kernel
theorem dX1_tendFire_22 : decode cX1_tendFire 22 = .ok (.iconst 2, 1) := by decide +kernel
theorem dX1_tendFire_23 : decode cX1_tendFire 23 = .ok (.iadd, 1) := by decide +kernel
theorem dX1_tendFire_24 : decode cX1_tendFire 24 = .ok (.bipush 9, 2) := by decide +kernel
theorem dX1_tendFire_26 : decode cX1_tendFire 26 = .ok (.invokestatic 70, 3) := by decide +kernel
theorem dX1_tendFire_29 : decode cX1_tendFire 29 = .ok (.putfield 40, 3) := by decide +kernel
theorem dX1_tendFire_32 : decode cX1_tendFire 32 = .ok (.goto 17, 3) := by decide +kernel
theorem dX1_tendFire_35 : decode cX1_tendFire 35 = .ok (.aload_n 0, 1) := by decide +kernel
theorem dX1_tendFire_36 : decode cX1_tendFire 36 = .ok (.aload_n 0, 1) := by decide +kernel
theorem dX1_tendFire_37 : decode cX1_tendFire 37 = .ok (.getfield 40, 3) := by decide +kernel
theorem dX1_tendFire_40 : decode cX1_tendFire 40 = .ok (.iconst 3, 1) := by decide +kernel
theorem dX1_tendFire_41 : decode cX1_tendFire 41 = .ok (.isub, 1) := by decide +kernel
theorem dX1_tendFire_42 : decode cX1_tendFire 42 = .ok (.iconst 0, 1) := by decide +kernel
theorem dX1_tendFire_43 : decode cX1_tendFire 43 = .ok (.invokestatic 76, 3) := by decide +kernel
theorem dX1_tendFire_46 : decode cX1_tendFire 46 = .ok (.putfield 40, 3) := by decide +kernel
theorem dX1_tendFire_49 : decode cX1_tendFire 49 = .ok (.return_, 1) := by decide +kernel
theorem dX1_head_0 : decode cX1_head 0 = .ok (.aload_n 0, 1) := by decide +kernel
theorem dX1_head_1 : decode cX1_head 1 = .ok (.iload_n 1, 1) := by decide +kernel
theorem dX1_head_2 : decode cX1_head 2 = .ok (.invokevirtual 79, 3) := by decide +kernel
theorem dX1_head_5 : decode cX1_head 5 = .ok (.istore_n 2, 1) := by decide +kernel
theorem dX1_head_6 : decode cX1_head 6 = .ok (.iload_n 2, 1) := by decide +kernel
theorem dX1_head_7 : decode cX1_head 7 = .ok (.iload_n 1, 1) := by decide +kernel
theorem dX1_head_8 : decode cX1_head 8 = .ok (.if_icmp .ge 53, 3) := by decide +kernel
theorem dX1_head_11 : decode cX1_head 11 = .ok (.aload_n 0, 1) := by decide +kernel
theorem dX1_head_12 : decode cX1_head 12 = .ok (.getfield 34, 3) := by decide +kernel
theorem dX1_head_15 : decode cX1_head 15 = .ok (.ifCond .le 46, 3) := by decide +kernel
theorem dX1_head_18 : decode cX1_head 18 = .ok (.aload_n 0, 1) := by decide +kernel
theorem dX1_head_19 : decode cX1_head 19 = .ok (.dup, 1) := by decide +kernel
theorem dX1_head_20 : decode cX1_head 20 = .ok (.getfield 34, 3) := by decide +kernel
theorem dX1_head_23 : decode cX1_head 23 = .ok (.iconst 1, 1) := by decide +kernel
theorem dX1_head_24 : decode cX1_head 24 = .ok (.isub, 1) := by decide +kernel
theorem dX1_head_25 : decode cX1_head 25 = .ok (.putfield 34, 3) := by decide +kernel
theorem dX1_head_28 : decode cX1_head 28 = .ok (.aload_n 0, 1) := by decide +kernel
theorem dX1_head_29 : decode cX1_head 29 = .ok (.dup, 1) := by decide +kernel
theorem dX1_head_30 : decode cX1_head 30 = .ok (.getfield 46, 3) := by decide +kernel
theorem dX1_head_33 : decode cX1_head 33 = .ok (.aload_n 0, 1) := by decide +kernel
theorem dX1_head_34 : decode cX1_head 34 = .ok (.getfield 37, 3) := by decide +kernel
theorem dX1_head_37 : decode cX1_head 37 = .ok (.iadd, 1) := by decide +kernel
theorem dX1_head_38 : decode cX1_head 38 = .ok (.putfield 46, 3) := by decide +kernel
theorem dX1_head_41 : decode cX1_head 41 = .ok (.aload_n 0, 1) := by decide +kernel
theorem dX1_head_42 : decode cX1_head 42 = .ok (.sipush 240, 3) := by decide +kernel
theorem dX1_head_45 : decode cX1_head 45 = .ok (.putfield 37, 3) := by decide +kernel
theorem dX1_head_48 : decode cX1_head 48 = .ok (.iload_n 2, 1) := by decide +kernel
theorem dX1_head_49 : decode cX1_head 49 = .ok (.aload_n 0, 1) := by decide +kernel
theorem dX1_head_50 : decode cX1_head 50 = .ok (.iload_n 1, 1) := by decide +kernel
theorem dX1_head_51 : decode cX1_head 51 = .ok (.iload_n 2, 1) := by decide +kernel
theorem dX1_head_52 : decode cX1_head 52 = .ok (.isub, 1) := by decide +kernel
theorem dX1_head_53 : decode cX1_head 53 = .ok (.invokevirtual 79, 3) := by decide +kernel
theorem dX1_head_56 : decode cX1_head 56 = .ok (.iadd, 1) := by decide +kernel
theorem dX1_head_57 : decode cX1_head 57 = .ok (.istore_n 2, 1) := by decide +kernel
theorem dX1_head_58 : decode cX1_head 58 = .ok (.goto (-52), 3) := by decide +kernel
theorem dX1_head_61 : decode cX1_head 61 = .ok (.iload_n 2, 1) := by decide +kernel
theorem dX1_head_62 : decode cX1_head 62 = .ok (.ireturn, 1) := by decide +kernel
theorem dX1_headFromHand_0 : decode cX1_headFromHand 0 = .ok (.iload_n 1, 1) := by decide +kernel
theorem dX1_headFromHand_1 : decode cX1_headFromHand 1 = .ok (.aload_n 0, 1) := by decide +kernel
theorem dX1_headFromHand_2 : decode cX1_headFromHand 2 = .ok (.getfield 37, 3) := by decide +kernel
theorem dX1_headFromHand_5 : decode cX1_headFromHand 5 = .ok (.getstatic 82, 3) := by decide +kernel
theorem dX1_headFromHand_8 : decode cX1_headFromHand 8 = .ok (.aload_n 0, 1) := by decide +kernel
theorem dX1_headFromHand_9 : decode cX1_headFromHand 9 = .ok (.getfield 28, 3) := by decide +kernel
theorem dX1_headFromHand_12 : decode cX1_headFromHand 12 = .ok (.iaload, 1) := by decide +kernel
theorem dX1_headFromHand_13 : decode cX1_headFromHand 13 = .ok (.idiv, 1) := by decide +kernel
theorem dX1_headFromHand_14 : decode cX1_headFromHand 14 = .ok (.invokestatic 70, 3) := by decide +kernel
theorem dX1_headFromHand_17 : decode cX1_headFromHand 17 = .ok (.istore_n 2, 1) := by decide +kernel
theorem dX1_headFromHand_18 : decode cX1_headFromHand 18 = .ok (.aload_n 0, 1) := by decide +kernel
theorem dX1_headFromHand_19 : decode cX1_headFromHand 19 = .ok (.dup, 1) := by decide +kernel
theorem dX1_headFromHand_20 : decode cX1_headFromHand 20 = .ok (.getfield 37, 3) := by decide +kernel
theorem dX1_headFromHand_23 : decode cX1_headFromHand 23 = .ok (.iload_n 2, 1) := by decide +kernel
theorem dX1_headFromHand_24 : decode cX1_headFromHand 24 = .ok (.getstatic 82, 3) := by decide +kernel
theorem dX1_headFromHand_27 : decode cX1_headFromHand 27 = .ok (.aload_n 0, 1) := by decide +kernel
theorem dX1_headFromHand_28 : decode cX1_headFromHand 28 = .ok (.getfield 28, 3) := by decide +kernel
theorem dX1_headFromHand_31 : decode cX1_headFromHand 31 = .ok (.iaload, 1) := by decide +kernel
theorem dX1_headFromHand_32 : decode cX1_headFromHand 32 = .ok (.imul, 1) := by decide +kernel
theorem dX1_headFromHand_33 : decode cX1_headFromHand 33 = .ok (.isub, 1) := by decide +kernel
theorem dX1_headFromHand_34 : decode cX1_headFromHand 34 = .ok (.putfield 37, 3) := by decide +kernel
theorem dX1_headFromHand_37 : decode cX1_headFromHand 37 = .ok (.iload_n 2, 1) := by decide +kernel
theorem dX1_headFromHand_38 : decode cX1_headFromHand 38 = .ok (.ireturn, 1) := by decide +kernel
theorem dX1_store_0 : decode cX1_store 0 = .ok (.aload_n 0, 1) := by decide +kernel
theorem dX1_store_1 : decode cX1_store 1 = .ok (.dup, 1) := by decide +kernel
theorem dX1_store_2 : decode cX1_store 2 = .ok (.getfield 52, 3) := by decide +kernel
theorem dX1_store_5 : decode cX1_store 5 = .ok (.iload_n 1, 1) := by decide +kernel
end
section
theorem dX1_store_6 : decode cX1_store 6 = .ok (.iadd, 1) := by decide +kernel
theorem dX1_store_7 : decode cX1_store 7 = .ok (.putfield 52, 3) := by decide +kernel
theorem dX1_store_10 : decode cX1_store 10 = .ok (.aload_n 0, 1) := by decide +kernel
theorem dX1_store_11 : decode cX1_store 11 = .ok (.getfield 18, 3) := by decide +kernel
theorem dX1_store_14 : decode cX1_store 14 = .ok (.aload_n 0, 1) := by decide +kernel
theorem dX1_store_15 : decode cX1_store 15 = .ok (.getfield 28, 3) := by decide +kernel
theorem dX1_store_18 : decode cX1_store 18 = .ok (.dup2, 1) := by decide +kernel
theorem dX1_store_19 : decode cX1_store 19 = .ok (.iaload, 1) := by decide +kernel
theorem dX1_store_20 : decode cX1_store 20 = .ok (.iload_n 1, 1) := by decide +kernel
theorem dX1_store_21 : decode cX1_store 21 = .ok (.iadd, 1) := by decide +kernel
theorem dX1_store_22 : decode cX1_store 22 = .ok (.iastore, 1) := by decide +kernel
theorem dX1_store_23 : decode cX1_store 23 = .ok (.aload_n 0, 1) := by decide +kernel
theorem dX1_store_24 : decode cX1_store 24 = .ok (.getfield 22, 3) := by decide +kernel
theorem dX1_store_27 : decode cX1_store 27 = .ok (.aload_n 0, 1) := by decide +kernel
theorem dX1_store_28 : decode cX1_store 28 = .ok (.getfield 28, 3) := by decide +kernel
theorem dX1_store_31 : decode cX1_store 31 = .ok (.dup2, 1) := by decide +kernel
theorem dX1_store_32 : decode cX1_store 32 = .ok (.iaload, 1) := by decide +kernel
theorem dX1_store_33 : decode cX1_store 33 = .ok (.aload_n 0, 1) := by decide +kernel
theorem dX1_store_34 : decode cX1_store 34 = .ok (.getfield 18, 3) := by decide +kernel
theorem dX1_store_37 : decode cX1_store 37 = .ok (.aload_n 0, 1) := by decide +kernel
theorem dX1_store_38 : decode cX1_store 38 = .ok (.getfield 28, 3) := by decide +kernel
theorem dX1_store_41 : decode cX1_store 41 = .ok (.iaload, 1) := by decide +kernel
theorem dX1_store_42 : decode cX1_store 42 = .ok (.sipush 1000, 3) := by decide +kernel
theorem dX1_store_45 : decode cX1_store 45 = .ok (.idiv, 1) := by decide +kernel
theorem dX1_store_46 : decode cX1_store 46 = .ok (.iadd, 1) := by decide +kernel
theorem dX1_store_47 : decode cX1_store 47 = .ok (.iastore, 1) := by decide +kernel
theorem dX1_store_48 : decode cX1_store 48 = .ok (.aload_n 0, 1) := by decide +kernel
theorem dX1_store_49 : decode cX1_store 49 = .ok (.getfield 18, 3) := by decide +kernel
theorem dX1_store_52 : decode cX1_store 52 = .ok (.aload_n 0, 1) := by decide +kernel
theorem dX1_store_53 : decode cX1_store 53 = .ok (.getfield 28, 3) := by decide +kernel
theorem dX1_store_56 : decode cX1_store 56 = .ok (.dup2, 1) := by decide +kernel
theorem dX1_store_57 : decode cX1_store 57 = .ok (.iaload, 1) := by decide +kernel
theorem dX1_store_58 : decode cX1_store 58 = .ok (.sipush 1000, 3) := by decide +kernel
theorem dX1_store_61 : decode cX1_store 61 = .ok (.irem, 1) := by decide +kernel
theorem dX1_store_62 : decode cX1_store 62 = .ok (.iastore, 1) := by decide +kernel
theorem dX1_store_63 : decode cX1_store 63 = .ok (.return_, 1) := by decide +kernel
theorem dX1_number_0 : decode cX1_number 0 = .ok (.iload_n 1, 1) := by decide +kernel
theorem dX1_number_1 : decode cX1_number 1 = .ok (.tableswitch 114 0 10 #[59, 64, 69, 74, 79, 84, 89, 94, 99, 104, 109], 59) := by decide +kernel
theorem dX1_number_60 : decode cX1_number 60 = .ok (.aload_n 0, 1) := by decide +kernel
theorem dX1_number_61 : decode cX1_number 61 = .ok (.getfield 25, 3) := by decide +kernel
theorem dX1_number_64 : decode cX1_number 64 = .ok (.ireturn, 1) := by decide +kernel
theorem dX1_number_65 : decode cX1_number 65 = .ok (.aload_n 0, 1) := by decide +kernel
theorem dX1_number_66 : decode cX1_number 66 = .ok (.getfield 28, 3) := by decide +kernel
theorem dX1_number_69 : decode cX1_number 69 = .ok (.ireturn, 1) := by decide +kernel
theorem dX1_number_70 : decode cX1_number 70 = .ok (.aload_n 0, 1) := by decide +kernel
theorem dX1_number_71 : decode cX1_number 71 = .ok (.getfield 31, 3) := by decide +kernel
theorem dX1_number_74 : decode cX1_number 74 = .ok (.ireturn, 1) := by decide +kernel
theorem dX1_number_75 : decode cX1_number 75 = .ok (.aload_n 0, 1) := by decide +kernel
theorem dX1_number_76 : decode cX1_number 76 = .ok (.getfield 34, 3) := by decide +kernel
theorem dX1_number_79 : decode cX1_number 79 = .ok (.ireturn, 1) := by decide +kernel
theorem dX1_number_80 : decode cX1_number 80 = .ok (.aload_n 0, 1) := by decide +kernel
theorem dX1_number_81 : decode cX1_number 81 = .ok (.getfield 37, 3) := by decide +kernel
theorem dX1_number_84 : decode cX1_number 84 = .ok (.ireturn, 1) := by decide +kernel
theorem dX1_number_85 : decode cX1_number 85 = .ok (.aload_n 0, 1) := by decide +kernel
theorem dX1_number_86 : decode cX1_number 86 = .ok (.getfield 40, 3) := by decide +kernel
theorem dX1_number_89 : decode cX1_number 89 = .ok (.ireturn, 1) := by decide +kernel
theorem dX1_number_90 : decode cX1_number 90 = .ok (.aload_n 0, 1) := by decide +kernel
theorem dX1_number_91 : decode cX1_number 91 = .ok (.getfield 9, 3) := by decide +kernel
theorem dX1_number_94 : decode cX1_number 94 = .ok (.ireturn, 1) := by decide +kernel
theorem dX1_number_95 : decode cX1_number 95 = .ok (.aload_n 0, 1) := by decide +kernel
theorem dX1_number_96 : decode cX1_number 96 = .ok (.getfield 15, 3) := by decide +kernel
theorem dX1_number_99 : decode cX1_number 99 = .ok (.ireturn, 1) := by decide +kernel
theorem dX1_number_100 : decode cX1_number 100 = .ok (.aload_n 0, 1) := by decide +kernel
theorem dX1_number_101 : decode cX1_number 101 = .ok (.getfield 43, 3) := by decide +kernel
theorem dX1_number_104 : decode cX1_number 104 = .ok (.ireturn, 1) := by decide +kernel
theorem dX1_number_105 : decode cX1_number 105 = .ok (.aload_n 0, 1) := by decide +kernel
theorem dX1_number_106 : decode cX1_number 106 = .ok (.getfield 46, 3) := by decide +kernel
theorem dX1_number_109 : decode cX1_number 109 = .ok (.ireturn, 1) := by decide +kernel
theorem dX1_number_110 : decode cX1_number 110 = .ok (.aload_n 0, 1) := by decide +kernel
theorem dX1_number_111 : decode cX1_number 111 = .ok (.getfield 49, 3) := by decide +kernel
theorem dX1_number_114 : decode cX1_number 114 = .ok (.ireturn, 1) := by decide +kernel
theorem dX1_number_115 : decode cX1_number 115 = .ok (.aload_n 0, 1) := by decide +kernel
theorem dX1_number_116 : decode cX1_number 116 = .ok (.getfield 52, 3) := by decide +kernel
theorem dX1_number_119 : decode cX1_number 119 = .ok (.ireturn, 1) := by decide +kernel
theorem dX1_shareOfTotal_0 : decode cX1_shareOfTotal 0 = .ok (.iload_n 1, 1) := by decide +kernel
theorem dX1_shareOfTotal_1 : decode cX1_shareOfTotal 1 = .ok (.tableswitch 97 2 9 #[47, 61, 66, 74, 97, 82, 87, 92], 47) := by decide +kernel
theorem dX1_shareOfTotal_48 : decode cX1_shareOfTotal 48 = .ok (.aload_n 0, 1) := by decide +kernel
theorem dX1_shareOfTotal_49 : decode cX1_shareOfTotal 49 = .ok (.getfield 40, 3) := by decide +kernel
theorem dX1_shareOfTotal_52 : decode cX1_shareOfTotal 52 = .ok (.iconst 4, 1) := by decide +kernel
theorem dX1_shareOfTotal_53 : decode cX1_shareOfTotal 53 = .ok (.if_icmp .lt 7, 3) := by decide +kernel
theorem dX1_shareOfTotal_56 : decode cX1_shareOfTotal 56 = .ok (.iconst 1, 1) := by decide +kernel
theorem dX1_shareOfTotal_57 : decode cX1_shareOfTotal 57 = .ok (.goto 4, 3) := by decide +kernel
theorem dX1_shareOfTotal_60 : decode cX1_shareOfTotal 60 = .ok (.iconst 0, 1) := by decide +kernel
theorem dX1_shareOfTotal_61 : decode cX1_shareOfTotal 61 = .ok (.ireturn, 1) := by decide +kernel
theorem dX1_shareOfTotal_62 : decode cX1_shareOfTotal 62 = .ok (.aload_n 0, 1) := by decide +kernel
theorem dX1_shareOfTotal_63 : decode cX1_shareOfTotal 63 = .ok (.getfield 34, 3) := by decide +kernel
theorem dX1_shareOfTotal_66 : decode cX1_shareOfTotal 66 = .ok (.ireturn, 1) := by decide +kernel
theorem dX1_shareOfTotal_67 : decode cX1_shareOfTotal 67 = .ok (.aload_n 0, 1) := by decide +kernel
theorem dX1_shareOfTotal_68 : decode cX1_shareOfTotal 68 = .ok (.getfield 18, 3) := by decide +kernel
theorem dX1_shareOfTotal_71 : decode cX1_shareOfTotal 71 = .ok (.invokestatic 85, 3) := by decide +kernel
theorem dX1_shareOfTotal_74 : decode cX1_shareOfTotal 74 = .ok (.ireturn, 1) := by decide +kernel
theorem dX1_shareOfTotal_75 : decode cX1_shareOfTotal 75 = .ok (.aload_n 0, 1) := by decide +kernel
theorem dX1_shareOfTotal_76 : decode cX1_shareOfTotal 76 = .ok (.getfield 22, 3) := by decide +kernel
theorem dX1_shareOfTotal_79 : decode cX1_shareOfTotal 79 = .ok (.invokestatic 85, 3) := by decide +kernel
theorem dX1_shareOfTotal_82 : decode cX1_shareOfTotal 82 = .ok (.ireturn, 1) := by decide +kernel
theorem dX1_shareOfTotal_83 : decode cX1_shareOfTotal 83 = .ok (.aload_n 0, 1) := by decide +kernel
theorem dX1_shareOfTotal_84 : decode cX1_shareOfTotal 84 = .ok (.getfield 15, 3) := by decide +kernel
theorem dX1_shareOfTotal_87 : decode cX1_shareOfTotal 87 = .ok (.ireturn, 1) := by decide +kernel
theorem dX1_shareOfTotal_88 : decode cX1_shareOfTotal 88 = .ok (.aload_n 0, 1) := by decide +kernel
theorem dX1_shareOfTotal_89 : decode cX1_shareOfTotal 89 = .ok (.getfield 43, 3) := by decide +kernel
theorem dX1_shareOfTotal_92 : decode cX1_shareOfTotal 92 = .ok (.ireturn, 1) := by decide +kernel
theorem dX1_shareOfTotal_93 : decode cX1_shareOfTotal 93 = .ok (.aload_n 0, 1) := by decide +kernel
theorem dX1_shareOfTotal_94 : decode cX1_shareOfTotal 94 = .ok (.getfield 46, 3) := by decide +kernel
theorem dX1_shareOfTotal_97 : decode cX1_shareOfTotal 97 = .ok (.ireturn, 1) := by decide +kernel
theorem dX1_shareOfTotal_98 : decode cX1_shareOfTotal 98 = .ok (.aload_n 0, 1) := by decide +kernel
theorem dX1_shareOfTotal_99 : decode cX1_shareOfTotal 99 = .ok (.getfield 49, 3) := by decide +kernel
theorem dX1_shareOfTotal_102 : decode cX1_shareOfTotal 102 = .ok (.ireturn, 1) := by decide +kernel
theorem dX1_sumOf_0 : decode cX1_sumOf 0 = .ok (.iconst 0, 1) := by decide +kernel
theorem dX1_sumOf_1 : decode cX1_sumOf 1 = .ok (.istore_n 1, 1) := by decide +kernel
theorem dX1_sumOf_2 : decode cX1_sumOf 2 = .ok (.aload_n 0, 1) := by decide +kernel
theorem dX1_sumOf_3 : decode cX1_sumOf 3 = .ok (.astore_n 2, 1) := by decide +kernel
theorem dX1_sumOf_4 : decode cX1_sumOf 4 = .ok (.aload_n 2, 1) := by decide +kernel
theorem dX1_sumOf_5 : decode cX1_sumOf 5 = .ok (.arraylength, 1) := by decide +kernel
theorem dX1_sumOf_6 : decode cX1_sumOf 6 = .ok (.istore_n 3, 1) := by decide +kernel
theorem dX1_sumOf_7 : decode cX1_sumOf 7 = .ok (.iconst 0, 1) := by decide +kernel
theorem dX1_sumOf_8 : decode cX1_sumOf 8 = .ok (.istore 4, 2) := by decide +kernel
theorem dX1_sumOf_10 : decode cX1_sumOf 10 = .ok (.iload 4, 2) := by decide +kernel
theorem dX1_sumOf_12 : decode cX1_sumOf 12 = .ok (.iload_n 3, 1) := by decide +kernel
theorem dX1_sumOf_13 : decode cX1_sumOf 13 = .ok (.if_icmp .ge 20, 3) := by decide +kernel
theorem dX1_sumOf_16 : decode cX1_sumOf 16 = .ok (.aload_n 2, 1) := by decide +kernel
theorem dX1_sumOf_17 : decode cX1_sumOf 17 = .ok (.iload 4, 2) := by decide +kernel
theorem dX1_sumOf_19 : decode cX1_sumOf 19 = .ok (.iaload, 1) := by decide +kernel
theorem dX1_sumOf_20 : decode cX1_sumOf 20 = .ok (.istore 5, 2) := by decide +kernel
theorem dX1_sumOf_22 : decode cX1_sumOf 22 = .ok (.iload_n 1, 1) := by decide +kernel
theorem dX1_sumOf_23 : decode cX1_sumOf 23 = .ok (.iload 5, 2) := by decide +kernel
theorem dX1_sumOf_25 : decode cX1_sumOf 25 = .ok (.iadd, 1) := by decide +kernel
theorem dX1_sumOf_26 : decode cX1_sumOf 26 = .ok (.istore_n 1, 1) := by decide +kernel
theorem dX1_sumOf_27 : decode cX1_sumOf 27 = .ok (.iinc 4 1, 3) := by decide +kernel
theorem dX1_sumOf_30 : decode cX1_sumOf 30 = .ok (.goto (-20), 3) := by decide +kernel
theorem dX1_sumOf_33 : decode cX1_sumOf 33 = .ok (.iload_n 1, 1) := by decide +kernel
theorem dX1_sumOf_34 : decode cX1_sumOf 34 = .ok (.ireturn, 1) := by decide +kernel
theorem dX1_addToDigest_0 : decode cX1_addToDigest 0 = .ok (.lload_n 1, 1) := by decide +kernel
theorem dX1_addToDigest_1 : decode cX1_addToDigest 1 = .ok (.lstore_n 3, 1) := by decide +kernel
theorem dX1_addToDigest_2 : decode cX1_addToDigest 2 = .ok (.iconst 0, 1) := by decide +kernel
theorem dX1_addToDigest_3 : decode cX1_addToDigest 3 = .ok (.istore 5, 2) := by decide +kernel
theorem dX1_addToDigest_5 : decode cX1_addToDigest 5 = .ok (.iload 5, 2) := by decide +kernel
theorem dX1_addToDigest_7 : decode cX1_addToDigest 7 = .ok (.bipush 12, 2) := by decide +kernel
theorem dX1_addToDigest_9 : decode cX1_addToDigest 9 = .ok (.if_icmp .ge 23, 3) := by decide +kernel
theorem dX1_addToDigest_12 : decode cX1_addToDigest 12 = .ok (.lload_n 3, 1) := by decide +kernel
theorem dX1_addToDigest_13 : decode cX1_addToDigest 13 = .ok (.ldc2_w 89, 3) := by decide +kernel
theorem dX1_addToDigest_16 : decode cX1_addToDigest 16 = .ok (.lmul, 1) := by decide +kernel
theorem dX1_addToDigest_17 : decode cX1_addToDigest 17 = .ok (.aload_n 0, 1) := by decide +kernel
theorem dX1_addToDigest_18 : decode cX1_addToDigest 18 = .ok (.iload 5, 2) := by decide +kernel
theorem dX1_addToDigest_20 : decode cX1_addToDigest 20 = .ok (.invokevirtual 91, 3) := by decide +kernel
theorem dX1_addToDigest_23 : decode cX1_addToDigest 23 = .ok (.i2l, 1) := by decide +kernel
theorem dX1_addToDigest_24 : decode cX1_addToDigest 24 = .ok (.ladd, 1) := by decide +kernel
theorem dX1_addToDigest_25 : decode cX1_addToDigest 25 = .ok (.lstore_n 3, 1) := by decide +kernel
theorem dX1_addToDigest_26 : decode cX1_addToDigest 26 = .ok (.iinc 5 1, 3) := by decide +kernel
theorem dX1_addToDigest_29 : decode cX1_addToDigest 29 = .ok (.goto (-24), 3) := by decide +kernel
theorem dX1_addToDigest_32 : decode cX1_addToDigest 32 = .ok (.iconst 0, 1) := by decide +kernel
theorem dX1_addToDigest_33 : decode cX1_addToDigest 33 = .ok (.istore 5, 2) := by decide +kernel
theorem dX1_addToDigest_35 : decode cX1_addToDigest 35 = .ok (.iload 5, 2) := by decide +kernel
theorem dX1_addToDigest_37 : decode cX1_addToDigest 37 = .ok (.iconst 4, 1) := by decide +kernel
theorem dX1_addToDigest_38 : decode cX1_addToDigest 38 = .ok (.if_icmp .ge 39, 3) := by decide +kernel
theorem dX1_addToDigest_41 : decode cX1_addToDigest 41 = .ok (.lload_n 3, 1) := by decide +kernel
theorem dX1_addToDigest_42 : decode cX1_addToDigest 42 = .ok (.ldc2_w 89, 3) := by decide +kernel
theorem dX1_addToDigest_45 : decode cX1_addToDigest 45 = .ok (.lmul, 1) := by decide +kernel
theorem dX1_addToDigest_46 : decode cX1_addToDigest 46 = .ok (.aload_n 0, 1) := by decide +kernel
theorem dX1_addToDigest_47 : decode cX1_addToDigest 47 = .ok (.getfield 18, 3) := by decide +kernel
theorem dX1_addToDigest_50 : decode cX1_addToDigest 50 = .ok (.iload 5, 2) := by decide +kernel
theorem dX1_addToDigest_52 : decode cX1_addToDigest 52 = .ok (.iaload, 1) := by decide +kernel
theorem dX1_addToDigest_53 : decode cX1_addToDigest 53 = .ok (.i2l, 1) := by decide +kernel
theorem dX1_addToDigest_54 : decode cX1_addToDigest 54 = .ok (.ladd, 1) := by decide +kernel
theorem dX1_addToDigest_55 : decode cX1_addToDigest 55 = .ok (.lstore_n 3, 1) := by decide +kernel
theorem dX1_addToDigest_56 : decode cX1_addToDigest 56 = .ok (.lload_n 3, 1) := by decide +kernel
theorem dX1_addToDigest_57 : decode cX1_addToDigest 57 = .ok (.ldc2_w 89, 3) := by decide +kernel
theorem dX1_addToDigest_60 : decode cX1_addToDigest 60 = .ok (.lmul, 1) := by decide +kernel
theorem dX1_addToDigest_61 : decode cX1_addToDigest 61 = .ok (.aload_n 0, 1) := by decide +kernel
theorem dX1_addToDigest_62 : decode cX1_addToDigest 62 = .ok (.getfield 22, 3) := by decide +kernel
theorem dX1_addToDigest_65 : decode cX1_addToDigest 65 = .ok (.iload 5, 2) := by decide +kernel
theorem dX1_addToDigest_67 : decode cX1_addToDigest 67 = .ok (.iaload, 1) := by decide +kernel
theorem dX1_addToDigest_68 : decode cX1_addToDigest 68 = .ok (.i2l, 1) := by decide +kernel
theorem dX1_addToDigest_69 : decode cX1_addToDigest 69 = .ok (.ladd, 1) := by decide +kernel
theorem dX1_addToDigest_70 : decode cX1_addToDigest 70 = .ok (.lstore_n 3, 1) := by decide +kernel
theorem dX1_addToDigest_71 : decode cX1_addToDigest 71 = .ok (.iinc 5 1, 3) := by decide +kernel
theorem dX1_addToDigest_74 : decode cX1_addToDigest 74 = .ok (.goto (-39), 3) := by decide +kernel
theorem dX1_addToDigest_77 : decode cX1_addToDigest 77 = .ok (.lload_n 3, 1) := by decide +kernel
theorem dX1_addToDigest_78 : decode cX1_addToDigest 78 = .ok (.lreturn, 1) := by decide +kernel
theorem dX2_init_0 : decode cX2_init 0 = .ok (.aload_n 0, 1) := by decide +kernel
theorem dX2_init_1 : decode cX2_init 1 = .ok (.invokespecial 3, 3) := by decide +kernel
theorem dX2_init_4 : decode cX2_init 4 = .ok (.aload_n 0, 1) := by decide +kernel
theorem dX2_init_5 : decode cX2_init 5 = .ok (.bipush 12, 2) := by decide +kernel
theorem dX2_init_7 : decode cX2_init 7 = .ok (.anewarray 9, 3) := by decide +kernel
theorem dX2_init_10 : decode cX2_init 10 = .ok (.putfield 11, 3) := by decide +kernel
theorem dX2_init_13 : decode cX2_init 13 = .ok (.iconst 0, 1) := by decide +kernel
theorem dX2_init_14 : decode cX2_init 14 = .ok (.istore_n 1, 1) := by decide +kernel
theorem dX2_init_15 : decode cX2_init 15 = .ok (.iload_n 1, 1) := by decide +kernel
theorem dX2_init_16 : decode cX2_init 16 = .ok (.bipush 12, 2) := by decide +kernel
theorem dX2_init_18 : decode cX2_init 18 = .ok (.if_icmp .ge 22, 3) := by decide +kernel
theorem dX2_init_21 : decode cX2_init 21 = .ok (.aload_n 0, 1) := by decide +kernel
theorem dX2_init_22 : decode cX2_init 22 = .ok (.getfield 11, 3) := by decide +kernel
theorem dX2_init_25 : decode cX2_init 25 = .ok (.iload_n 1, 1) := by decide +kernel
theorem dX2_init_26 : decode cX2_init 26 = .ok (.new 9, 3) := by decide +kernel
theorem dX2_init_29 : decode cX2_init 29 = .ok (.dup, 1) := by decide +kernel
theorem dX2_init_30 : decode cX2_init 30 = .ok (.invokespecial 17, 3) := by decide +kernel
theorem dX2_init_33 : decode cX2_init 33 = .ok (.aastore, 1) := by decide +kernel
theorem dX2_init_34 : decode cX2_init 34 = .ok (.iinc 1 1, 3) := by decide +kernel
theorem dX2_init_37 : decode cX2_init 37 = .ok (.goto (-22), 3) := by decide +kernel
theorem dX2_init_40 : decode cX2_init 40 = .ok (.aload_n 0, 1) := by decide +kernel
theorem dX2_init_41 : decode cX2_init 41 = .ok (.iconst 4, 1) := by decide +kernel
theorem dX2_init_42 : decode cX2_init 42 = .ok (.anewarray 18, 3) := by decide +kernel
theorem dX2_init_45 : decode cX2_init 45 = .ok (.putfield 20, 3) := by decide +kernel
theorem dX2_init_48 : decode cX2_init 48 = .ok (.iconst 0, 1) := by decide +kernel
theorem dX2_init_49 : decode cX2_init 49 = .ok (.istore_n 1, 1) := by decide +kernel
theorem dX2_init_50 : decode cX2_init 50 = .ok (.iload_n 1, 1) := by decide +kernel
theorem dX2_init_51 : decode cX2_init 51 = .ok (.iconst 4, 1) := by decide +kernel
theorem dX2_init_52 : decode cX2_init 52 = .ok (.if_icmp .ge 22, 3) := by decide +kernel
theorem dX2_init_55 : decode cX2_init 55 = .ok (.aload_n 0, 1) := by decide +kernel
theorem dX2_init_56 : decode cX2_init 56 = .ok (.getfield 20, 3) := by decide +kernel
theorem dX2_init_59 : decode cX2_init 59 = .ok (.iload_n 1, 1) := by decide +kernel
theorem dX2_init_60 : decode cX2_init 60 = .ok (.new 18, 3) := by decide +kernel
theorem dX2_init_63 : decode cX2_init 63 = .ok (.dup, 1) := by decide +kernel
theorem dX2_init_64 : decode cX2_init 64 = .ok (.invokespecial 24, 3) := by decide +kernel
theorem dX2_init_67 : decode cX2_init 67 = .ok (.aastore, 1) := by decide +kernel
theorem dX2_init_68 : decode cX2_init 68 = .ok (.iinc 1 1, 3) := by decide +kernel
theorem dX2_init_71 : decode cX2_init 71 = .ok (.goto (-21), 3) := by decide +kernel
theorem dX2_init_74 : decode cX2_init 74 = .ok (.return_, 1) := by decide +kernel
theorem dX2_copyFrom_0 : decode cX2_copyFrom 0 = .ok (.aload_n 0, 1) := by decide +kernel
theorem dX2_copyFrom_1 : decode cX2_copyFrom 1 = .ok (.aload_n 1, 1) := by decide +kernel
theorem dX2_copyFrom_2 : decode cX2_copyFrom 2 = .ok (.getfield 25, 3) := by decide +kernel
theorem dX2_copyFrom_5 : decode cX2_copyFrom 5 = .ok (.putfield 25, 3) := by decide +kernel
theorem dX2_copyFrom_8 : decode cX2_copyFrom 8 = .ok (.aload_n 0, 1) := by decide +kernel
theorem dX2_copyFrom_9 : decode cX2_copyFrom 9 = .ok (.aload_n 1, 1) := by decide +kernel
theorem dX2_copyFrom_10 : decode cX2_copyFrom 10 = .ok (.getfield 29, 3) := by decide +kernel
theorem dX2_copyFrom_13 : decode cX2_copyFrom 13 = .ok (.putfield 29, 3) := by decide +kernel
theorem dX2_copyFrom_16 : decode cX2_copyFrom 16 = .ok (.iconst 0, 1) := by decide +kernel
theorem dX2_copyFrom_17 : decode cX2_copyFrom 17 = .ok (.istore_n 2, 1) := by decide +kernel
theorem dX2_copyFrom_18 : decode cX2_copyFrom 18 = .ok (.iload_n 2, 1) := by decide +kernel
theorem dX2_copyFrom_19 : decode cX2_copyFrom 19 = .ok (.aload_n 0, 1) := by decide +kernel
theorem dX2_copyFrom_20 : decode cX2_copyFrom 20 = .ok (.getfield 29, 3) := by decide +kernel
theorem dX2_copyFrom_23 : decode cX2_copyFrom 23 = .ok (.if_icmp .ge 24, 3) := by decide +kernel
theorem dX2_copyFrom_26 : decode cX2_copyFrom 26 = .ok (.aload_n 0, 1) := by decide +kernel
theorem dX2_copyFrom_27 : decode cX2_copyFrom 27 = .ok (.getfield 11, 3) := by decide +kernel
theorem dX2_copyFrom_30 : decode cX2_copyFrom 30 = .ok (.iload_n 2, 1) := by decide +kernel
theorem dX2_copyFrom_31 : decode cX2_copyFrom 31 = .ok (.aaload, 1) := by decide +kernel
theorem dX2_copyFrom_32 : decode cX2_copyFrom 32 = .ok (.aload_n 1, 1) := by decide +kernel
theorem dX2_copyFrom_33 : decode cX2_copyFrom 33 = .ok (.getfield 11, 3) := by decide +kernel
theorem dX2_copyFrom_36 : decode cX2_copyFrom 36 = .ok (.iload_n 2, 1) := by decide +kernel
theorem dX2_copyFrom_37 : decode cX2_copyFrom 37 = .ok (.aaload, 1) := by decide +kernel
theorem dX2_copyFrom_38 : decode cX2_copyFrom 38 = .ok (.invokevirtual 32, 3) := by decide +kernel
theorem dX2_copyFrom_41 : decode cX2_copyFrom 41 = .ok (.iinc 2 1, 3) := by decide +kernel
theorem dX2_copyFrom_44 : decode cX2_copyFrom 44 = .ok (.goto (-26), 3) := by decide +kernel
theorem dX2_copyFrom_47 : decode cX2_copyFrom 47 = .ok (.iconst 0, 1) := by decide +kernel
theorem dX2_copyFrom_48 : decode cX2_copyFrom 48 = .ok (.istore_n 2, 1) := by decide +kernel
theorem dX2_copyFrom_49 : decode cX2_copyFrom 49 = .ok (.iload_n 2, 1) := by decide +kernel
theorem dX2_copyFrom_50 : decode cX2_copyFrom 50 = .ok (.iconst 4, 1) := by decide +kernel
theorem dX2_copyFrom_51 : decode cX2_copyFrom 51 = .ok (.if_icmp .ge 24, 3) := by decide +kernel
theorem dX2_copyFrom_54 : decode cX2_copyFrom 54 = .ok (.aload_n 0, 1) := by decide +kernel
theorem dX2_copyFrom_55 : decode cX2_copyFrom 55 = .ok (.getfield 20, 3) := by decide +kernel
theorem dX2_copyFrom_58 : decode cX2_copyFrom 58 = .ok (.iload_n 2, 1) := by decide +kernel
theorem dX2_copyFrom_59 : decode cX2_copyFrom 59 = .ok (.aaload, 1) := by decide +kernel
theorem dX2_copyFrom_60 : decode cX2_copyFrom 60 = .ok (.aload_n 1, 1) := by decide +kernel
theorem dX2_copyFrom_61 : decode cX2_copyFrom 61 = .ok (.getfield 20, 3) := by decide +kernel
theorem dX2_copyFrom_64 : decode cX2_copyFrom 64 = .ok (.iload_n 2, 1) := by decide +kernel
theorem dX2_copyFrom_65 : decode cX2_copyFrom 65 = .ok (.aaload, 1) := by decide +kernel
theorem dX2_copyFrom_66 : decode cX2_copyFrom 66 = .ok (.invokevirtual 36, 3) := by decide +kernel
theorem dX2_copyFrom_69 : decode cX2_copyFrom 69 = .ok (.iinc 2 1, 3) := by decide +kernel
theorem dX2_copyFrom_72 : decode cX2_copyFrom 72 = .ok (.goto (-23), 3) := by decide +kernel
theorem dX2_copyFrom_75 : decode cX2_copyFrom 75 = .ok (.return_, 1) := by decide +kernel
theorem dX2_goBy_0 : decode cX2_goBy 0 = .ok (.iconst 0, 1) := by decide +kernel
theorem dX2_goBy_1 : decode cX2_goBy 1 = .ok (.istore_n 2, 1) := by decide +kernel
theorem dX2_goBy_2 : decode cX2_goBy 2 = .ok (.iconst 0, 1) := by decide +kernel
theorem dX2_goBy_3 : decode cX2_goBy 3 = .ok (.istore_n 3, 1) := by decide +kernel
theorem dX2_goBy_4 : decode cX2_goBy 4 = .ok (.iload_n 3, 1) := by decide +kernel
theorem dX2_goBy_5 : decode cX2_goBy 5 = .ok (.iload_n 1, 1) := by decide +kernel
theorem dX2_goBy_6 : decode cX2_goBy 6 = .ok (.if_icmp .ge 16, 3) := by decide +kernel
theorem dX2_goBy_9 : decode cX2_goBy 9 = .ok (.iload_n 2, 1) := by decide +kernel
theorem dX2_goBy_10 : decode cX2_goBy 10 = .ok (.aload_n 0, 1) := by decide +kernel
theorem dX2_goBy_11 : decode cX2_goBy 11 = .ok (.invokevirtual 39, 3) := by decide +kernel
theorem dX2_goBy_14 : decode cX2_goBy 14 = .ok (.iadd, 1) := by decide +kernel
theorem dX2_goBy_15 : decode cX2_goBy 15 = .ok (.istore_n 2, 1) := by decide +kernel
theorem dX2_goBy_16 : decode cX2_goBy 16 = .ok (.iinc 3 1, 3) := by decide +kernel
theorem dX2_goBy_19 : decode cX2_goBy 19 = .ok (.goto (-15), 3) := by decide +kernel
theorem dX2_goBy_22 : decode cX2_goBy 22 = .ok (.iload_n 2, 1) := by decide +kernel
theorem dX2_goBy_23 : decode cX2_goBy 23 = .ok (.ireturn, 1) := by decide +kernel
theorem dX2_goByOne_0 : decode cX2_goByOne 0 = .ok (.iconst 0, 1) := by decide +kernel
theorem dX2_goByOne_1 : decode cX2_goByOne 1 = .ok (.istore_n 1, 1) := by decide +kernel
theorem dX2_goByOne_2 : decode cX2_goByOne 2 = .ok (.iconst 0, 1) := by decide +kernel
theorem dX2_goByOne_3 : decode cX2_goByOne 3 = .ok (.istore_n 2, 1) := by decide +kernel
theorem dX2_goByOne_4 : decode cX2_goByOne 4 = .ok (.iload_n 2, 1) := by decide +kernel
theorem dX2_goByOne_5 : decode cX2_goByOne 5 = .ok (.aload_n 0, 1) := by decide +kernel
theorem dX2_goByOne_6 : decode cX2_goByOne 6 = .ok (.getfield 29, 3) := by decide +kernel
theorem dX2_goByOne_9 : decode cX2_goByOne 9 = .ok (.if_icmp .ge 21, 3) := by decide +kernel
theorem dX2_goByOne_12 : decode cX2_goByOne 12 = .ok (.iload_n 1, 1) := by decide +kernel
theorem dX2_goByOne_13 : decode cX2_goByOne 13 = .ok (.aload_n 0, 1) := by decide +kernel
theorem dX2_goByOne_14 : decode cX2_goByOne 14 = .ok (.getfield 11, 3) := by decide +kernel
theorem dX2_goByOne_17 : decode cX2_goByOne 17 = .ok (.iload_n 2, 1) := by decide +kernel
theorem dX2_goByOne_18 : decode cX2_goByOne 18 = .ok (.aaload, 1) := by decide +kernel
theorem dX2_goByOne_19 : decode cX2_goByOne 19 = .ok (.invokevirtual 43, 3) := by decide +kernel
theorem dX2_goByOne_22 : decode cX2_goByOne 22 = .ok (.iadd, 1) := by decide +kernel
theorem dX2_goByOne_23 : decode cX2_goByOne 23 = .ok (.istore_n 1, 1) := by decide +kernel
theorem dX2_goByOne_24 : decode cX2_goByOne 24 = .ok (.iinc 2 1, 3) := by decide +kernel
theorem dX2_goByOne_27 : decode cX2_goByOne 27 = .ok (.goto (-23), 3) := by decide +kernel
theorem dX2_goByOne_30 : decode cX2_goByOne 30 = .ok (.aload_n 0, 1) := by decide +kernel
theorem dX2_goByOne_31 : decode cX2_goByOne 31 = .ok (.getfield 25, 3) := by decide +kernel
theorem dX2_goByOne_34 : decode cX2_goByOne 34 = .ok (.bipush 48, 2) := by decide +kernel
theorem dX2_goByOne_36 : decode cX2_goByOne 36 = .ok (.irem, 1) := by decide +kernel
theorem dX2_goByOne_37 : decode cX2_goByOne 37 = .ok (.bipush 47, 2) := by decide +kernel
theorem dX2_goByOne_39 : decode cX2_goByOne 39 = .ok (.if_icmp .ne 7, 3) := by decide +kernel
theorem dX2_goByOne_42 : decode cX2_goByOne 42 = .ok (.aload_n 0, 1) := by decide +kernel
theorem dX2_goByOne_43 : decode cX2_goByOne 43 = .ok (.invokevirtual 46, 3) := by decide +kernel
theorem dX2_goByOne_46 : decode cX2_goByOne 46 = .ok (.aload_n 0, 1) := by decide +kernel
theorem dX2_goByOne_47 : decode cX2_goByOne 47 = .ok (.dup, 1) := by decide +kernel
theorem dX2_goByOne_48 : decode cX2_goByOne 48 = .ok (.getfield 25, 3) := by decide +kernel
theorem dX2_goByOne_51 : decode cX2_goByOne 51 = .ok (.iconst 1, 1) := by decide +kernel
theorem dX2_goByOne_52 : decode cX2_goByOne 52 = .ok (.iadd, 1) := by decide +kernel
theorem dX2_goByOne_53 : decode cX2_goByOne 53 = .ok (.putfield 25, 3) := by decide +kernel
theorem dX2_goByOne_56 : decode cX2_goByOne 56 = .ok (.iload_n 1, 1) := by decide +kernel
theorem dX2_goByOne_57 : decode cX2_goByOne 57 = .ok (.ireturn, 1) := by decide +kernel
theorem dX2_reckonWeek_0 : decode cX2_reckonWeek 0 = .ok (.iconst 0, 1) := by decide +kernel
theorem dX2_reckonWeek_1 : decode cX2_reckonWeek 1 = .ok (.istore_n 1, 1) := by decide +kernel
theorem dX2_reckonWeek_2 : decode cX2_reckonWeek 2 = .ok (.iload_n 1, 1) := by decide +kernel
theorem dX2_reckonWeek_3 : decode cX2_reckonWeek 3 = .ok (.aload_n 0, 1) := by decide +kernel
theorem dX2_reckonWeek_4 : decode cX2_reckonWeek 4 = .ok (.getfield 29, 3) := by decide +kernel
theorem dX2_reckonWeek_7 : decode cX2_reckonWeek 7 = .ok (.if_icmp .ge 44, 3) := by decide +kernel
theorem dX2_reckonWeek_10 : decode cX2_reckonWeek 10 = .ok (.aload_n 0, 1) := by decide +kernel
theorem dX2_reckonWeek_11 : decode cX2_reckonWeek 11 = .ok (.getfield 20, 3) := by decide +kernel
theorem dX2_reckonWeek_14 : decode cX2_reckonWeek 14 = .ok (.aload_n 0, 1) := by decide +kernel
theorem dX2_reckonWeek_15 : decode cX2_reckonWeek 15 = .ok (.getfield 11, 3) := by decide +kernel
theorem dX2_reckonWeek_18 : decode cX2_reckonWeek 18 = .ok (.iload_n 1, 1) := by decide +kernel
theorem dX2_reckonWeek_19 : decode cX2_reckonWeek 19 = .ok (.aaload, 1) := by decide +kernel
theorem dX2_reckonWeek_20 : decode cX2_reckonWeek 20 = .ok (.getfield 49, 3) := by decide +kernel
theorem dX2_reckonWeek_23 : decode cX2_reckonWeek 23 = .ok (.aaload, 1) := by decide +kernel
theorem dX2_reckonWeek_24 : decode cX2_reckonWeek 24 = .ok (.astore_n 2, 1) := by decide +kernel
theorem dX2_reckonWeek_25 : decode cX2_reckonWeek 25 = .ok (.aload_n 2, 1) := by decide +kernel
theorem dX2_reckonWeek_26 : decode cX2_reckonWeek 26 = .ok (.aload_n 0, 1) := by decide +kernel
theorem dX2_reckonWeek_27 : decode cX2_reckonWeek 27 = .ok (.getfield 11, 3) := by decide +kernel
theorem dX2_reckonWeek_30 : decode cX2_reckonWeek 30 = .ok (.iload_n 1, 1) := by decide +kernel
theorem dX2_reckonWeek_31 : decode cX2_reckonWeek 31 = .ok (.aaload, 1) := by decide +kernel
theorem dX2_reckonWeek_32 : decode cX2_reckonWeek 32 = .ok (.invokevirtual 52, 3) := by decide +kernel
theorem dX2_reckonWeek_35 : decode cX2_reckonWeek 35 = .ok (.aload_n 2, 1) := by decide +kernel
theorem dX2_reckonWeek_36 : decode cX2_reckonWeek 36 = .ok (.aload_n 0, 1) := by decide +kernel
theorem dX2_reckonWeek_37 : decode cX2_reckonWeek 37 = .ok (.getfield 11, 3) := by decide +kernel
theorem dX2_reckonWeek_40 : decode cX2_reckonWeek 40 = .ok (.iload_n 1, 1) := by decide +kernel
theorem dX2_reckonWeek_41 : decode cX2_reckonWeek 41 = .ok (.aaload, 1) := by decide +kernel
theorem dX2_reckonWeek_42 : decode cX2_reckonWeek 42 = .ok (.invokevirtual 55, 3) := by decide +kernel
theorem dX2_reckonWeek_45 : decode cX2_reckonWeek 45 = .ok (.iinc 1 1, 3) := by decide +kernel
theorem dX2_reckonWeek_48 : decode cX2_reckonWeek 48 = .ok (.goto (-46), 3) := by decide +kernel
theorem dX2_reckonWeek_51 : decode cX2_reckonWeek 51 = .ok (.iconst 0, 1) := by decide +kernel
theorem dX2_reckonWeek_52 : decode cX2_reckonWeek 52 = .ok (.istore_n 1, 1) := by decide +kernel
theorem dX2_reckonWeek_53 : decode cX2_reckonWeek 53 = .ok (.iload_n 1, 1) := by decide +kernel
theorem dX2_reckonWeek_54 : decode cX2_reckonWeek 54 = .ok (.iconst 4, 1) := by decide +kernel
theorem dX2_reckonWeek_55 : decode cX2_reckonWeek 55 = .ok (.if_icmp .ge 18, 3) := by decide +kernel
theorem dX2_reckonWeek_58 : decode cX2_reckonWeek 58 = .ok (.aload_n 0, 1) := by decide +kernel
theorem dX2_reckonWeek_59 : decode cX2_reckonWeek 59 = .ok (.getfield 20, 3) := by decide +kernel
theorem dX2_reckonWeek_62 : decode cX2_reckonWeek 62 = .ok (.iload_n 1, 1) := by decide +kernel
theorem dX2_reckonWeek_63 : decode cX2_reckonWeek 63 = .ok (.aaload, 1) := by decide +kernel
theorem dX2_reckonWeek_64 : decode cX2_reckonWeek 64 = .ok (.invokevirtual 58, 3) := by decide +kernel
theorem dX2_reckonWeek_67 : decode cX2_reckonWeek 67 = .ok (.iinc 1 1, 3) := by decide +kernel
theorem dX2_reckonWeek_70 : decode cX2_reckonWeek 70 = .ok (.goto (-17), 3) := by decide +kernel
theorem dX2_reckonWeek_73 : decode cX2_reckonWeek 73 = .ok (.return_, 1) := by decide +kernel
theorem dX2_total_0 : decode cX2_total 0 = .ok (.iload_n 1, 1) := by decide +kernel
theorem dX2_total_1 : decode cX2_total 1 = .ok (.lookupswitch 50 #[(0, 35), (1, 40), (6, 45)], 35) := by decide +kernel
theorem dX2_total_36 : decode cX2_total 36 = .ok (.aload_n 0, 1) := by decide +kernel
theorem dX2_total_37 : decode cX2_total 37 = .ok (.getfield 25, 3) := by decide +kernel
theorem dX2_total_40 : decode cX2_total 40 = .ok (.ireturn, 1) := by decide +kernel
theorem dX2_total_41 : decode cX2_total 41 = .ok (.aload_n 0, 1) := by decide +kernel
theorem dX2_total_42 : decode cX2_total 42 = .ok (.getfield 29, 3) := by decide +kernel
theorem dX2_total_45 : decode cX2_total 45 = .ok (.ireturn, 1) := by decide +kernel
theorem dX2_total_46 : decode cX2_total 46 = .ok (.aload_n 0, 1) := by decide +kernel
theorem dX2_total_47 : decode cX2_total 47 = .ok (.invokevirtual 61, 3) := by decide +kernel
theorem dX2_total_50 : decode cX2_total 50 = .ok (.ireturn, 1) := by decide +kernel
theorem dX2_total_51 : decode cX2_total 51 = .ok (.aload_n 0, 1) := by decide +kernel
theorem dX2_total_52 : decode cX2_total 52 = .ok (.iload_n 1, 1) := by decide +kernel
theorem dX2_total_53 : decode cX2_total 53 = .ok (.invokevirtual 64, 3) := by decide +kernel
theorem dX2_total_56 : decode cX2_total 56 = .ok (.ireturn, 1) := by decide +kernel
theorem dX2_warehouseBags_0 : decode cX2_warehouseBags 0 = .ok (.iconst 0, 1) := by decide +kernel
theorem dX2_warehouseBags_1 : decode cX2_warehouseBags 1 = .ok (.istore_n 1, 1) := by decide +kernel
theorem dX2_warehouseBags_2 : decode cX2_warehouseBags 2 = .ok (.iconst 0, 1) := by decide +kernel
theorem dX2_warehouseBags_3 : decode cX2_warehouseBags 3 = .ok (.istore_n 2, 1) := by decide +kernel
theorem dX2_warehouseBags_4 : decode cX2_warehouseBags 4 = .ok (.iload_n 2, 1) := by decide +kernel
theorem dX2_warehouseBags_5 : decode cX2_warehouseBags 5 = .ok (.iconst 4, 1) := by decide +kernel
theorem dX2_warehouseBags_6 : decode cX2_warehouseBags 6 = .ok (.if_icmp .ge 21, 3) := by decide +kernel
theorem dX2_warehouseBags_9 : decode cX2_warehouseBags 9 = .ok (.iload_n 1, 1) := by decide +kernel
theorem dX2_warehouseBags_10 : decode cX2_warehouseBags 10 = .ok (.aload_n 0, 1) := by decide +kernel
theorem dX2_warehouseBags_11 : decode cX2_warehouseBags 11 = .ok (.getfield 20, 3) := by decide +kernel
theorem dX2_warehouseBags_14 : decode cX2_warehouseBags 14 = .ok (.iload_n 2, 1) := by decide +kernel
theorem dX2_warehouseBags_15 : decode cX2_warehouseBags 15 = .ok (.aaload, 1) := by decide +kernel
theorem dX2_warehouseBags_16 : decode cX2_warehouseBags 16 = .ok (.getfield 68, 3) := by decide +kernel
theorem dX2_warehouseBags_19 : decode cX2_warehouseBags 19 = .ok (.iadd, 1) := by decide +kernel
theorem dX2_warehouseBags_20 : decode cX2_warehouseBags 20 = .ok (.istore_n 1, 1) := by decide +kernel
theorem dX2_warehouseBags_21 : decode cX2_warehouseBags 21 = .ok (.iinc 2 1, 3) := by decide +kernel
theorem dX2_warehouseBags_24 : decode cX2_warehouseBags 24 = .ok (.goto (-20), 3) := by decide +kernel
theorem dX2_warehouseBags_27 : decode cX2_warehouseBags 27 = .ok (.iload_n 1, 1) := by decide +kernel
theorem dX2_warehouseBags_28 : decode cX2_warehouseBags 28 = .ok (.ireturn, 1) := by decide +kernel
theorem dX2_sumOfShares_0 : decode cX2_sumOfShares 0 = .ok (.iconst 0, 1) := by decide +kernel
theorem dX2_sumOfShares_1 : decode cX2_sumOfShares 1 = .ok (.istore_n 2, 1) := by decide +kernel
theorem dX2_sumOfShares_2 : decode cX2_sumOfShares 2 = .ok (.iconst 0, 1) := by decide +kernel
theorem dX2_sumOfShares_3 : decode cX2_sumOfShares 3 = .ok (.istore_n 3, 1) := by decide +kernel
theorem dX2_sumOfShares_4 : decode cX2_sumOfShares 4 = .ok (.iload_n 3, 1) := by decide +kernel
theorem dX2_sumOfShares_5 : decode cX2_sumOfShares 5 = .ok (.aload_n 0, 1) := by decide +kernel
theorem dX2_sumOfShares_6 : decode cX2_sumOfShares 6 = .ok (.getfield 29, 3) := by decide +kernel
theorem dX2_sumOfShares_9 : decode cX2_sumOfShares 9 = .ok (.if_icmp .ge 22, 3) := by decide +kernel
theorem dX2_sumOfShares_12 : decode cX2_sumOfShares 12 = .ok (.iload_n 2, 1) := by decide +kernel
theorem dX2_sumOfShares_13 : decode cX2_sumOfShares 13 = .ok (.aload_n 0, 1) := by decide +kernel
theorem dX2_sumOfShares_14 : decode cX2_sumOfShares 14 = .ok (.getfield 11, 3) := by decide +kernel
theorem dX2_sumOfShares_17 : decode cX2_sumOfShares 17 = .ok (.iload_n 3, 1) := by decide +kernel
theorem dX2_sumOfShares_18 : decode cX2_sumOfShares 18 = .ok (.aaload, 1) := by decide +kernel
theorem dX2_sumOfShares_19 : decode cX2_sumOfShares 19 = .ok (.iload_n 1, 1) := by decide +kernel
theorem dX2_sumOfShares_20 : decode cX2_sumOfShares 20 = .ok (.invokevirtual 71, 3) := by decide +kernel
end
section
theorem dX2_sumOfShares_23 : decode cX2_sumOfShares 23 = .ok (.iadd, 1) := by decide +kernel
theorem dX2_sumOfShares_24 : decode cX2_sumOfShares 24 = .ok (.istore_n 2, 1) := by decide +kernel
theorem dX2_sumOfShares_25 : decode cX2_sumOfShares 25 = .ok (.iinc 3 1, 3) := by decide +kernel
theorem dX2_sumOfShares_28 : decode cX2_sumOfShares 28 = .ok (.goto (-24), 3) := by decide +kernel
theorem dX2_sumOfShares_31 : decode cX2_sumOfShares 31 = .ok (.iload_n 2, 1) := by decide +kernel
theorem dX2_sumOfShares_32 : decode cX2_sumOfShares 32 = .ok (.ireturn, 1) := by decide +kernel
theorem dX2_foggerNumber_0 : decode cX2_foggerNumber 0 = .ok (.iload_n 2, 1) := by decide +kernel
theorem dX2_foggerNumber_1 : decode cX2_foggerNumber 1 = .ok (.tableswitch 81 0 4 #[35, 45, 55, 61, 71], 35) := by decide +kernel
theorem dX2_foggerNumber_36 : decode cX2_foggerNumber 36 = .ok (.aload_n 0, 1) := by decide +kernel
theorem dX2_foggerNumber_37 : decode cX2_foggerNumber 37 = .ok (.getfield 20, 3) := by decide +kernel
theorem dX2_foggerNumber_40 : decode cX2_foggerNumber 40 = .ok (.iload_n 1, 1) := by decide +kernel
theorem dX2_foggerNumber_41 : decode cX2_foggerNumber 41 = .ok (.aaload, 1) := by decide +kernel
theorem dX2_foggerNumber_42 : decode cX2_foggerNumber 42 = .ok (.getfield 74, 3) := by decide +kernel
theorem dX2_foggerNumber_45 : decode cX2_foggerNumber 45 = .ok (.ireturn, 1) := by decide +kernel
theorem dX2_foggerNumber_46 : decode cX2_foggerNumber 46 = .ok (.aload_n 0, 1) := by decide +kernel
theorem dX2_foggerNumber_47 : decode cX2_foggerNumber 47 = .ok (.getfield 20, 3) := by decide +kernel
theorem dX2_foggerNumber_50 : decode cX2_foggerNumber 50 = .ok (.iload_n 1, 1) := by decide +kernel
theorem dX2_foggerNumber_51 : decode cX2_foggerNumber 51 = .ok (.aaload, 1) := by decide +kernel
theorem dX2_foggerNumber_52 : decode cX2_foggerNumber 52 = .ok (.getfield 77, 3) := by decide +kernel
theorem dX2_foggerNumber_55 : decode cX2_foggerNumber 55 = .ok (.ireturn, 1) := by decide +kernel
theorem dX2_foggerNumber_56 : decode cX2_foggerNumber 56 = .ok (.aload_n 0, 1) := by decide +kernel
theorem dX2_foggerNumber_57 : decode cX2_foggerNumber 57 = .ok (.iload_n 1, 1) := by decide +kernel
theorem dX2_foggerNumber_58 : decode cX2_foggerNumber 58 = .ok (.invokevirtual 80, 3) := by decide +kernel
theorem dX2_foggerNumber_61 : decode cX2_foggerNumber 61 = .ok (.ireturn, 1) := by decide +kernel
theorem dX2_foggerNumber_62 : decode cX2_foggerNumber 62 = .ok (.aload_n 0, 1) := by decide +kernel
theorem dX2_foggerNumber_63 : decode cX2_foggerNumber 63 = .ok (.getfield 20, 3) := by decide +kernel
theorem dX2_foggerNumber_66 : decode cX2_foggerNumber 66 = .ok (.iload_n 1, 1) := by decide +kernel
theorem dX2_foggerNumber_67 : decode cX2_foggerNumber 67 = .ok (.aaload, 1) := by decide +kernel
theorem dX2_foggerNumber_68 : decode cX2_foggerNumber 68 = .ok (.getfield 68, 3) := by decide +kernel
theorem dX2_foggerNumber_71 : decode cX2_foggerNumber 71 = .ok (.ireturn, 1) := by decide +kernel
theorem dX2_foggerNumber_72 : decode cX2_foggerNumber 72 = .ok (.aload_n 0, 1) := by decide +kernel
theorem dX2_foggerNumber_73 : decode cX2_foggerNumber 73 = .ok (.getfield 20, 3) := by decide +kernel
theorem dX2_foggerNumber_76 : decode cX2_foggerNumber 76 = .ok (.iload_n 1, 1) := by decide +kernel
theorem dX2_foggerNumber_77 : decode cX2_foggerNumber 77 = .ok (.aaload, 1) := by decide +kernel
theorem dX2_foggerNumber_78 : decode cX2_foggerNumber 78 = .ok (.getfield 83, 3) := by decide +kernel
theorem dX2_foggerNumber_81 : decode cX2_foggerNumber 81 = .ok (.ireturn, 1) := by decide +kernel
theorem dX2_foggerNumber_82 : decode cX2_foggerNumber 82 = .ok (.aload_n 0, 1) := by decide +kernel
theorem dX2_foggerNumber_83 : decode cX2_foggerNumber 83 = .ok (.getfield 20, 3) := by decide +kernel
theorem dX2_foggerNumber_86 : decode cX2_foggerNumber 86 = .ok (.iload_n 1, 1) := by decide +kernel
theorem dX2_foggerNumber_87 : decode cX2_foggerNumber 87 = .ok (.aaload, 1) := by decide +kernel
theorem dX2_foggerNumber_88 : decode cX2_foggerNumber 88 = .ok (.getfield 86, 3) := by decide +kernel
theorem dX2_foggerNumber_91 : decode cX2_foggerNumber 91 = .ok (.aload_n 0, 1) := by decide +kernel
theorem dX2_foggerNumber_92 : decode cX2_foggerNumber 92 = .ok (.getfield 20, 3) := by decide +kernel
theorem dX2_foggerNumber_95 : decode cX2_foggerNumber 95 = .ok (.iload_n 1, 1) := by decide +kernel
theorem dX2_foggerNumber_96 : decode cX2_foggerNumber 96 = .ok (.aaload, 1) := by decide +kernel
theorem dX2_foggerNumber_97 : decode cX2_foggerNumber 97 = .ok (.getfield 83, 3) := by decide +kernel
theorem dX2_foggerNumber_100 : decode cX2_foggerNumber 100 = .ok (.isub, 1) := by decide +kernel
theorem dX2_foggerNumber_101 : decode cX2_foggerNumber 101 = .ok (.ireturn, 1) := by decide +kernel
theorem dX2_workersFor_0 : decode cX2_workersFor 0 = .ok (.iconst 0, 1) := by decide +kernel
theorem dX2_workersFor_1 : decode cX2_workersFor 1 = .ok (.istore_n 2, 1) := by decide +kernel
theorem dX2_workersFor_2 : decode cX2_workersFor 2 = .ok (.iconst 0, 1) := by decide +kernel
theorem dX2_workersFor_3 : decode cX2_workersFor 3 = .ok (.istore_n 3, 1) := by decide +kernel
theorem dX2_workersFor_4 : decode cX2_workersFor 4 = .ok (.iload_n 3, 1) := by decide +kernel
theorem dX2_workersFor_5 : decode cX2_workersFor 5 = .ok (.aload_n 0, 1) := by decide +kernel
theorem dX2_workersFor_6 : decode cX2_workersFor 6 = .ok (.getfield 29, 3) := by decide +kernel
theorem dX2_workersFor_9 : decode cX2_workersFor 9 = .ok (.if_icmp .ge 25, 3) := by decide +kernel
theorem dX2_workersFor_12 : decode cX2_workersFor 12 = .ok (.aload_n 0, 1) := by decide +kernel
theorem dX2_workersFor_13 : decode cX2_workersFor 13 = .ok (.getfield 11, 3) := by decide +kernel
theorem dX2_workersFor_16 : decode cX2_workersFor 16 = .ok (.iload_n 3, 1) := by decide +kernel
theorem dX2_workersFor_17 : decode cX2_workersFor 17 = .ok (.aaload, 1) := by decide +kernel
theorem dX2_workersFor_18 : decode cX2_workersFor 18 = .ok (.getfield 49, 3) := by decide +kernel
theorem dX2_workersFor_21 : decode cX2_workersFor 21 = .ok (.iload_n 1, 1) := by decide +kernel
theorem dX2_workersFor_22 : decode cX2_workersFor 22 = .ok (.if_icmp .ne 6, 3) := by decide +kernel
theorem dX2_workersFor_25 : decode cX2_workersFor 25 = .ok (.iinc 2 1, 3) := by decide +kernel
theorem dX2_workersFor_28 : decode cX2_workersFor 28 = .ok (.iinc 3 1, 3) := by decide +kernel
theorem dX2_workersFor_31 : decode cX2_workersFor 31 = .ok (.goto (-27), 3) := by decide +kernel
theorem dX2_workersFor_34 : decode cX2_workersFor 34 = .ok (.iload_n 2, 1) := by decide +kernel
theorem dX2_workersFor_35 : decode cX2_workersFor 35 = .ok (.ireturn, 1) := by decide +kernel
theorem dX3_init_0 : decode cX3_init 0 = .ok (.aload_n 0, 1) := by decide +kernel
theorem dX3_init_1 : decode cX3_init 1 = .ok (.invokespecial 1, 3) := by decide +kernel
theorem dX3_init_4 : decode cX3_init 4 = .ok (.aload_n 0, 1) := by decide +kernel
theorem dX3_init_5 : decode cX3_init 5 = .ok (.new 7, 3) := by decide +kernel
theorem dX3_init_8 : decode cX3_init 8 = .ok (.dup, 1) := by decide +kernel
theorem dX3_init_9 : decode cX3_init 9 = .ok (.invokespecial 9, 3) := by decide +kernel
theorem dX3_init_12 : decode cX3_init 12 = .ok (.putfield 10, 3) := by decide +kernel
theorem dX3_init_15 : decode cX3_init 15 = .ok (.aload_n 0, 1) := by decide +kernel
theorem dX3_init_16 : decode cX3_init 16 = .ok (.new 7, 3) := by decide +kernel
theorem dX3_init_19 : decode cX3_init 19 = .ok (.dup, 1) := by decide +kernel
theorem dX3_init_20 : decode cX3_init 20 = .ok (.invokespecial 9, 3) := by decide +kernel
theorem dX3_init_23 : decode cX3_init 23 = .ok (.putfield 16, 3) := by decide +kernel
theorem dX3_init_26 : decode cX3_init 26 = .ok (.aload_n 0, 1) := by decide +kernel
theorem dX3_init_27 : decode cX3_init 27 = .ok (.new 19, 3) := by decide +kernel
theorem dX3_init_30 : decode cX3_init 30 = .ok (.dup, 1) := by decide +kernel
theorem dX3_init_31 : decode cX3_init 31 = .ok (.invokespecial 21, 3) := by decide +kernel
theorem dX3_init_34 : decode cX3_init 34 = .ok (.putfield 22, 3) := by decide +kernel
theorem dX3_init_37 : decode cX3_init 37 = .ok (.return_, 1) := by decide +kernel
theorem dX3_nailer_0 : decode cX3_nailer 0 = .ok (.iload_n 2, 1) := by decide +kernel
theorem dX3_nailer_1 : decode cX3_nailer 1 = .ok (.iconst 4, 1) := by decide +kernel
theorem dX3_nailer_2 : decode cX3_nailer 2 = .ok (.invokestatic 26, 3) := by decide +kernel
theorem dX3_nailer_5 : decode cX3_nailer 5 = .ok (.iload_n 3, 1) := by decide +kernel
theorem dX3_nailer_6 : decode cX3_nailer 6 = .ok (.iconst 4, 1) := by decide +kernel
theorem dX3_nailer_7 : decode cX3_nailer 7 = .ok (.invokestatic 26, 3) := by decide +kernel
theorem dX3_nailer_10 : decode cX3_nailer 10 = .ok (.iload_n 1, 1) := by decide +kernel
theorem dX3_nailer_11 : decode cX3_nailer 11 = .ok (.iconst 1, 1) := by decide +kernel
theorem dX3_nailer_12 : decode cX3_nailer 12 = .ok (.bipush 9, 2) := by decide +kernel
theorem dX3_nailer_14 : decode cX3_nailer 14 = .ok (.invokestatic 30, 3) := by decide +kernel
theorem dX3_nailer_17 : decode cX3_nailer 17 = .ok (.aload_n 0, 1) := by decide +kernel
theorem dX3_nailer_18 : decode cX3_nailer 18 = .ok (.getfield 10, 3) := by decide +kernel
theorem dX3_nailer_21 : decode cX3_nailer 21 = .ok (.getfield 34, 3) := by decide +kernel
theorem dX3_nailer_24 : decode cX3_nailer 24 = .ok (.bipush 12, 2) := by decide +kernel
theorem dX3_nailer_26 : decode cX3_nailer 26 = .ok (.if_icmp .lt 13, 3) := by decide +kernel
theorem dX3_nailer_29 : decode cX3_nailer 29 = .ok (.new 38, 3) := by decide +kernel
theorem dX3_nailer_32 : decode cX3_nailer 32 = .ok (.dup, 1) := by decide +kernel
theorem dX3_nailer_33 : decode cX3_nailer 33 = .ok (.ldc 40, 2) := by decide +kernel
theorem dX3_nailer_35 : decode cX3_nailer 35 = .ok (.invokespecial 42, 3) := by decide +kernel
theorem dX3_nailer_38 : decode cX3_nailer 38 = .ok (.athrow, 1) := by decide +kernel
theorem dX3_nailer_39 : decode cX3_nailer 39 = .ok (.aload_n 0, 1) := by decide +kernel
theorem dX3_nailer_40 : decode cX3_nailer 40 = .ok (.getfield 10, 3) := by decide +kernel
theorem dX3_nailer_43 : decode cX3_nailer 43 = .ok (.getfield 34, 3) := by decide +kernel
theorem dX3_nailer_46 : decode cX3_nailer 46 = .ok (.istore 4, 2) := by decide +kernel
theorem dX3_nailer_48 : decode cX3_nailer 48 = .ok (.aload_n 0, 1) := by decide +kernel
theorem dX3_nailer_49 : decode cX3_nailer 49 = .ok (.getfield 10, 3) := by decide +kernel
theorem dX3_nailer_52 : decode cX3_nailer 52 = .ok (.getfield 45, 3) := by decide +kernel
theorem dX3_nailer_55 : decode cX3_nailer 55 = .ok (.iload 4, 2) := by decide +kernel
theorem dX3_nailer_57 : decode cX3_nailer 57 = .ok (.aaload, 1) := by decide +kernel
theorem dX3_nailer_58 : decode cX3_nailer 58 = .ok (.iload_n 1, 1) := by decide +kernel
theorem dX3_nailer_59 : decode cX3_nailer 59 = .ok (.iload_n 2, 1) := by decide +kernel
theorem dX3_nailer_60 : decode cX3_nailer 60 = .ok (.iload_n 3, 1) := by decide +kernel
theorem dX3_nailer_61 : decode cX3_nailer 61 = .ok (.invokevirtual 49, 3) := by decide +kernel
theorem dX3_nailer_64 : decode cX3_nailer 64 = .ok (.aload_n 0, 1) := by decide +kernel
theorem dX3_nailer_65 : decode cX3_nailer 65 = .ok (.getfield 10, 3) := by decide +kernel
theorem dX3_nailer_68 : decode cX3_nailer 68 = .ok (.iload 4, 2) := by decide +kernel
theorem dX3_nailer_70 : decode cX3_nailer 70 = .ok (.iconst 1, 1) := by decide +kernel
theorem dX3_nailer_71 : decode cX3_nailer 71 = .ok (.iadd, 1) := by decide +kernel
theorem dX3_nailer_72 : decode cX3_nailer 72 = .ok (.putfield 34, 3) := by decide +kernel
theorem dX3_nailer_75 : decode cX3_nailer 75 = .ok (.iload 4, 2) := by decide +kernel
theorem dX3_nailer_77 : decode cX3_nailer 77 = .ok (.ireturn, 1) := by decide +kernel
theorem dX3_lend_0 : decode cX3_lend 0 = .ok (.aload_n 0, 1) := by decide +kernel
theorem dX3_lend_1 : decode cX3_lend 1 = .ok (.iload_n 1, 1) := by decide +kernel
theorem dX3_lend_2 : decode cX3_lend 2 = .ok (.invokevirtual 52, 3) := by decide +kernel
theorem dX3_lend_5 : decode cX3_lend 5 = .ok (.iload_n 2, 1) := by decide +kernel
theorem dX3_lend_6 : decode cX3_lend 6 = .ok (.iconst 1, 1) := by decide +kernel
theorem dX3_lend_7 : decode cX3_lend 7 = .ok (.bipush 20, 2) := by decide +kernel
theorem dX3_lend_9 : decode cX3_lend 9 = .ok (.invokestatic 30, 3) := by decide +kernel
theorem dX3_lend_12 : decode cX3_lend 12 = .ok (.aload_n 0, 1) := by decide +kernel
theorem dX3_lend_13 : decode cX3_lend 13 = .ok (.getfield 10, 3) := by decide +kernel
theorem dX3_lend_16 : decode cX3_lend 16 = .ok (.getfield 45, 3) := by decide +kernel
theorem dX3_lend_19 : decode cX3_lend 19 = .ok (.iload_n 1, 1) := by decide +kernel
theorem dX3_lend_20 : decode cX3_lend 20 = .ok (.aaload, 1) := by decide +kernel
theorem dX3_lend_21 : decode cX3_lend 21 = .ok (.astore_n 3, 1) := by decide +kernel
theorem dX3_lend_22 : decode cX3_lend 22 = .ok (.aload_n 3, 1) := by decide +kernel
theorem dX3_lend_23 : decode cX3_lend 23 = .ok (.getfield 56, 3) := by decide +kernel
theorem dX3_lend_26 : decode cX3_lend 26 = .ok (.iload_n 2, 1) := by decide +kernel
theorem dX3_lend_27 : decode cX3_lend 27 = .ok (.iconst 3, 1) := by decide +kernel
theorem dX3_lend_28 : decode cX3_lend 28 = .ok (.imul, 1) := by decide +kernel
theorem dX3_lend_29 : decode cX3_lend 29 = .ok (.iadd, 1) := by decide +kernel
theorem dX3_lend_30 : decode cX3_lend 30 = .ok (.istore 4, 2) := by decide +kernel
theorem dX3_lend_32 : decode cX3_lend 32 = .ok (.iload 4, 2) := by decide +kernel
theorem dX3_lend_34 : decode cX3_lend 34 = .ok (.bipush 90, 2) := by decide +kernel
theorem dX3_lend_36 : decode cX3_lend 36 = .ok (.if_icmp .le 13, 3) := by decide +kernel
theorem dX3_lend_39 : decode cX3_lend 39 = .ok (.new 38, 3) := by decide +kernel
theorem dX3_lend_42 : decode cX3_lend 42 = .ok (.dup, 1) := by decide +kernel
theorem dX3_lend_43 : decode cX3_lend 43 = .ok (.ldc 59, 2) := by decide +kernel
theorem dX3_lend_45 : decode cX3_lend 45 = .ok (.invokespecial 42, 3) := by decide +kernel
theorem dX3_lend_48 : decode cX3_lend 48 = .ok (.athrow, 1) := by decide +kernel
theorem dX3_lend_49 : decode cX3_lend 49 = .ok (.aload_n 3, 1) := by decide +kernel
theorem dX3_lend_50 : decode cX3_lend 50 = .ok (.dup, 1) := by decide +kernel
theorem dX3_lend_51 : decode cX3_lend 51 = .ok (.getfield 61, 3) := by decide +kernel
theorem dX3_lend_54 : decode cX3_lend 54 = .ok (.iload_n 2, 1) := by decide +kernel
theorem dX3_lend_55 : decode cX3_lend 55 = .ok (.iadd, 1) := by decide +kernel
theorem dX3_lend_56 : decode cX3_lend 56 = .ok (.putfield 61, 3) := by decide +kernel
theorem dX3_lend_59 : decode cX3_lend 59 = .ok (.aload_n 3, 1) := by decide +kernel
theorem dX3_lend_60 : decode cX3_lend 60 = .ok (.iload 4, 2) := by decide +kernel
theorem dX3_lend_62 : decode cX3_lend 62 = .ok (.putfield 56, 3) := by decide +kernel
theorem dX3_lend_65 : decode cX3_lend 65 = .ok (.iload 4, 2) := by decide +kernel
theorem dX3_lend_67 : decode cX3_lend 67 = .ok (.ireturn, 1) := by decide +kernel
theorem dX3_coal_0 : decode cX3_coal 0 = .ok (.aload_n 0, 1) := by decide +kernel
theorem dX3_coal_1 : decode cX3_coal 1 = .ok (.iload_n 1, 1) := by decide +kernel
theorem dX3_coal_2 : decode cX3_coal 2 = .ok (.invokevirtual 52, 3) := by decide +kernel
theorem dX3_coal_5 : decode cX3_coal 5 = .ok (.iload_n 2, 1) := by decide +kernel
theorem dX3_coal_6 : decode cX3_coal 6 = .ok (.iconst 1, 1) := by decide +kernel
theorem dX3_coal_7 : decode cX3_coal 7 = .ok (.bipush 99, 2) := by decide +kernel
theorem dX3_coal_9 : decode cX3_coal 9 = .ok (.invokestatic 30, 3) := by decide +kernel
theorem dX3_coal_12 : decode cX3_coal 12 = .ok (.aload_n 0, 1) := by decide +kernel
theorem dX3_coal_13 : decode cX3_coal 13 = .ok (.getfield 10, 3) := by decide +kernel
theorem dX3_coal_16 : decode cX3_coal 16 = .ok (.getfield 45, 3) := by decide +kernel
theorem dX3_coal_19 : decode cX3_coal 19 = .ok (.iload_n 1, 1) := by decide +kernel
theorem dX3_coal_20 : decode cX3_coal 20 = .ok (.aaload, 1) := by decide +kernel
theorem dX3_coal_21 : decode cX3_coal 21 = .ok (.astore_n 3, 1) := by decide +kernel
theorem dX3_coal_22 : decode cX3_coal 22 = .ok (.iload_n 2, 1) := by decide +kernel
theorem dX3_coal_23 : decode cX3_coal 23 = .ok (.iconst 4, 1) := by decide +kernel
theorem dX3_coal_24 : decode cX3_coal 24 = .ok (.iadd, 1) := by decide +kernel
theorem dX3_coal_25 : decode cX3_coal 25 = .ok (.iconst 1, 1) := by decide +kernel
theorem dX3_coal_26 : decode cX3_coal 26 = .ok (.isub, 1) := by decide +kernel
theorem dX3_coal_27 : decode cX3_coal 27 = .ok (.iconst 4, 1) := by decide +kernel
theorem dX3_coal_28 : decode cX3_coal 28 = .ok (.idiv, 1) := by decide +kernel
theorem dX3_coal_29 : decode cX3_coal 29 = .ok (.istore 4, 2) := by decide +kernel
theorem dX3_coal_31 : decode cX3_coal 31 = .ok (.iload 4, 2) := by decide +kernel
theorem dX3_coal_33 : decode cX3_coal 33 = .ok (.aload_n 3, 1) := by decide +kernel
theorem dX3_coal_34 : decode cX3_coal 34 = .ok (.getfield 64, 3) := by decide +kernel
theorem dX3_coal_37 : decode cX3_coal 37 = .ok (.if_icmp .gt 14, 3) := by decide +kernel
theorem dX3_coal_40 : decode cX3_coal 40 = .ok (.aload_n 3, 1) := by decide +kernel
theorem dX3_coal_41 : decode cX3_coal 41 = .ok (.getfield 67, 3) := by decide +kernel
theorem dX3_coal_44 : decode cX3_coal 44 = .ok (.iload_n 2, 1) := by decide +kernel
theorem dX3_coal_45 : decode cX3_coal 45 = .ok (.iadd, 1) := by decide +kernel
theorem dX3_coal_46 : decode cX3_coal 46 = .ok (.bipush 99, 2) := by decide +kernel
theorem dX3_coal_48 : decode cX3_coal 48 = .ok (.if_icmp .le 13, 3) := by decide +kernel
theorem dX3_coal_51 : decode cX3_coal 51 = .ok (.new 38, 3) := by decide +kernel
theorem dX3_coal_54 : decode cX3_coal 54 = .ok (.dup, 1) := by decide +kernel
theorem dX3_coal_55 : decode cX3_coal 55 = .ok (.ldc 70, 2) := by decide +kernel
theorem dX3_coal_57 : decode cX3_coal 57 = .ok (.invokespecial 42, 3) := by decide +kernel
theorem dX3_coal_60 : decode cX3_coal 60 = .ok (.athrow, 1) := by decide +kernel
theorem dX3_coal_61 : decode cX3_coal 61 = .ok (.aload_n 3, 1) := by decide +kernel
theorem dX3_coal_62 : decode cX3_coal 62 = .ok (.dup, 1) := by decide +kernel
theorem dX3_coal_63 : decode cX3_coal 63 = .ok (.getfield 64, 3) := by decide +kernel
theorem dX3_coal_66 : decode cX3_coal 66 = .ok (.iload 4, 2) := by decide +kernel
theorem dX3_coal_68 : decode cX3_coal 68 = .ok (.isub, 1) := by decide +kernel
theorem dX3_coal_69 : decode cX3_coal 69 = .ok (.putfield 64, 3) := by decide +kernel
theorem dX3_coal_72 : decode cX3_coal 72 = .ok (.aload_n 3, 1) := by decide +kernel
theorem dX3_coal_73 : decode cX3_coal 73 = .ok (.dup, 1) := by decide +kernel
theorem dX3_coal_74 : decode cX3_coal 74 = .ok (.getfield 67, 3) := by decide +kernel
theorem dX3_coal_77 : decode cX3_coal 77 = .ok (.iload_n 2, 1) := by decide +kernel
theorem dX3_coal_78 : decode cX3_coal 78 = .ok (.iadd, 1) := by decide +kernel
theorem dX3_coal_79 : decode cX3_coal 79 = .ok (.putfield 67, 3) := by decide +kernel
theorem dX3_coal_82 : decode cX3_coal 82 = .ok (.aload_n 3, 1) := by decide +kernel
theorem dX3_coal_83 : decode cX3_coal 83 = .ok (.getfield 67, 3) := by decide +kernel
theorem dX3_coal_86 : decode cX3_coal 86 = .ok (.ireturn, 1) := by decide +kernel
theorem dX3_told_0 : decode cX3_told 0 = .ok (.aload_n 0, 1) := by decide +kernel
theorem dX3_told_1 : decode cX3_told 1 = .ok (.iload_n 1, 1) := by decide +kernel
theorem dX3_told_2 : decode cX3_told 2 = .ok (.invokevirtual 52, 3) := by decide +kernel
theorem dX3_told_5 : decode cX3_told 5 = .ok (.iload_n 2, 1) := by decide +kernel
theorem dX3_told_6 : decode cX3_told 6 = .ok (.bipush 12, 2) := by decide +kernel
theorem dX3_told_8 : decode cX3_told 8 = .ok (.invokestatic 26, 3) := by decide +kernel
theorem dX3_told_11 : decode cX3_told 11 = .ok (.aload_n 0, 1) := by decide +kernel
theorem dX3_told_12 : decode cX3_told 12 = .ok (.getfield 10, 3) := by decide +kernel
theorem dX3_told_15 : decode cX3_told 15 = .ok (.getfield 45, 3) := by decide +kernel
theorem dX3_told_18 : decode cX3_told 18 = .ok (.iload_n 1, 1) := by decide +kernel
theorem dX3_told_19 : decode cX3_told 19 = .ok (.aaload, 1) := by decide +kernel
theorem dX3_told_20 : decode cX3_told 20 = .ok (.iload_n 2, 1) := by decide +kernel
theorem dX3_told_21 : decode cX3_told 21 = .ok (.invokevirtual 80, 3) := by decide +kernel
theorem dX3_told_24 : decode cX3_told 24 = .ok (.ireturn, 1) := by decide +kernel
theorem dX3_nails_0 : decode cX3_nails 0 = .ok (.aload_n 0, 1) := by decide +kernel
theorem dX3_nails_1 : decode cX3_nails 1 = .ok (.iload_n 1, 1) := by decide +kernel
theorem dX3_nails_2 : decode cX3_nails 2 = .ok (.invokevirtual 52, 3) := by decide +kernel
theorem dX3_nails_5 : decode cX3_nails 5 = .ok (.iload_n 2, 1) := by decide +kernel
theorem dX3_nails_6 : decode cX3_nails 6 = .ok (.iconst 4, 1) := by decide +kernel
theorem dX3_nails_7 : decode cX3_nails 7 = .ok (.invokestatic 26, 3) := by decide +kernel
theorem dX3_nails_10 : decode cX3_nails 10 = .ok (.iload_n 3, 1) := by decide +kernel
theorem dX3_nails_11 : decode cX3_nails 11 = .ok (.iconst 2, 1) := by decide +kernel
theorem dX3_nails_12 : decode cX3_nails 12 = .ok (.invokestatic 26, 3) := by decide +kernel
theorem dX3_nails_15 : decode cX3_nails 15 = .ok (.aload_n 0, 1) := by decide +kernel
theorem dX3_nails_16 : decode cX3_nails 16 = .ok (.getfield 10, 3) := by decide +kernel
theorem dX3_nails_19 : decode cX3_nails 19 = .ok (.getfield 45, 3) := by decide +kernel
theorem dX3_nails_22 : decode cX3_nails 22 = .ok (.iload_n 1, 1) := by decide +kernel
theorem dX3_nails_23 : decode cX3_nails 23 = .ok (.aaload, 1) := by decide +kernel
theorem dX3_nails_24 : decode cX3_nails 24 = .ok (.astore 4, 2) := by decide +kernel
theorem dX3_nails_26 : decode cX3_nails 26 = .ok (.iload_n 3, 1) := by decide +kernel
theorem dX3_nails_27 : decode cX3_nails 27 = .ok (.ifCond .ne 13, 3) := by decide +kernel
theorem dX3_nails_30 : decode cX3_nails 30 = .ok (.aload 4, 2) := by decide +kernel
theorem dX3_nails_32 : decode cX3_nails 32 = .ok (.getfield 84, 3) := by decide +kernel
theorem dX3_nails_35 : decode cX3_nails 35 = .ok (.iload_n 2, 1) := by decide +kernel
theorem dX3_nails_36 : decode cX3_nails 36 = .ok (.iaload, 1) := by decide +kernel
theorem dX3_nails_37 : decode cX3_nails 37 = .ok (.goto 10, 3) := by decide +kernel
theorem dX3_nails_40 : decode cX3_nails 40 = .ok (.aload 4, 2) := by decide +kernel
theorem dX3_nails_42 : decode cX3_nails 42 = .ok (.getfield 88, 3) := by decide +kernel
theorem dX3_nails_45 : decode cX3_nails 45 = .ok (.iload_n 2, 1) := by decide +kernel
theorem dX3_nails_46 : decode cX3_nails 46 = .ok (.iaload, 1) := by decide +kernel
theorem dX3_nails_47 : decode cX3_nails 47 = .ok (.ireturn, 1) := by decide +kernel
theorem dX3_keep_0 : decode cX3_keep 0 = .ok (.iload_n 1, 1) := by decide +kernel
theorem dX3_keep_1 : decode cX3_keep 1 = .ok (.iconst 4, 1) := by decide +kernel
theorem dX3_keep_2 : decode cX3_keep 2 = .ok (.invokestatic 26, 3) := by decide +kernel
theorem dX3_keep_5 : decode cX3_keep 5 = .ok (.iload_n 2, 1) := by decide +kernel
theorem dX3_keep_6 : decode cX3_keep 6 = .ok (.iconst 0, 1) := by decide +kernel
theorem dX3_keep_7 : decode cX3_keep 7 = .ok (.bipush 60, 2) := by decide +kernel
theorem dX3_keep_9 : decode cX3_keep 9 = .ok (.invokestatic 30, 3) := by decide +kernel
theorem dX3_keep_12 : decode cX3_keep 12 = .ok (.aload_n 0, 1) := by decide +kernel
theorem dX3_keep_13 : decode cX3_keep 13 = .ok (.getfield 10, 3) := by decide +kernel
theorem dX3_keep_16 : decode cX3_keep 16 = .ok (.getfield 91, 3) := by decide +kernel
theorem dX3_keep_19 : decode cX3_keep 19 = .ok (.iload_n 1, 1) := by decide +kernel
theorem dX3_keep_20 : decode cX3_keep 20 = .ok (.aaload, 1) := by decide +kernel
theorem dX3_keep_21 : decode cX3_keep 21 = .ok (.getfield 95, 3) := by decide +kernel
theorem dX3_keep_24 : decode cX3_keep 24 = .ok (.istore_n 3, 1) := by decide +kernel
theorem dX3_keep_25 : decode cX3_keep 25 = .ok (.aload_n 0, 1) := by decide +kernel
theorem dX3_keep_26 : decode cX3_keep 26 = .ok (.getfield 10, 3) := by decide +kernel
theorem dX3_keep_29 : decode cX3_keep 29 = .ok (.getfield 91, 3) := by decide +kernel
theorem dX3_keep_32 : decode cX3_keep 32 = .ok (.iload_n 1, 1) := by decide +kernel
theorem dX3_keep_33 : decode cX3_keep 33 = .ok (.aaload, 1) := by decide +kernel
theorem dX3_keep_34 : decode cX3_keep 34 = .ok (.iload_n 2, 1) := by decide +kernel
theorem dX3_keep_35 : decode cX3_keep 35 = .ok (.putfield 95, 3) := by decide +kernel
theorem dX3_keep_38 : decode cX3_keep 38 = .ok (.iload_n 3, 1) := by decide +kernel
theorem dX3_keep_39 : decode cX3_keep 39 = .ok (.ireturn, 1) := by decide +kernel
theorem dX3_fogger_0 : decode cX3_fogger 0 = .ok (.iload_n 1, 1) := by decide +kernel
theorem dX3_fogger_1 : decode cX3_fogger 1 = .ok (.iconst 4, 1) := by decide +kernel
theorem dX3_fogger_2 : decode cX3_fogger 2 = .ok (.invokestatic 26, 3) := by decide +kernel
theorem dX3_fogger_5 : decode cX3_fogger 5 = .ok (.iload_n 2, 1) := by decide +kernel
theorem dX3_fogger_6 : decode cX3_fogger 6 = .ok (.bipush 6, 2) := by decide +kernel
theorem dX3_fogger_8 : decode cX3_fogger 8 = .ok (.invokestatic 26, 3) := by decide +kernel
theorem dX3_fogger_11 : decode cX3_fogger 11 = .ok (.aload_n 0, 1) := by decide +kernel
theorem dX3_fogger_12 : decode cX3_fogger 12 = .ok (.getfield 10, 3) := by decide +kernel
theorem dX3_fogger_15 : decode cX3_fogger 15 = .ok (.iload_n 1, 1) := by decide +kernel
theorem dX3_fogger_16 : decode cX3_fogger 16 = .ok (.iload_n 2, 1) := by decide +kernel
theorem dX3_fogger_17 : decode cX3_fogger 17 = .ok (.invokevirtual 100, 3) := by decide +kernel
theorem dX3_fogger_20 : decode cX3_fogger 20 = .ok (.ireturn, 1) := by decide +kernel
theorem dX3_count_0 : decode cX3_count 0 = .ok (.iload_n 1, 1) := by decide +kernel
theorem dX3_count_1 : decode cX3_count 1 = .ok (.bipush 11, 2) := by decide +kernel
theorem dX3_count_3 : decode cX3_count 3 = .ok (.invokestatic 26, 3) := by decide +kernel
theorem dX3_count_6 : decode cX3_count 6 = .ok (.aload_n 0, 1) := by decide +kernel
theorem dX3_count_7 : decode cX3_count 7 = .ok (.getfield 10, 3) := by decide +kernel
theorem dX3_count_10 : decode cX3_count 10 = .ok (.iload_n 1, 1) := by decide +kernel
theorem dX3_count_11 : decode cX3_count 11 = .ok (.invokevirtual 104, 3) := by decide +kernel
theorem dX3_count_14 : decode cX3_count 14 = .ok (.ireturn, 1) := by decide +kernel
theorem dX3_pass_0 : decode cX3_pass 0 = .ok (.iload_n 1, 1) := by decide +kernel
theorem dX3_pass_1 : decode cX3_pass 1 = .ok (.iconst 1, 1) := by decide +kernel
theorem dX3_pass_2 : decode cX3_pass 2 = .ok (.sipush 240, 3) := by decide +kernel
theorem dX3_pass_5 : decode cX3_pass 5 = .ok (.invokestatic 30, 3) := by decide +kernel
theorem dX3_pass_8 : decode cX3_pass 8 = .ok (.aload_n 0, 1) := by decide +kernel
theorem dX3_pass_9 : decode cX3_pass 9 = .ok (.getfield 10, 3) := by decide +kernel
theorem dX3_pass_12 : decode cX3_pass 12 = .ok (.iload_n 1, 1) := by decide +kernel
theorem dX3_pass_13 : decode cX3_pass 13 = .ok (.invokevirtual 107, 3) := by decide +kernel
theorem dX3_pass_16 : decode cX3_pass 16 = .ok (.ireturn, 1) := by decide +kernel
theorem dX3_rate_0 : decode cX3_rate 0 = .ok (.aload_n 0, 1) := by decide +kernel
theorem dX3_rate_1 : decode cX3_rate 1 = .ok (.iload_n 1, 1) := by decide +kernel
theorem dX3_rate_2 : decode cX3_rate 2 = .ok (.invokevirtual 52, 3) := by decide +kernel
theorem dX3_rate_5 : decode cX3_rate 5 = .ok (.aload_n 0, 1) := by decide +kernel
theorem dX3_rate_6 : decode cX3_rate 6 = .ok (.getfield 22, 3) := by decide +kernel
theorem dX3_rate_9 : decode cX3_rate 9 = .ok (.aload_n 0, 1) := by decide +kernel
theorem dX3_rate_10 : decode cX3_rate 10 = .ok (.getfield 10, 3) := by decide +kernel
theorem dX3_rate_13 : decode cX3_rate 13 = .ok (.getfield 45, 3) := by decide +kernel
theorem dX3_rate_16 : decode cX3_rate 16 = .ok (.iload_n 1, 1) := by decide +kernel
theorem dX3_rate_17 : decode cX3_rate 17 = .ok (.aaload, 1) := by decide +kernel
theorem dX3_rate_18 : decode cX3_rate 18 = .ok (.invokevirtual 110, 3) := by decide +kernel
theorem dX3_rate_21 : decode cX3_rate 21 = .ok (.aload_n 0, 1) := by decide +kernel
theorem dX3_rate_22 : decode cX3_rate 22 = .ok (.getfield 22, 3) := by decide +kernel
theorem dX3_rate_25 : decode cX3_rate 25 = .ok (.iconst 1, 1) := by decide +kernel
theorem dX3_rate_26 : decode cX3_rate 26 = .ok (.invokevirtual 114, 3) := by decide +kernel
theorem dX3_rate_29 : decode cX3_rate 29 = .ok (.ireturn, 1) := by decide +kernel
theorem dX3_foresee_0 : decode cX3_foresee 0 = .ok (.iload_n 1, 1) := by decide +kernel
theorem dX3_foresee_1 : decode cX3_foresee 1 = .ok (.iconst 1, 1) := by decide +kernel
theorem dX3_foresee_2 : decode cX3_foresee 2 = .ok (.sipush 240, 3) := by decide +kernel
theorem dX3_foresee_5 : decode cX3_foresee 5 = .ok (.invokestatic 30, 3) := by decide +kernel
theorem dX3_foresee_8 : decode cX3_foresee 8 = .ok (.iload_n 2, 1) := by decide +kernel
theorem dX3_foresee_9 : decode cX3_foresee 9 = .ok (.iconst 3, 1) := by decide +kernel
theorem dX3_foresee_10 : decode cX3_foresee 10 = .ok (.if_icmp .lt 9, 3) := by decide +kernel
theorem dX3_foresee_13 : decode cX3_foresee 13 = .ok (.iload_n 2, 1) := by decide +kernel
theorem dX3_foresee_14 : decode cX3_foresee 14 = .ok (.bipush 8, 2) := by decide +kernel
theorem dX3_foresee_16 : decode cX3_foresee 16 = .ok (.if_icmp .le 13, 3) := by decide +kernel
theorem dX3_foresee_19 : decode cX3_foresee 19 = .ok (.new 117, 3) := by decide +kernel
theorem dX3_foresee_22 : decode cX3_foresee 22 = .ok (.dup, 1) := by decide +kernel
theorem dX3_foresee_23 : decode cX3_foresee 23 = .ok (.ldc 119, 2) := by decide +kernel
theorem dX3_foresee_25 : decode cX3_foresee 25 = .ok (.invokespecial 121, 3) := by decide +kernel
theorem dX3_foresee_28 : decode cX3_foresee 28 = .ok (.athrow, 1) := by decide +kernel
theorem dX3_foresee_29 : decode cX3_foresee 29 = .ok (.aload_n 0, 1) := by decide +kernel
theorem dX3_foresee_30 : decode cX3_foresee 30 = .ok (.getfield 16, 3) := by decide +kernel
theorem dX3_foresee_33 : decode cX3_foresee 33 = .ok (.aload_n 0, 1) := by decide +kernel
theorem dX3_foresee_34 : decode cX3_foresee 34 = .ok (.getfield 10, 3) := by decide +kernel
theorem dX3_foresee_37 : decode cX3_foresee 37 = .ok (.invokevirtual 122, 3) := by decide +kernel
theorem dX3_foresee_40 : decode cX3_foresee 40 = .ok (.aload_n 0, 1) := by decide +kernel
theorem dX3_foresee_41 : decode cX3_foresee 41 = .ok (.getfield 16, 3) := by decide +kernel
theorem dX3_foresee_44 : decode cX3_foresee 44 = .ok (.iload_n 1, 1) := by decide +kernel
theorem dX3_foresee_45 : decode cX3_foresee 45 = .ok (.invokevirtual 107, 3) := by decide +kernel
theorem dX3_foresee_48 : decode cX3_foresee 48 = .ok (.pop, 1) := by decide +kernel
theorem dX3_foresee_49 : decode cX3_foresee 49 = .ok (.aload_n 0, 1) := by decide +kernel
theorem dX3_foresee_50 : decode cX3_foresee 50 = .ok (.getfield 16, 3) := by decide +kernel
theorem dX3_foresee_53 : decode cX3_foresee 53 = .ok (.iload_n 2, 1) := by decide +kernel
theorem dX3_foresee_54 : decode cX3_foresee 54 = .ok (.invokevirtual 104, 3) := by decide +kernel
theorem dX3_foresee_57 : decode cX3_foresee 57 = .ok (.ireturn, 1) := by decide +kernel
theorem dX3_advise_0 : decode cX3_advise 0 = .ok (.aload_n 0, 1) := by decide +kernel
theorem dX3_advise_1 : decode cX3_advise 1 = .ok (.iload_n 1, 1) := by decide +kernel
theorem dX3_advise_2 : decode cX3_advise 2 = .ok (.invokevirtual 52, 3) := by decide +kernel
theorem dX3_advise_5 : decode cX3_advise 5 = .ok (.iload_n 2, 1) := by decide +kernel
theorem dX3_advise_6 : decode cX3_advise 6 = .ok (.iconst 1, 1) := by decide +kernel
theorem dX3_advise_7 : decode cX3_advise 7 = .ok (.bipush 120, 2) := by decide +kernel
theorem dX3_advise_9 : decode cX3_advise 9 = .ok (.invokestatic 30, 3) := by decide +kernel
theorem dX3_advise_12 : decode cX3_advise 12 = .ok (.iconst 0, 1) := by decide +kernel
theorem dX3_advise_13 : decode cX3_advise 13 = .ok (.istore_n 3, 1) := by decide +kernel
theorem dX3_advise_14 : decode cX3_advise 14 = .ok (.iconst (-1), 1) := by decide +kernel
theorem dX3_advise_15 : decode cX3_advise 15 = .ok (.istore 4, 2) := by decide +kernel
theorem dX3_advise_17 : decode cX3_advise 17 = .ok (.iconst 0, 1) := by decide +kernel
theorem dX3_advise_18 : decode cX3_advise 18 = .ok (.istore 5, 2) := by decide +kernel
theorem dX3_advise_20 : decode cX3_advise 20 = .ok (.iload 5, 2) := by decide +kernel
theorem dX3_advise_22 : decode cX3_advise 22 = .ok (.iconst 4, 1) := by decide +kernel
theorem dX3_advise_23 : decode cX3_advise 23 = .ok (.if_icmp .ge 65, 3) := by decide +kernel
theorem dX3_advise_26 : decode cX3_advise 26 = .ok (.aload_n 0, 1) := by decide +kernel
theorem dX3_advise_27 : decode cX3_advise 27 = .ok (.getfield 22, 3) := by decide +kernel
theorem dX3_advise_30 : decode cX3_advise 30 = .ok (.aload_n 0, 1) := by decide +kernel
theorem dX3_advise_31 : decode cX3_advise 31 = .ok (.getfield 10, 3) := by decide +kernel
theorem dX3_advise_34 : decode cX3_advise 34 = .ok (.getfield 45, 3) := by decide +kernel
theorem dX3_advise_37 : decode cX3_advise 37 = .ok (.iload_n 1, 1) := by decide +kernel
theorem dX3_advise_38 : decode cX3_advise 38 = .ok (.aaload, 1) := by decide +kernel
theorem dX3_advise_39 : decode cX3_advise 39 = .ok (.invokevirtual 110, 3) := by decide +kernel
theorem dX3_advise_42 : decode cX3_advise 42 = .ok (.aload_n 0, 1) := by decide +kernel
theorem dX3_advise_43 : decode cX3_advise 43 = .ok (.getfield 22, 3) := by decide +kernel
theorem dX3_advise_46 : decode cX3_advise 46 = .ok (.iload 5, 2) := by decide +kernel
theorem dX3_advise_48 : decode cX3_advise 48 = .ok (.putfield 72, 3) := by decide +kernel
theorem dX3_advise_51 : decode cX3_advise 51 = .ok (.aload_n 0, 1) := by decide +kernel
theorem dX3_advise_52 : decode cX3_advise 52 = .ok (.getfield 22, 3) := by decide +kernel
theorem dX3_advise_55 : decode cX3_advise 55 = .ok (.iload_n 2, 1) := by decide +kernel
theorem dX3_advise_56 : decode cX3_advise 56 = .ok (.invokevirtual 114, 3) := by decide +kernel
theorem dX3_advise_59 : decode cX3_advise 59 = .ok (.getstatic 125, 3) := by decide +kernel
theorem dX3_advise_62 : decode cX3_advise 62 = .ok (.iload 5, 2) := by decide +kernel
theorem dX3_advise_64 : decode cX3_advise 64 = .ok (.iaload, 1) := by decide +kernel
theorem dX3_advise_65 : decode cX3_advise 65 = .ok (.imul, 1) := by decide +kernel
theorem dX3_advise_66 : decode cX3_advise 66 = .ok (.istore 6, 2) := by decide +kernel
theorem dX3_advise_68 : decode cX3_advise 68 = .ok (.iload 6, 2) := by decide +kernel
theorem dX3_advise_70 : decode cX3_advise 70 = .ok (.iload 4, 2) := by decide +kernel
theorem dX3_advise_72 : decode cX3_advise 72 = .ok (.if_icmp .le 10, 3) := by decide +kernel
theorem dX3_advise_75 : decode cX3_advise 75 = .ok (.iload 5, 2) := by decide +kernel
theorem dX3_advise_77 : decode cX3_advise 77 = .ok (.istore_n 3, 1) := by decide +kernel
theorem dX3_advise_78 : decode cX3_advise 78 = .ok (.iload 6, 2) := by decide +kernel
theorem dX3_advise_80 : decode cX3_advise 80 = .ok (.istore 4, 2) := by decide +kernel
end
section
theorem dX3_advise_82 : decode cX3_advise 82 = .ok (.iinc 5 1, 3) := by decide +kernel
theorem dX3_advise_85 : decode cX3_advise 85 = .ok (.goto (-65), 3) := by decide +kernel
theorem dX3_advise_88 : decode cX3_advise 88 = .ok (.iload_n 3, 1) := by decide +kernel
theorem dX3_advise_89 : decode cX3_advise 89 = .ok (.ireturn, 1) := by decide +kernel
theorem dX3_richest_0 : decode cX3_richest 0 = .ok (.iconst (-1), 1) := by decide +kernel
theorem dX3_richest_1 : decode cX3_richest 1 = .ok (.istore_n 1, 1) := by decide +kernel
theorem dX3_richest_2 : decode cX3_richest 2 = .ok (.iconst 0, 1) := by decide +kernel
theorem dX3_richest_3 : decode cX3_richest 3 = .ok (.istore_n 2, 1) := by decide +kernel
theorem dX3_richest_4 : decode cX3_richest 4 = .ok (.iconst 0, 1) := by decide +kernel
theorem dX3_richest_5 : decode cX3_richest 5 = .ok (.istore_n 3, 1) := by decide +kernel
theorem dX3_richest_6 : decode cX3_richest 6 = .ok (.iload_n 3, 1) := by decide +kernel
theorem dX3_richest_7 : decode cX3_richest 7 = .ok (.aload_n 0, 1) := by decide +kernel
theorem dX3_richest_8 : decode cX3_richest 8 = .ok (.getfield 10, 3) := by decide +kernel
theorem dX3_richest_11 : decode cX3_richest 11 = .ok (.getfield 34, 3) := by decide +kernel
theorem dX3_richest_14 : decode cX3_richest 14 = .ok (.if_icmp .ge 51, 3) := by decide +kernel
theorem dX3_richest_17 : decode cX3_richest 17 = .ok (.aload_n 0, 1) := by decide +kernel
theorem dX3_richest_18 : decode cX3_richest 18 = .ok (.getfield 10, 3) := by decide +kernel
theorem dX3_richest_21 : decode cX3_richest 21 = .ok (.getfield 45, 3) := by decide +kernel
theorem dX3_richest_24 : decode cX3_richest 24 = .ok (.iload_n 3, 1) := by decide +kernel
theorem dX3_richest_25 : decode cX3_richest 25 = .ok (.aaload, 1) := by decide +kernel
theorem dX3_richest_26 : decode cX3_richest 26 = .ok (.getfield 64, 3) := by decide +kernel
theorem dX3_richest_29 : decode cX3_richest 29 = .ok (.aload_n 0, 1) := by decide +kernel
theorem dX3_richest_30 : decode cX3_richest 30 = .ok (.getfield 10, 3) := by decide +kernel
theorem dX3_richest_33 : decode cX3_richest 33 = .ok (.getfield 45, 3) := by decide +kernel
theorem dX3_richest_36 : decode cX3_richest 36 = .ok (.iload_n 3, 1) := by decide +kernel
theorem dX3_richest_37 : decode cX3_richest 37 = .ok (.aaload, 1) := by decide +kernel
theorem dX3_richest_38 : decode cX3_richest 38 = .ok (.getfield 56, 3) := by decide +kernel
theorem dX3_richest_41 : decode cX3_richest 41 = .ok (.isub, 1) := by decide +kernel
theorem dX3_richest_42 : decode cX3_richest 42 = .ok (.istore 4, 2) := by decide +kernel
theorem dX3_richest_44 : decode cX3_richest 44 = .ok (.iload_n 1, 1) := by decide +kernel
theorem dX3_richest_45 : decode cX3_richest 45 = .ok (.ifCond .lt 9, 3) := by decide +kernel
theorem dX3_richest_48 : decode cX3_richest 48 = .ok (.iload 4, 2) := by decide +kernel
theorem dX3_richest_50 : decode cX3_richest 50 = .ok (.iload_n 2, 1) := by decide +kernel
theorem dX3_richest_51 : decode cX3_richest 51 = .ok (.if_icmp .le 8, 3) := by decide +kernel
theorem dX3_richest_54 : decode cX3_richest 54 = .ok (.iload_n 3, 1) := by decide +kernel
theorem dX3_richest_55 : decode cX3_richest 55 = .ok (.istore_n 1, 1) := by decide +kernel
theorem dX3_richest_56 : decode cX3_richest 56 = .ok (.iload 4, 2) := by decide +kernel
theorem dX3_richest_58 : decode cX3_richest 58 = .ok (.istore_n 2, 1) := by decide +kernel
theorem dX3_richest_59 : decode cX3_richest 59 = .ok (.iinc 3 1, 3) := by decide +kernel
theorem dX3_richest_62 : decode cX3_richest 62 = .ok (.goto (-56), 3) := by decide +kernel
theorem dX3_richest_65 : decode cX3_richest 65 = .ok (.iload_n 1, 1) := by decide +kernel
theorem dX3_richest_66 : decode cX3_richest 66 = .ok (.ireturn, 1) := by decide +kernel
theorem dX3_digest_0 : decode cX3_digest 0 = .ok (.ldc2_w 131, 3) := by decide +kernel
theorem dX3_digest_3 : decode cX3_digest 3 = .ok (.lstore_n 1, 1) := by decide +kernel
theorem dX3_digest_4 : decode cX3_digest 4 = .ok (.iconst 0, 1) := by decide +kernel
theorem dX3_digest_5 : decode cX3_digest 5 = .ok (.istore_n 3, 1) := by decide +kernel
theorem dX3_digest_6 : decode cX3_digest 6 = .ok (.iload_n 3, 1) := by decide +kernel
theorem dX3_digest_7 : decode cX3_digest 7 = .ok (.bipush 11, 2) := by decide +kernel
theorem dX3_digest_9 : decode cX3_digest 9 = .ok (.if_icmp .ge 25, 3) := by decide +kernel
theorem dX3_digest_12 : decode cX3_digest 12 = .ok (.lload_n 1, 1) := by decide +kernel
theorem dX3_digest_13 : decode cX3_digest 13 = .ok (.ldc2_w 133, 3) := by decide +kernel
theorem dX3_digest_16 : decode cX3_digest 16 = .ok (.lmul, 1) := by decide +kernel
theorem dX3_digest_17 : decode cX3_digest 17 = .ok (.aload_n 0, 1) := by decide +kernel
theorem dX3_digest_18 : decode cX3_digest 18 = .ok (.getfield 10, 3) := by decide +kernel
theorem dX3_digest_21 : decode cX3_digest 21 = .ok (.iload_n 3, 1) := by decide +kernel
theorem dX3_digest_22 : decode cX3_digest 22 = .ok (.invokevirtual 104, 3) := by decide +kernel
theorem dX3_digest_25 : decode cX3_digest 25 = .ok (.i2l, 1) := by decide +kernel
theorem dX3_digest_26 : decode cX3_digest 26 = .ok (.ladd, 1) := by decide +kernel
theorem dX3_digest_27 : decode cX3_digest 27 = .ok (.lstore_n 1, 1) := by decide +kernel
theorem dX3_digest_28 : decode cX3_digest 28 = .ok (.iinc 3 1, 3) := by decide +kernel
theorem dX3_digest_31 : decode cX3_digest 31 = .ok (.goto (-25), 3) := by decide +kernel
theorem dX3_digest_34 : decode cX3_digest 34 = .ok (.iconst 0, 1) := by decide +kernel
theorem dX3_digest_35 : decode cX3_digest 35 = .ok (.istore_n 3, 1) := by decide +kernel
theorem dX3_digest_36 : decode cX3_digest 36 = .ok (.iload_n 3, 1) := by decide +kernel
theorem dX3_digest_37 : decode cX3_digest 37 = .ok (.aload_n 0, 1) := by decide +kernel
theorem dX3_digest_38 : decode cX3_digest 38 = .ok (.getfield 10, 3) := by decide +kernel
theorem dX3_digest_41 : decode cX3_digest 41 = .ok (.getfield 34, 3) := by decide +kernel
theorem dX3_digest_44 : decode cX3_digest 44 = .ok (.if_icmp .ge 23, 3) := by decide +kernel
theorem dX3_digest_47 : decode cX3_digest 47 = .ok (.aload_n 0, 1) := by decide +kernel
theorem dX3_digest_48 : decode cX3_digest 48 = .ok (.getfield 10, 3) := by decide +kernel
theorem dX3_digest_51 : decode cX3_digest 51 = .ok (.getfield 45, 3) := by decide +kernel
theorem dX3_digest_54 : decode cX3_digest 54 = .ok (.iload_n 3, 1) := by decide +kernel
theorem dX3_digest_55 : decode cX3_digest 55 = .ok (.aaload, 1) := by decide +kernel
theorem dX3_digest_56 : decode cX3_digest 56 = .ok (.lload_n 1, 1) := by decide +kernel
theorem dX3_digest_57 : decode cX3_digest 57 = .ok (.invokevirtual 135, 3) := by decide +kernel
theorem dX3_digest_60 : decode cX3_digest 60 = .ok (.lstore_n 1, 1) := by decide +kernel
theorem dX3_digest_61 : decode cX3_digest 61 = .ok (.iinc 3 1, 3) := by decide +kernel
theorem dX3_digest_64 : decode cX3_digest 64 = .ok (.goto (-28), 3) := by decide +kernel
theorem dX3_digest_67 : decode cX3_digest 67 = .ok (.iconst 0, 1) := by decide +kernel
theorem dX3_digest_68 : decode cX3_digest 68 = .ok (.istore_n 3, 1) := by decide +kernel
theorem dX3_digest_69 : decode cX3_digest 69 = .ok (.iload_n 3, 1) := by decide +kernel
theorem dX3_digest_70 : decode cX3_digest 70 = .ok (.iconst 4, 1) := by decide +kernel
theorem dX3_digest_71 : decode cX3_digest 71 = .ok (.if_icmp .ge 43, 3) := by decide +kernel
theorem dX3_digest_74 : decode cX3_digest 74 = .ok (.iconst 0, 1) := by decide +kernel
theorem dX3_digest_75 : decode cX3_digest 75 = .ok (.istore 4, 2) := by decide +kernel
theorem dX3_digest_77 : decode cX3_digest 77 = .ok (.iload 4, 2) := by decide +kernel
theorem dX3_digest_79 : decode cX3_digest 79 = .ok (.bipush 6, 2) := by decide +kernel
theorem dX3_digest_81 : decode cX3_digest 81 = .ok (.if_icmp .ge 27, 3) := by decide +kernel
theorem dX3_digest_84 : decode cX3_digest 84 = .ok (.lload_n 1, 1) := by decide +kernel
theorem dX3_digest_85 : decode cX3_digest 85 = .ok (.ldc2_w 133, 3) := by decide +kernel
theorem dX3_digest_88 : decode cX3_digest 88 = .ok (.lmul, 1) := by decide +kernel
theorem dX3_digest_89 : decode cX3_digest 89 = .ok (.aload_n 0, 1) := by decide +kernel
theorem dX3_digest_90 : decode cX3_digest 90 = .ok (.getfield 10, 3) := by decide +kernel
theorem dX3_digest_93 : decode cX3_digest 93 = .ok (.iload_n 3, 1) := by decide +kernel
theorem dX3_digest_94 : decode cX3_digest 94 = .ok (.iload 4, 2) := by decide +kernel
theorem dX3_digest_96 : decode cX3_digest 96 = .ok (.invokevirtual 100, 3) := by decide +kernel
theorem dX3_digest_99 : decode cX3_digest 99 = .ok (.i2l, 1) := by decide +kernel
theorem dX3_digest_100 : decode cX3_digest 100 = .ok (.ladd, 1) := by decide +kernel
theorem dX3_digest_101 : decode cX3_digest 101 = .ok (.lstore_n 1, 1) := by decide +kernel
theorem dX3_digest_102 : decode cX3_digest 102 = .ok (.iinc 4 1, 3) := by decide +kernel
theorem dX3_digest_105 : decode cX3_digest 105 = .ok (.goto (-28), 3) := by decide +kernel
theorem dX3_digest_108 : decode cX3_digest 108 = .ok (.iinc 3 1, 3) := by decide +kernel
theorem dX3_digest_111 : decode cX3_digest 111 = .ok (.goto (-42), 3) := by decide +kernel
theorem dX3_digest_114 : decode cX3_digest 114 = .ok (.lload_n 1, 1) := by decide +kernel
theorem dX3_digest_115 : decode cX3_digest 115 = .ok (.lreturn, 1) := by decide +kernel
theorem dX3_needNailer_0 : decode cX3_needNailer 0 = .ok (.iload_n 1, 1) := by decide +kernel
theorem dX3_needNailer_1 : decode cX3_needNailer 1 = .ok (.aload_n 0, 1) := by decide +kernel
theorem dX3_needNailer_2 : decode cX3_needNailer 2 = .ok (.getfield 10, 3) := by decide +kernel
theorem dX3_needNailer_5 : decode cX3_needNailer 5 = .ok (.getfield 34, 3) := by decide +kernel
theorem dX3_needNailer_8 : decode cX3_needNailer 8 = .ok (.invokestatic 26, 3) := by decide +kernel
theorem dX3_needNailer_11 : decode cX3_needNailer 11 = .ok (.return_, 1) := by decide +kernel
theorem dX3_needIndex_0 : decode cX3_needIndex 0 = .ok (.iload_n 0, 1) := by decide +kernel
theorem dX3_needIndex_1 : decode cX3_needIndex 1 = .ok (.ifCond .lt 8, 3) := by decide +kernel
theorem dX3_needIndex_4 : decode cX3_needIndex 4 = .ok (.iload_n 0, 1) := by decide +kernel
theorem dX3_needIndex_5 : decode cX3_needIndex 5 = .ok (.iload_n 1, 1) := by decide +kernel
theorem dX3_needIndex_6 : decode cX3_needIndex 6 = .ok (.if_icmp .lt 13, 3) := by decide +kernel
theorem dX3_needIndex_9 : decode cX3_needIndex 9 = .ok (.new 117, 3) := by decide +kernel
theorem dX3_needIndex_12 : decode cX3_needIndex 12 = .ok (.dup, 1) := by decide +kernel
theorem dX3_needIndex_13 : decode cX3_needIndex 13 = .ok (.ldc 139, 2) := by decide +kernel
theorem dX3_needIndex_15 : decode cX3_needIndex 15 = .ok (.invokespecial 121, 3) := by decide +kernel
theorem dX3_needIndex_18 : decode cX3_needIndex 18 = .ok (.athrow, 1) := by decide +kernel
theorem dX3_needIndex_19 : decode cX3_needIndex 19 = .ok (.return_, 1) := by decide +kernel
theorem dX3_needWithin_0 : decode cX3_needWithin 0 = .ok (.iload_n 0, 1) := by decide +kernel
theorem dX3_needWithin_1 : decode cX3_needWithin 1 = .ok (.iload_n 1, 1) := by decide +kernel
theorem dX3_needWithin_2 : decode cX3_needWithin 2 = .ok (.if_icmp .lt 8, 3) := by decide +kernel
theorem dX3_needWithin_5 : decode cX3_needWithin 5 = .ok (.iload_n 0, 1) := by decide +kernel
theorem dX3_needWithin_6 : decode cX3_needWithin 6 = .ok (.iload_n 2, 1) := by decide +kernel
theorem dX3_needWithin_7 : decode cX3_needWithin 7 = .ok (.if_icmp .le 13, 3) := by decide +kernel
theorem dX3_needWithin_10 : decode cX3_needWithin 10 = .ok (.new 141, 3) := by decide +kernel
theorem dX3_needWithin_13 : decode cX3_needWithin 13 = .ok (.dup, 1) := by decide +kernel
theorem dX3_needWithin_14 : decode cX3_needWithin 14 = .ok (.ldc 143, 2) := by decide +kernel
theorem dX3_needWithin_16 : decode cX3_needWithin 16 = .ok (.invokespecial 145, 3) := by decide +kernel
theorem dX3_needWithin_19 : decode cX3_needWithin 19 = .ok (.athrow, 1) := by decide +kernel
theorem dX3_needWithin_20 : decode cX3_needWithin 20 = .ok (.return_, 1) := by decide +kernel
theorem dL_below_0 : decode cL_below 0 = .ok (.iload_n 0, 1) := by decide +kernel
theorem dL_below_1 : decode cL_below 1 = .ok (.ldc 7, 2) := by decide +kernel
theorem dL_below_3 : decode cL_below 3 = .ok (.iand, 1) := by decide +kernel
theorem dL_below_4 : decode cL_below 4 = .ok (.iload_n 1, 1) := by decide +kernel
theorem dL_below_5 : decode cL_below 5 = .ok (.irem, 1) := by decide +kernel
theorem dL_below_6 : decode cL_below 6 = .ok (.ireturn, 1) := by decide +kernel
theorem dL_cell_0 : decode cL_cell 0 = .ok (.iload_n 1, 1) := by decide +kernel
theorem dL_cell_1 : decode cL_cell 1 = .ok (.aload_n 0, 1) := by decide +kernel
theorem dL_cell_2 : decode cL_cell 2 = .ok (.arraylength, 1) := by decide +kernel
theorem dL_cell_3 : decode cL_cell 3 = .ok (.if_icmp .ge 9, 3) := by decide +kernel
theorem dL_cell_6 : decode cL_cell 6 = .ok (.aload_n 0, 1) := by decide +kernel
theorem dL_cell_7 : decode cL_cell 7 = .ok (.iload_n 1, 1) := by decide +kernel
theorem dL_cell_8 : decode cL_cell 8 = .ok (.iaload, 1) := by decide +kernel
theorem dL_cell_9 : decode cL_cell 9 = .ok (.goto 9, 3) := by decide +kernel
theorem dL_cell_12 : decode cL_cell 12 = .ok (.ldc 8, 2) := by decide +kernel
theorem dL_cell_14 : decode cL_cell 14 = .ok (.iload_n 1, 1) := by decide +kernel
theorem dL_cell_15 : decode cL_cell 15 = .ok (.iconst 3, 1) := by decide +kernel
theorem dL_cell_16 : decode cL_cell 16 = .ok (.iadd, 1) := by decide +kernel
theorem dL_cell_17 : decode cL_cell 17 = .ok (.imul, 1) := by decide +kernel
theorem dL_cell_18 : decode cL_cell 18 = .ok (.ireturn, 1) := by decide +kernel
theorem dL_makers_0 : decode cL_makers 0 = .ok (.new 9, 3) := by decide +kernel
theorem dL_makers_3 : decode cL_makers 3 = .ok (.dup, 1) := by decide +kernel
theorem dL_makers_4 : decode cL_makers 4 = .ok (.invokespecial 11, 3) := by decide +kernel
theorem dL_makers_7 : decode cL_makers 7 = .ok (.astore_n 1, 1) := by decide +kernel
theorem dL_makers_8 : decode cL_makers 8 = .ok (.iconst 0, 1) := by decide +kernel
theorem dL_makers_9 : decode cL_makers 9 = .ok (.istore_n 2, 1) := by decide +kernel
theorem dL_makers_10 : decode cL_makers 10 = .ok (.iload_n 2, 1) := by decide +kernel
theorem dL_makers_11 : decode cL_makers 11 = .ok (.iconst 3, 1) := by decide +kernel
theorem dL_makers_12 : decode cL_makers 12 = .ok (.if_icmp .ge 77, 3) := by decide +kernel
theorem dL_makers_15 : decode cL_makers 15 = .ok (.aload_n 0, 1) := by decide +kernel
theorem dL_makers_16 : decode cL_makers 16 = .ok (.iload_n 2, 1) := by decide +kernel
theorem dL_makers_17 : decode cL_makers 17 = .ok (.invokestatic 12, 3) := by decide +kernel
theorem dL_makers_20 : decode cL_makers 20 = .ok (.istore_n 3, 1) := by decide +kernel
theorem dL_makers_21 : decode cL_makers 21 = .ok (.aload_n 1, 1) := by decide +kernel
theorem dL_makers_22 : decode cL_makers 22 = .ok (.iconst 1, 1) := by decide +kernel
theorem dL_makers_23 : decode cL_makers 23 = .ok (.iload_n 3, 1) := by decide +kernel
theorem dL_makers_24 : decode cL_makers 24 = .ok (.bipush 9, 2) := by decide +kernel
theorem dL_makers_26 : decode cL_makers 26 = .ok (.invokestatic 18, 3) := by decide +kernel
theorem dL_makers_29 : decode cL_makers 29 = .ok (.iadd, 1) := by decide +kernel
theorem dL_makers_30 : decode cL_makers 30 = .ok (.iload_n 3, 1) := by decide +kernel
theorem dL_makers_31 : decode cL_makers 31 = .ok (.iconst 4, 1) := by decide +kernel
theorem dL_makers_32 : decode cL_makers 32 = .ok (.ishr, 1) := by decide +kernel
theorem dL_makers_33 : decode cL_makers 33 = .ok (.iconst 4, 1) := by decide +kernel
theorem dL_makers_34 : decode cL_makers 34 = .ok (.invokestatic 18, 3) := by decide +kernel
theorem dL_makers_37 : decode cL_makers 37 = .ok (.iload_n 3, 1) := by decide +kernel
theorem dL_makers_38 : decode cL_makers 38 = .ok (.bipush 6, 2) := by decide +kernel
theorem dL_makers_40 : decode cL_makers 40 = .ok (.ishr, 1) := by decide +kernel
theorem dL_makers_41 : decode cL_makers 41 = .ok (.iconst 4, 1) := by decide +kernel
theorem dL_makers_42 : decode cL_makers 42 = .ok (.invokestatic 18, 3) := by decide +kernel
theorem dL_makers_45 : decode cL_makers 45 = .ok (.invokevirtual 22, 3) := by decide +kernel
theorem dL_makers_48 : decode cL_makers 48 = .ok (.pop, 1) := by decide +kernel
theorem dL_makers_49 : decode cL_makers 49 = .ok (.aload_n 1, 1) := by decide +kernel
theorem dL_makers_50 : decode cL_makers 50 = .ok (.iload_n 2, 1) := by decide +kernel
theorem dL_makers_51 : decode cL_makers 51 = .ok (.iconst 1, 1) := by decide +kernel
theorem dL_makers_52 : decode cL_makers 52 = .ok (.iload_n 3, 1) := by decide +kernel
theorem dL_makers_53 : decode cL_makers 53 = .ok (.bipush 8, 2) := by decide +kernel
theorem dL_makers_55 : decode cL_makers 55 = .ok (.ishr, 1) := by decide +kernel
theorem dL_makers_56 : decode cL_makers 56 = .ok (.bipush 20, 2) := by decide +kernel
theorem dL_makers_58 : decode cL_makers 58 = .ok (.invokestatic 18, 3) := by decide +kernel
theorem dL_makers_61 : decode cL_makers 61 = .ok (.iadd, 1) := by decide +kernel
theorem dL_makers_62 : decode cL_makers 62 = .ok (.invokevirtual 26, 3) := by decide +kernel
theorem dL_makers_65 : decode cL_makers 65 = .ok (.pop, 1) := by decide +kernel
theorem dL_makers_66 : decode cL_makers 66 = .ok (.aload_n 1, 1) := by decide +kernel
theorem dL_makers_67 : decode cL_makers 67 = .ok (.iload_n 2, 1) := by decide +kernel
theorem dL_makers_68 : decode cL_makers 68 = .ok (.iconst 1, 1) := by decide +kernel
theorem dL_makers_69 : decode cL_makers 69 = .ok (.iload_n 3, 1) := by decide +kernel
theorem dL_makers_70 : decode cL_makers 70 = .ok (.bipush 13, 2) := by decide +kernel
theorem dL_makers_72 : decode cL_makers 72 = .ok (.ishr, 1) := by decide +kernel
theorem dL_makers_73 : decode cL_makers 73 = .ok (.bipush 20, 2) := by decide +kernel
theorem dL_makers_75 : decode cL_makers 75 = .ok (.invokestatic 18, 3) := by decide +kernel
theorem dL_makers_78 : decode cL_makers 78 = .ok (.iadd, 1) := by decide +kernel
theorem dL_makers_79 : decode cL_makers 79 = .ok (.invokevirtual 29, 3) := by decide +kernel
theorem dL_makers_82 : decode cL_makers 82 = .ok (.pop, 1) := by decide +kernel
theorem dL_makers_83 : decode cL_makers 83 = .ok (.iinc 2 1, 3) := by decide +kernel
theorem dL_makers_86 : decode cL_makers 86 = .ok (.goto (-76), 3) := by decide +kernel
theorem dL_makers_89 : decode cL_makers 89 = .ok (.iconst 0, 1) := by decide +kernel
theorem dL_makers_90 : decode cL_makers 90 = .ok (.istore_n 2, 1) := by decide +kernel
theorem dL_makers_91 : decode cL_makers 91 = .ok (.iload_n 2, 1) := by decide +kernel
theorem dL_makers_92 : decode cL_makers 92 = .ok (.iconst 4, 1) := by decide +kernel
theorem dL_makers_93 : decode cL_makers 93 = .ok (.if_icmp .ge 30, 3) := by decide +kernel
theorem dL_makers_96 : decode cL_makers 96 = .ok (.aload_n 1, 1) := by decide +kernel
theorem dL_makers_97 : decode cL_makers 97 = .ok (.iload_n 2, 1) := by decide +kernel
theorem dL_makers_98 : decode cL_makers 98 = .ok (.aload_n 0, 1) := by decide +kernel
theorem dL_makers_99 : decode cL_makers 99 = .ok (.iconst 3, 1) := by decide +kernel
theorem dL_makers_100 : decode cL_makers 100 = .ok (.invokestatic 12, 3) := by decide +kernel
theorem dL_makers_103 : decode cL_makers 103 = .ok (.bipush 6, 2) := by decide +kernel
theorem dL_makers_105 : decode cL_makers 105 = .ok (.iload_n 2, 1) := by decide +kernel
theorem dL_makers_106 : decode cL_makers 106 = .ok (.imul, 1) := by decide +kernel
theorem dL_makers_107 : decode cL_makers 107 = .ok (.ishr, 1) := by decide +kernel
theorem dL_makers_108 : decode cL_makers 108 = .ok (.bipush 61, 2) := by decide +kernel
theorem dL_makers_110 : decode cL_makers 110 = .ok (.invokestatic 18, 3) := by decide +kernel
theorem dL_makers_113 : decode cL_makers 113 = .ok (.invokevirtual 32, 3) := by decide +kernel
theorem dL_makers_116 : decode cL_makers 116 = .ok (.pop, 1) := by decide +kernel
theorem dL_makers_117 : decode cL_makers 117 = .ok (.iinc 2 1, 3) := by decide +kernel
theorem dL_makers_120 : decode cL_makers 120 = .ok (.goto (-29), 3) := by decide +kernel
theorem dL_makers_123 : decode cL_makers 123 = .ok (.aload_n 1, 1) := by decide +kernel
theorem dL_makers_124 : decode cL_makers 124 = .ok (.areturn, 1) := by decide +kernel
theorem dL_law_0 : decode cL_law 0 = .ok (.aload_n 0, 1) := by decide +kernel
theorem dL_law_1 : decode cL_law 1 = .ok (.invokestatic 35, 3) := by decide +kernel
theorem dL_law_4 : decode cL_law 4 = .ok (.astore_n 1, 1) := by decide +kernel
theorem dL_law_5 : decode cL_law 5 = .ok (.iconst 3, 1) := by decide +kernel
theorem dL_law_6 : decode cL_law 6 = .ok (.newarray .int, 2) := by decide +kernel
theorem dL_law_8 : decode cL_law 8 = .ok (.dup, 1) := by decide +kernel
theorem dL_law_9 : decode cL_law 9 = .ok (.iconst 0, 1) := by decide +kernel
theorem dL_law_10 : decode cL_law 10 = .ok (.aload_n 1, 1) := by decide +kernel
theorem dL_law_11 : decode cL_law 11 = .ok (.iconst 0, 1) := by decide +kernel
theorem dL_law_12 : decode cL_law 12 = .ok (.iconst 3, 1) := by decide +kernel
theorem dL_law_13 : decode cL_law 13 = .ok (.invokevirtual 39, 3) := by decide +kernel
theorem dL_law_16 : decode cL_law 16 = .ok (.iastore, 1) := by decide +kernel
theorem dL_law_17 : decode cL_law 17 = .ok (.dup, 1) := by decide +kernel
theorem dL_law_18 : decode cL_law 18 = .ok (.iconst 1, 1) := by decide +kernel
theorem dL_law_19 : decode cL_law 19 = .ok (.aload_n 1, 1) := by decide +kernel
theorem dL_law_20 : decode cL_law 20 = .ok (.iconst 1, 1) := by decide +kernel
theorem dL_law_21 : decode cL_law 21 = .ok (.iconst 3, 1) := by decide +kernel
theorem dL_law_22 : decode cL_law 22 = .ok (.invokevirtual 39, 3) := by decide +kernel
theorem dL_law_25 : decode cL_law 25 = .ok (.iastore, 1) := by decide +kernel
theorem dL_law_26 : decode cL_law 26 = .ok (.dup, 1) := by decide +kernel
theorem dL_law_27 : decode cL_law 27 = .ok (.iconst 2, 1) := by decide +kernel
theorem dL_law_28 : decode cL_law 28 = .ok (.aload_n 1, 1) := by decide +kernel
theorem dL_law_29 : decode cL_law 29 = .ok (.iconst 2, 1) := by decide +kernel
theorem dL_law_30 : decode cL_law 30 = .ok (.iconst 3, 1) := by decide +kernel
theorem dL_law_31 : decode cL_law 31 = .ok (.invokevirtual 39, 3) := by decide +kernel
theorem dL_law_34 : decode cL_law 34 = .ok (.iastore, 1) := by decide +kernel
theorem dL_law_35 : decode cL_law 35 = .ok (.astore_n 2, 1) := by decide +kernel
theorem dL_law_36 : decode cL_law 36 = .ok (.iconst 0, 1) := by decide +kernel
theorem dL_law_37 : decode cL_law 37 = .ok (.istore_n 3, 1) := by decide +kernel
theorem dL_law_38 : decode cL_law 38 = .ok (.iload_n 3, 1) := by decide +kernel
theorem dL_law_39 : decode cL_law 39 = .ok (.bipush 14, 2) := by decide +kernel
theorem dL_law_41 : decode cL_law 41 = .ok (.if_icmp .ge 552, 3) := by decide +kernel
theorem dL_law_44 : decode cL_law 44 = .ok (.aload_n 0, 1) := by decide +kernel
theorem dL_law_45 : decode cL_law 45 = .ok (.iconst 4, 1) := by decide +kernel
theorem dL_law_46 : decode cL_law 46 = .ok (.iload_n 3, 1) := by decide +kernel
theorem dL_law_47 : decode cL_law 47 = .ok (.iadd, 1) := by decide +kernel
theorem dL_law_48 : decode cL_law 48 = .ok (.invokestatic 12, 3) := by decide +kernel
theorem dL_law_51 : decode cL_law 51 = .ok (.iconst 2, 1) := by decide +kernel
theorem dL_law_52 : decode cL_law 52 = .ok (.ishr, 1) := by decide +kernel
theorem dL_law_53 : decode cL_law 53 = .ok (.istore 4, 2) := by decide +kernel
theorem dL_law_55 : decode cL_law 55 = .ok (.iload 4, 2) := by decide +kernel
theorem dL_law_57 : decode cL_law 57 = .ok (.iconst 3, 1) := by decide +kernel
theorem dL_law_58 : decode cL_law 58 = .ok (.invokestatic 18, 3) := by decide +kernel
theorem dL_law_61 : decode cL_law 61 = .ok (.istore 5, 2) := by decide +kernel
theorem dL_law_63 : decode cL_law 63 = .ok (.aload_n 1, 1) := by decide +kernel
theorem dL_law_64 : decode cL_law 64 = .ok (.invokevirtual 42, 3) := by decide +kernel
theorem dL_law_67 : decode cL_law 67 = .ok (.lstore 6, 2) := by decide +kernel
theorem dL_law_69 : decode cL_law 69 = .ok (.aload_n 1, 1) := by decide +kernel
theorem dL_law_70 : decode cL_law 70 = .ok (.iconst 5, 1) := by decide +kernel
theorem dL_law_71 : decode cL_law 71 = .ok (.iconst 4, 1) := by decide +kernel
theorem dL_law_72 : decode cL_law 72 = .ok (.invokevirtual 46, 3) := by decide +kernel
theorem dL_law_75 : decode cL_law 75 = .ok (.istore 8, 2) := by decide +kernel
theorem dL_law_77 : decode cL_law 77 = .ok (.aload_n 1, 1) := by decide +kernel
theorem dL_law_78 : decode cL_law 78 = .ok (.iload 5, 2) := by decide +kernel
theorem dL_law_80 : decode cL_law 80 = .ok (.invokevirtual 49, 3) := by decide +kernel
theorem dL_law_83 : decode cL_law 83 = .ok (.istore 9, 2) := by decide +kernel
theorem dL_law_85 : decode cL_law 85 = .ok (.aload_n 1, 1) := by decide +kernel
theorem dL_law_86 : decode cL_law 86 = .ok (.iload 5, 2) := by decide +kernel
theorem dL_law_88 : decode cL_law 88 = .ok (.iconst 3, 1) := by decide +kernel
theorem dL_law_89 : decode cL_law 89 = .ok (.invokevirtual 53, 3) := by decide +kernel
theorem dL_law_92 : decode cL_law 92 = .ok (.istore 10, 2) := by decide +kernel
theorem dL_law_94 : decode cL_law 94 = .ok (.aload_n 1, 1) := by decide +kernel
theorem dL_law_95 : decode cL_law 95 = .ok (.invokevirtual 42, 3) := by decide +kernel
theorem dL_law_98 : decode cL_law 98 = .ok (.lload 6, 2) := by decide +kernel
theorem dL_law_100 : decode cL_law 100 = .ok (.lcmp, 1) := by decide +kernel
theorem dL_law_101 : decode cL_law 101 = .ok (.ifCond .ne 27, 3) := by decide +kernel
theorem dL_law_104 : decode cL_law 104 = .ok (.iload 9, 2) := by decide +kernel
theorem dL_law_106 : decode cL_law 106 = .ok (.ifCond .lt 22, 3) := by decide +kernel
theorem dL_law_109 : decode cL_law 109 = .ok (.iload 9, 2) := by decide +kernel
theorem dL_law_111 : decode cL_law 111 = .ok (.sipush 162, 3) := by decide +kernel
theorem dL_law_114 : decode cL_law 114 = .ok (.if_icmp .gt 14, 3) := by decide +kernel
theorem dL_law_117 : decode cL_law 117 = .ok (.iload 10, 2) := by decide +kernel
theorem dL_law_119 : decode cL_law 119 = .ok (.ifCond .lt 9, 3) := by decide +kernel
theorem dL_law_122 : decode cL_law 122 = .ok (.iload 10, 2) := by decide +kernel
theorem dL_law_124 : decode cL_law 124 = .ok (.iconst 3, 1) := by decide +kernel
theorem dL_law_125 : decode cL_law 125 = .ok (.if_icmp .le 5, 3) := by decide +kernel
theorem dL_law_128 : decode cL_law 128 = .ok (.iconst 0, 1) := by decide +kernel
theorem dL_law_129 : decode cL_law 129 = .ok (.ireturn, 1) := by decide +kernel
theorem dL_law_130 : decode cL_law 130 = .ok (.iload 4, 2) := by decide +kernel
theorem dL_law_132 : decode cL_law 132 = .ok (.iconst 2, 1) := by decide +kernel
theorem dL_law_133 : decode cL_law 133 = .ok (.ishr, 1) := by decide +kernel
theorem dL_law_134 : decode cL_law 134 = .ok (.iconst 4, 1) := by decide +kernel
theorem dL_law_135 : decode cL_law 135 = .ok (.invokestatic 18, 3) := by decide +kernel
theorem dL_law_138 : decode cL_law 138 = .ok (.ifCond .ne 37, 3) := by decide +kernel
theorem dL_law_141 : decode cL_law 141 = .ok (.aload_n 1, 1) := by decide +kernel
theorem dL_law_142 : decode cL_law 142 = .ok (.iload 5, 2) := by decide +kernel
theorem dL_law_144 : decode cL_law 144 = .ok (.bipush 8, 2) := by decide +kernel
theorem dL_law_146 : decode cL_law 146 = .ok (.invokevirtual 39, 3) := by decide +kernel
theorem dL_law_149 : decode cL_law 149 = .ok (.bipush 60, 2) := by decide +kernel
theorem dL_law_151 : decode cL_law 151 = .ok (.if_icmp .gt 24, 3) := by decide +kernel
theorem dL_law_154 : decode cL_law 154 = .ok (.aload_n 1, 1) := by decide +kernel
theorem dL_law_155 : decode cL_law 155 = .ok (.iload 5, 2) := by decide +kernel
theorem dL_law_157 : decode cL_law 157 = .ok (.bipush 10, 2) := by decide +kernel
theorem dL_law_159 : decode cL_law 159 = .ok (.invokevirtual 26, 3) := by decide +kernel
theorem dL_law_162 : decode cL_law 162 = .ok (.pop, 1) := by decide +kernel
theorem dL_law_163 : decode cL_law 163 = .ok (.aload_n 2, 1) := by decide +kernel
theorem dL_law_164 : decode cL_law 164 = .ok (.iload 5, 2) := by decide +kernel
theorem dL_law_166 : decode cL_law 166 = .ok (.dup2, 1) := by decide +kernel
theorem dL_law_167 : decode cL_law 167 = .ok (.iaload, 1) := by decide +kernel
theorem dL_law_168 : decode cL_law 168 = .ok (.bipush 10, 2) := by decide +kernel
theorem dL_law_170 : decode cL_law 170 = .ok (.iadd, 1) := by decide +kernel
theorem dL_law_171 : decode cL_law 171 = .ok (.iastore, 1) := by decide +kernel
theorem dL_law_172 : decode cL_law 172 = .ok (.goto 117, 3) := by decide +kernel
theorem dL_law_175 : decode cL_law 175 = .ok (.iload 4, 2) := by decide +kernel
theorem dL_law_177 : decode cL_law 177 = .ok (.iconst 2, 1) := by decide +kernel
theorem dL_law_178 : decode cL_law 178 = .ok (.ishr, 1) := by decide +kernel
theorem dL_law_179 : decode cL_law 179 = .ok (.iconst 4, 1) := by decide +kernel
theorem dL_law_180 : decode cL_law 180 = .ok (.invokestatic 18, 3) := by decide +kernel
theorem dL_law_183 : decode cL_law 183 = .ok (.iconst 1, 1) := by decide +kernel
theorem dL_law_184 : decode cL_law 184 = .ok (.if_icmp .ne 47, 3) := by decide +kernel
theorem dL_law_187 : decode cL_law 187 = .ok (.aload_n 1, 1) := by decide +kernel
theorem dL_law_188 : decode cL_law 188 = .ok (.iload 5, 2) := by decide +kernel
theorem dL_law_190 : decode cL_law 190 = .ok (.bipush 7, 2) := by decide +kernel
theorem dL_law_192 : decode cL_law 192 = .ok (.invokevirtual 39, 3) := by decide +kernel
theorem dL_law_195 : decode cL_law 195 = .ok (.ifCond .le 36, 3) := by decide +kernel
theorem dL_law_198 : decode cL_law 198 = .ok (.aload_n 1, 1) := by decide +kernel
theorem dL_law_199 : decode cL_law 199 = .ok (.iload 5, 2) := by decide +kernel
theorem dL_law_201 : decode cL_law 201 = .ok (.bipush 6, 2) := by decide +kernel
theorem dL_law_203 : decode cL_law 203 = .ok (.invokevirtual 39, 3) := by decide +kernel
theorem dL_law_206 : decode cL_law 206 = .ok (.bipush 96, 2) := by decide +kernel
theorem dL_law_208 : decode cL_law 208 = .ok (.if_icmp .ge 23, 3) := by decide +kernel
theorem dL_law_211 : decode cL_law 211 = .ok (.aload_n 1, 1) := by decide +kernel
theorem dL_law_212 : decode cL_law 212 = .ok (.iload 5, 2) := by decide +kernel
theorem dL_law_214 : decode cL_law 214 = .ok (.iconst 1, 1) := by decide +kernel
theorem dL_law_215 : decode cL_law 215 = .ok (.iload 4, 2) := by decide +kernel
theorem dL_law_217 : decode cL_law 217 = .ok (.iconst 4, 1) := by decide +kernel
theorem dL_law_218 : decode cL_law 218 = .ok (.ishr, 1) := by decide +kernel
theorem dL_law_219 : decode cL_law 219 = .ok (.iconst 4, 1) := by decide +kernel
theorem dL_law_220 : decode cL_law 220 = .ok (.invokestatic 18, 3) := by decide +kernel
theorem dL_law_223 : decode cL_law 223 = .ok (.iadd, 1) := by decide +kernel
theorem dL_law_224 : decode cL_law 224 = .ok (.invokevirtual 29, 3) := by decide +kernel
theorem dL_law_227 : decode cL_law 227 = .ok (.pop, 1) := by decide +kernel
theorem dL_law_228 : decode cL_law 228 = .ok (.goto 61, 3) := by decide +kernel
theorem dL_law_231 : decode cL_law 231 = .ok (.iload 4, 2) := by decide +kernel
theorem dL_law_233 : decode cL_law 233 = .ok (.iconst 2, 1) := by decide +kernel
theorem dL_law_234 : decode cL_law 234 = .ok (.ishr, 1) := by decide +kernel
theorem dL_law_235 : decode cL_law 235 = .ok (.iconst 4, 1) := by decide +kernel
theorem dL_law_236 : decode cL_law 236 = .ok (.invokestatic 18, 3) := by decide +kernel
theorem dL_law_239 : decode cL_law 239 = .ok (.iconst 2, 1) := by decide +kernel
theorem dL_law_240 : decode cL_law 240 = .ok (.if_icmp .ne 29, 3) := by decide +kernel
theorem dL_law_243 : decode cL_law 243 = .ok (.aload_n 1, 1) := by decide +kernel
theorem dL_law_244 : decode cL_law 244 = .ok (.iload 4, 2) := by decide +kernel
theorem dL_law_246 : decode cL_law 246 = .ok (.iconst 4, 1) := by decide +kernel
theorem dL_law_247 : decode cL_law 247 = .ok (.ishr, 1) := by decide +kernel
theorem dL_law_248 : decode cL_law 248 = .ok (.iconst 4, 1) := by decide +kernel
theorem dL_law_249 : decode cL_law 249 = .ok (.invokestatic 18, 3) := by decide +kernel
theorem dL_law_252 : decode cL_law 252 = .ok (.iload 4, 2) := by decide +kernel
theorem dL_law_254 : decode cL_law 254 = .ok (.bipush 6, 2) := by decide +kernel
theorem dL_law_256 : decode cL_law 256 = .ok (.ishr, 1) := by decide +kernel
theorem dL_law_257 : decode cL_law 257 = .ok (.bipush 61, 2) := by decide +kernel
theorem dL_law_259 : decode cL_law 259 = .ok (.invokestatic 18, 3) := by decide +kernel
theorem dL_law_262 : decode cL_law 262 = .ok (.invokevirtual 32, 3) := by decide +kernel
theorem dL_law_265 : decode cL_law 265 = .ok (.pop, 1) := by decide +kernel
theorem dL_law_266 : decode cL_law 266 = .ok (.goto 23, 3) := by decide +kernel
theorem dL_law_269 : decode cL_law 269 = .ok (.aload_n 1, 1) := by decide +kernel
theorem dL_law_270 : decode cL_law 270 = .ok (.iconst 5, 1) := by decide +kernel
theorem dL_law_271 : decode cL_law 271 = .ok (.invokevirtual 56, 3) := by decide +kernel
theorem dL_law_274 : decode cL_law 274 = .ok (.ifCond .lt 13, 3) := by decide +kernel
theorem dL_law_277 : decode cL_law 277 = .ok (.aload_n 1, 1) := by decide +kernel
theorem dL_law_278 : decode cL_law 278 = .ok (.iconst 4, 1) := by decide +kernel
theorem dL_law_279 : decode cL_law 279 = .ok (.invokevirtual 59, 3) := by decide +kernel
theorem dL_law_282 : decode cL_law 282 = .ok (.iload 8, 2) := by decide +kernel
theorem dL_law_284 : decode cL_law 284 = .ok (.if_icmp .eq 5, 3) := by decide +kernel
theorem dL_law_287 : decode cL_law 287 = .ok (.iconst 0, 1) := by decide +kernel
theorem dL_law_288 : decode cL_law 288 = .ok (.ireturn, 1) := by decide +kernel
theorem dL_law_289 : decode cL_law 289 = .ok (.iconst 0, 1) := by decide +kernel
theorem dL_law_290 : decode cL_law 290 = .ok (.istore 11, 2) := by decide +kernel
theorem dL_law_292 : decode cL_law 292 = .ok (.iload 11, 2) := by decide +kernel
theorem dL_law_294 : decode cL_law 294 = .ok (.iconst 3, 1) := by decide +kernel
end
section
theorem dL_law_295 : decode cL_law 295 = .ok (.if_icmp .ge 210, 3) := by decide +kernel
theorem dL_law_298 : decode cL_law 298 = .ok (.aload_n 1, 1) := by decide +kernel
theorem dL_law_299 : decode cL_law 299 = .ok (.iload 11, 2) := by decide +kernel
theorem dL_law_301 : decode cL_law 301 = .ok (.iconst 4, 1) := by decide +kernel
theorem dL_law_302 : decode cL_law 302 = .ok (.invokevirtual 39, 3) := by decide +kernel
theorem dL_law_305 : decode cL_law 305 = .ok (.aload_n 1, 1) := by decide +kernel
theorem dL_law_306 : decode cL_law 306 = .ok (.iload 11, 2) := by decide +kernel
theorem dL_law_308 : decode cL_law 308 = .ok (.bipush 9, 2) := by decide +kernel
theorem dL_law_310 : decode cL_law 310 = .ok (.invokevirtual 39, 3) := by decide +kernel
theorem dL_law_313 : decode cL_law 313 = .ok (.iadd, 1) := by decide +kernel
theorem dL_law_314 : decode cL_law 314 = .ok (.sipush 240, 3) := by decide +kernel
theorem dL_law_317 : decode cL_law 317 = .ok (.aload_n 1, 1) := by decide +kernel
theorem dL_law_318 : decode cL_law 318 = .ok (.iload 11, 2) := by decide +kernel
theorem dL_law_320 : decode cL_law 320 = .ok (.iconst 3, 1) := by decide +kernel
theorem dL_law_321 : decode cL_law 321 = .ok (.invokevirtual 39, 3) := by decide +kernel
theorem dL_law_324 : decode cL_law 324 = .ok (.imul, 1) := by decide +kernel
theorem dL_law_325 : decode cL_law 325 = .ok (.iadd, 1) := by decide +kernel
theorem dL_law_326 : decode cL_law 326 = .ok (.getstatic 62, 3) := by decide +kernel
theorem dL_law_329 : decode cL_law 329 = .ok (.aload_n 1, 1) := by decide +kernel
theorem dL_law_330 : decode cL_law 330 = .ok (.iload 11, 2) := by decide +kernel
theorem dL_law_332 : decode cL_law 332 = .ok (.iconst 1, 1) := by decide +kernel
theorem dL_law_333 : decode cL_law 333 = .ok (.invokevirtual 39, 3) := by decide +kernel
theorem dL_law_336 : decode cL_law 336 = .ok (.iaload, 1) := by decide +kernel
theorem dL_law_337 : decode cL_law 337 = .ok (.aload_n 1, 1) := by decide +kernel
theorem dL_law_338 : decode cL_law 338 = .ok (.iload 11, 2) := by decide +kernel
theorem dL_law_340 : decode cL_law 340 = .ok (.bipush 10, 2) := by decide +kernel
theorem dL_law_342 : decode cL_law 342 = .ok (.invokevirtual 39, 3) := by decide +kernel
theorem dL_law_345 : decode cL_law 345 = .ok (.aload_n 1, 1) := by decide +kernel
theorem dL_law_346 : decode cL_law 346 = .ok (.iload 11, 2) := by decide +kernel
theorem dL_law_348 : decode cL_law 348 = .ok (.bipush 11, 2) := by decide +kernel
theorem dL_law_350 : decode cL_law 350 = .ok (.invokevirtual 39, 3) := by decide +kernel
theorem dL_law_353 : decode cL_law 353 = .ok (.iadd, 1) := by decide +kernel
theorem dL_law_354 : decode cL_law 354 = .ok (.imul, 1) := by decide +kernel
theorem dL_law_355 : decode cL_law 355 = .ok (.iadd, 1) := by decide +kernel
theorem dL_law_356 : decode cL_law 356 = .ok (.istore 12, 2) := by decide +kernel
theorem dL_law_358 : decode cL_law 358 = .ok (.iload 12, 2) := by decide +kernel
theorem dL_law_360 : decode cL_law 360 = .ok (.sipush 240, 3) := by decide +kernel
theorem dL_law_363 : decode cL_law 363 = .ok (.aload_n 2, 1) := by decide +kernel
theorem dL_law_364 : decode cL_law 364 = .ok (.iload 11, 2) := by decide +kernel
theorem dL_law_366 : decode cL_law 366 = .ok (.iaload, 1) := by decide +kernel
theorem dL_law_367 : decode cL_law 367 = .ok (.imul, 1) := by decide +kernel
theorem dL_law_368 : decode cL_law 368 = .ok (.if_icmp .ne 73, 3) := by decide +kernel
theorem dL_law_371 : decode cL_law 371 = .ok (.aload_n 1, 1) := by decide +kernel
theorem dL_law_372 : decode cL_law 372 = .ok (.iload 11, 2) := by decide +kernel
theorem dL_law_374 : decode cL_law 374 = .ok (.iconst 5, 1) := by decide +kernel
theorem dL_law_375 : decode cL_law 375 = .ok (.invokevirtual 39, 3) := by decide +kernel
theorem dL_law_378 : decode cL_law 378 = .ok (.ifCond .lt 63, 3) := by decide +kernel
theorem dL_law_381 : decode cL_law 381 = .ok (.aload_n 1, 1) := by decide +kernel
theorem dL_law_382 : decode cL_law 382 = .ok (.iload 11, 2) := by decide +kernel
theorem dL_law_384 : decode cL_law 384 = .ok (.iconst 5, 1) := by decide +kernel
theorem dL_law_385 : decode cL_law 385 = .ok (.invokevirtual 39, 3) := by decide +kernel
theorem dL_law_388 : decode cL_law 388 = .ok (.bipush 9, 2) := by decide +kernel
theorem dL_law_390 : decode cL_law 390 = .ok (.if_icmp .gt 51, 3) := by decide +kernel
theorem dL_law_393 : decode cL_law 393 = .ok (.aload_n 1, 1) := by decide +kernel
theorem dL_law_394 : decode cL_law 394 = .ok (.iload 11, 2) := by decide +kernel
theorem dL_law_396 : decode cL_law 396 = .ok (.bipush 6, 2) := by decide +kernel
theorem dL_law_398 : decode cL_law 398 = .ok (.invokevirtual 39, 3) := by decide +kernel
theorem dL_law_401 : decode cL_law 401 = .ok (.bipush 99, 2) := by decide +kernel
theorem dL_law_403 : decode cL_law 403 = .ok (.if_icmp .gt 38, 3) := by decide +kernel
theorem dL_law_406 : decode cL_law 406 = .ok (.aload_n 1, 1) := by decide +kernel
theorem dL_law_407 : decode cL_law 407 = .ok (.iload 11, 2) := by decide +kernel
theorem dL_law_409 : decode cL_law 409 = .ok (.bipush 7, 2) := by decide +kernel
theorem dL_law_411 : decode cL_law 411 = .ok (.invokevirtual 39, 3) := by decide +kernel
theorem dL_law_414 : decode cL_law 414 = .ok (.ifCond .lt 27, 3) := by decide +kernel
theorem dL_law_417 : decode cL_law 417 = .ok (.aload_n 1, 1) := by decide +kernel
theorem dL_law_418 : decode cL_law 418 = .ok (.iload 11, 2) := by decide +kernel
theorem dL_law_420 : decode cL_law 420 = .ok (.bipush 8, 2) := by decide +kernel
theorem dL_law_422 : decode cL_law 422 = .ok (.invokevirtual 39, 3) := by decide +kernel
theorem dL_law_425 : decode cL_law 425 = .ok (.ifCond .lt 16, 3) := by decide +kernel
theorem dL_law_428 : decode cL_law 428 = .ok (.aload_n 1, 1) := by decide +kernel
theorem dL_law_429 : decode cL_law 429 = .ok (.iload 11, 2) := by decide +kernel
theorem dL_law_431 : decode cL_law 431 = .ok (.bipush 8, 2) := by decide +kernel
theorem dL_law_433 : decode cL_law 433 = .ok (.invokevirtual 39, 3) := by decide +kernel
theorem dL_law_436 : decode cL_law 436 = .ok (.bipush 90, 2) := by decide +kernel
theorem dL_law_438 : decode cL_law 438 = .ok (.if_icmp .le 5, 3) := by decide +kernel
theorem dL_law_441 : decode cL_law 441 = .ok (.iconst 0, 1) := by decide +kernel
theorem dL_law_442 : decode cL_law 442 = .ok (.ireturn, 1) := by decide +kernel
theorem dL_law_443 : decode cL_law 443 = .ok (.iconst 0, 1) := by decide +kernel
theorem dL_law_444 : decode cL_law 444 = .ok (.istore 13, 2) := by decide +kernel
theorem dL_law_446 : decode cL_law 446 = .ok (.iload 13, 2) := by decide +kernel
theorem dL_law_448 : decode cL_law 448 = .ok (.iconst 4, 1) := by decide +kernel
theorem dL_law_449 : decode cL_law 449 = .ok (.if_icmp .ge 50, 3) := by decide +kernel
theorem dL_law_452 : decode cL_law 452 = .ok (.aload_n 1, 1) := by decide +kernel
theorem dL_law_453 : decode cL_law 453 = .ok (.iload 11, 2) := by decide +kernel
theorem dL_law_455 : decode cL_law 455 = .ok (.iload 13, 2) := by decide +kernel
theorem dL_law_457 : decode cL_law 457 = .ok (.iconst 0, 1) := by decide +kernel
theorem dL_law_458 : decode cL_law 458 = .ok (.invokevirtual 66, 3) := by decide +kernel
theorem dL_law_461 : decode cL_law 461 = .ok (.ifCond .lt 30, 3) := by decide +kernel
theorem dL_law_464 : decode cL_law 464 = .ok (.aload_n 1, 1) := by decide +kernel
theorem dL_law_465 : decode cL_law 465 = .ok (.iload 11, 2) := by decide +kernel
theorem dL_law_467 : decode cL_law 467 = .ok (.iload 13, 2) := by decide +kernel
theorem dL_law_469 : decode cL_law 469 = .ok (.iconst 0, 1) := by decide +kernel
theorem dL_law_470 : decode cL_law 470 = .ok (.invokevirtual 66, 3) := by decide +kernel
theorem dL_law_473 : decode cL_law 473 = .ok (.sipush 999, 3) := by decide +kernel
theorem dL_law_476 : decode cL_law 476 = .ok (.if_icmp .gt 15, 3) := by decide +kernel
theorem dL_law_479 : decode cL_law 479 = .ok (.aload_n 1, 1) := by decide +kernel
theorem dL_law_480 : decode cL_law 480 = .ok (.iload 11, 2) := by decide +kernel
theorem dL_law_482 : decode cL_law 482 = .ok (.iload 13, 2) := by decide +kernel
theorem dL_law_484 : decode cL_law 484 = .ok (.iconst 1, 1) := by decide +kernel
theorem dL_law_485 : decode cL_law 485 = .ok (.invokevirtual 66, 3) := by decide +kernel
theorem dL_law_488 : decode cL_law 488 = .ok (.ifCond .ge 5, 3) := by decide +kernel
theorem dL_law_491 : decode cL_law 491 = .ok (.iconst 0, 1) := by decide +kernel
theorem dL_law_492 : decode cL_law 492 = .ok (.ireturn, 1) := by decide +kernel
theorem dL_law_493 : decode cL_law 493 = .ok (.iinc 13 1, 3) := by decide +kernel
theorem dL_law_496 : decode cL_law 496 = .ok (.goto (-50), 3) := by decide +kernel
theorem dL_law_499 : decode cL_law 499 = .ok (.iinc 11 1, 3) := by decide +kernel
theorem dL_law_502 : decode cL_law 502 = .ok (.goto (-210), 3) := by decide +kernel
theorem dL_law_505 : decode cL_law 505 = .ok (.iconst 0, 1) := by decide +kernel
theorem dL_law_506 : decode cL_law 506 = .ok (.istore 11, 2) := by decide +kernel
theorem dL_law_508 : decode cL_law 508 = .ok (.iload 11, 2) := by decide +kernel
theorem dL_law_510 : decode cL_law 510 = .ok (.iconst 4, 1) := by decide +kernel
theorem dL_law_511 : decode cL_law 511 = .ok (.if_icmp .ge 31, 3) := by decide +kernel
theorem dL_law_514 : decode cL_law 514 = .ok (.aload_n 1, 1) := by decide +kernel
theorem dL_law_515 : decode cL_law 515 = .ok (.iload 11, 2) := by decide +kernel
theorem dL_law_517 : decode cL_law 517 = .ok (.iconst 5, 1) := by decide +kernel
theorem dL_law_518 : decode cL_law 518 = .ok (.invokevirtual 69, 3) := by decide +kernel
theorem dL_law_521 : decode cL_law 521 = .ok (.ifCond .lt 13, 3) := by decide +kernel
theorem dL_law_524 : decode cL_law 524 = .ok (.aload_n 1, 1) := by decide +kernel
theorem dL_law_525 : decode cL_law 525 = .ok (.iload 11, 2) := by decide +kernel
theorem dL_law_527 : decode cL_law 527 = .ok (.iconst 1, 1) := by decide +kernel
theorem dL_law_528 : decode cL_law 528 = .ok (.invokevirtual 69, 3) := by decide +kernel
theorem dL_law_531 : decode cL_law 531 = .ok (.ifCond .ge 5, 3) := by decide +kernel
theorem dL_law_534 : decode cL_law 534 = .ok (.iconst 0, 1) := by decide +kernel
theorem dL_law_535 : decode cL_law 535 = .ok (.ireturn, 1) := by decide +kernel
theorem dL_law_536 : decode cL_law 536 = .ok (.iinc 11 1, 3) := by decide +kernel
theorem dL_law_539 : decode cL_law 539 = .ok (.goto (-31), 3) := by decide +kernel
theorem dL_law_542 : decode cL_law 542 = .ok (.aload_n 1, 1) := by decide +kernel
theorem dL_law_543 : decode cL_law 543 = .ok (.bipush 6, 2) := by decide +kernel
theorem dL_law_545 : decode cL_law 545 = .ok (.invokevirtual 59, 3) := by decide +kernel
theorem dL_law_548 : decode cL_law 548 = .ok (.aload_n 1, 1) := by decide +kernel
theorem dL_law_549 : decode cL_law 549 = .ok (.iconst 0, 1) := by decide +kernel
theorem dL_law_550 : decode cL_law 550 = .ok (.iconst 3, 1) := by decide +kernel
theorem dL_law_551 : decode cL_law 551 = .ok (.invokevirtual 69, 3) := by decide +kernel
theorem dL_law_554 : decode cL_law 554 = .ok (.aload_n 1, 1) := by decide +kernel
theorem dL_law_555 : decode cL_law 555 = .ok (.iconst 1, 1) := by decide +kernel
theorem dL_law_556 : decode cL_law 556 = .ok (.iconst 3, 1) := by decide +kernel
theorem dL_law_557 : decode cL_law 557 = .ok (.invokevirtual 69, 3) := by decide +kernel
theorem dL_law_560 : decode cL_law 560 = .ok (.iadd, 1) := by decide +kernel
theorem dL_law_561 : decode cL_law 561 = .ok (.aload_n 1, 1) := by decide +kernel
theorem dL_law_562 : decode cL_law 562 = .ok (.iconst 2, 1) := by decide +kernel
theorem dL_law_563 : decode cL_law 563 = .ok (.iconst 3, 1) := by decide +kernel
theorem dL_law_564 : decode cL_law 564 = .ok (.invokevirtual 69, 3) := by decide +kernel
theorem dL_law_567 : decode cL_law 567 = .ok (.iadd, 1) := by decide +kernel
theorem dL_law_568 : decode cL_law 568 = .ok (.aload_n 1, 1) := by decide +kernel
theorem dL_law_569 : decode cL_law 569 = .ok (.iconst 3, 1) := by decide +kernel
theorem dL_law_570 : decode cL_law 570 = .ok (.iconst 3, 1) := by decide +kernel
theorem dL_law_571 : decode cL_law 571 = .ok (.invokevirtual 69, 3) := by decide +kernel
theorem dL_law_574 : decode cL_law 574 = .ok (.iadd, 1) := by decide +kernel
theorem dL_law_575 : decode cL_law 575 = .ok (.if_icmp .ne 10, 3) := by decide +kernel
theorem dL_law_578 : decode cL_law 578 = .ok (.aload_n 1, 1) := by decide +kernel
theorem dL_law_579 : decode cL_law 579 = .ok (.invokevirtual 72, 3) := by decide +kernel
theorem dL_law_582 : decode cL_law 582 = .ok (.ifCond .ge 5, 3) := by decide +kernel
theorem dL_law_585 : decode cL_law 585 = .ok (.iconst 0, 1) := by decide +kernel
theorem dL_law_586 : decode cL_law 586 = .ok (.ireturn, 1) := by decide +kernel
theorem dL_law_587 : decode cL_law 587 = .ok (.iinc 3 1, 3) := by decide +kernel
theorem dL_law_590 : decode cL_law 590 = .ok (.goto (-552), 3) := by decide +kernel
theorem dL_law_593 : decode cL_law 593 = .ok (.iconst 1, 1) := by decide +kernel
theorem dL_law_594 : decode cL_law 594 = .ok (.ireturn, 1) := by decide +kernel
end
section
/-! WHAT THE CLASS'S METHODS DO TO THE ROWS, in the code's own order -/
def imin (a b : Int32) : Int32 := if b < a then b else a
def imax (a b : Int32) : Int32 := if a < b then b else a
def kx (v : Nat → Int32) : Nat := (v 1).toNatClampNeg
theorem ozT_ne (k : Nat) : ¬ ozT k = 0 := by
  unfold ozT
  split
  · decide
  · split
    · decide
    · split <;> decide
def tend (v : Nat → Int32) : Nat → Int32 := if v 6 ≤ 0 then upd v 5 (imax (v 5 - 3) 0) else upd (upd v 6 (v 6 - 1)) 5 (imin (v 5 + 2) 9)
def hfh (v : Nat → Int32) (most : Int32) : (Nat → Int32) × Int32 := (upd v 4 (v 4 - imin most (v 4 / ozT (kx v)) * ozT (kx v)), imin most (v 4 / ozT (kx v)))
def rod (v : Nat → Int32) : Nat → Int32 := upd (upd (upd v 3 (v 3 - 1)) 9 (v 9 + v 4)) 4 240
def hlp : Nat → Int32 → (Nat → Int32) → Int32 → (Nat → Int32) × Int32
  | 0, _, v, hd => (v, hd)
  | n + 1, most, v, hd => if most ≤ hd then (v, hd) else if v 3 ≤ 0 then (v, hd) else hlp n most (hfh (rod v) (most - hd)).1 (hd + (hfh (rod v) (most - hd)).2)
def head (v : Nat → Int32) (most : Int32) : (Nat → Int32) × Int32 := hlp (((hfh v most).1 3).toNatClampNeg + 1) most (hfh v most).1 (hfh v most).2
def sto1 (v : Nat → Int32) (a : Int32) : Nat → Int32 := upd v 11 (v 11 + a)
def sto2 (v : Nat → Int32) (a : Int32) : Nat → Int32 := upd (sto1 v a) (12 + kx (sto1 v a)) (sto1 v a (12 + kx (sto1 v a)) + a)
def sto3 (v : Nat → Int32) (a : Int32) : Nat → Int32 := upd (sto2 v a) (16 + kx (sto2 v a)) (sto2 v a (16 + kx (sto2 v a)) + sto2 v a (12 + kx (sto2 v a)) / 1000)
def store (v : Nat → Int32) (a : Int32) : Nat → Int32 := upd (sto3 v a) (12 + kx (sto3 v a)) (sto3 v a (12 + kx (sto3 v a)) - sto3 v a (12 + kx (sto3 v a)) / 1000 * 1000)
def canN (v : Nat → Int32) : Int32 := v 0 * v 5 * 2 / (v 1 + 1)
def spo (v : Nat → Int32) (a : Int32) : Int32 := if v 5 < 8 then 0 else a / 10
def workB (v : Nat → Int32) : (Nat → Int32) × Int32 :=
  (store (upd (head v (canN v)).1 10 ((head v (canN v)).1 10 + spo (head v (canN v)).1 (head v (canN v)).2)) ((head v (canN v)).2 - spo (head v (canN v)).1 (head v (canN v)).2), (head v (canN v)).2 - spo (head v (canN v)).1 (head v (canN v)).2)
def workH (v : Nat → Int32) : (Nat → Int32) × Int32 := if 4 ≤ tend v 5 then workB (tend v) else (tend v, 0)
def wHl : Nat → Int32 → Int32 → (Nat → Int32) → Int32 → (Nat → Int32) × Int32
  | 0, _, _, v, sm => (v, sm)
  | n + 1, h, i, v, sm => if h ≤ i then (v, sm) else wHl n h (i + 1) (workH v).1 (sm + (workH v).2)
def fuel (h i : Int32) : Nat := (h.toInt - i.toInt).toNat + 1
/-- kinds stay -/
theorem tend_1 (v : Nat → Int32) : tend v 1 = v 1 := by unfold tend; split <;> rfl
theorem hfh_1 (v : Nat → Int32) (a : Int32) : (hfh v a).1 1 = v 1 := rfl
theorem hlp_1 : ∀ (n : Nat) (most : Int32) (v : Nat → Int32) (hd : Int32), (hlp n most v hd).1 1 = v 1
  | 0, _, _, _ => rfl
  | n + 1, most, v, hd => by
    unfold hlp
    split
    · rfl
    · split
      · rfl
      · rw [hlp_1 n]; rfl
theorem head_1 (v : Nat → Int32) (a : Int32) : (head v a).1 1 = v 1 := by unfold head; rw [hlp_1]; rfl
theorem sto1_1 (v : Nat → Int32) (a : Int32) : sto1 v a 1 = v 1 := rfl
theorem sto2_1 (v : Nat → Int32) (a : Int32) : sto2 v a 1 = v 1 := by unfold sto2; rw [upd_ge (by omega)]; rfl
theorem sto3_1 (v : Nat → Int32) (a : Int32) : sto3 v a 1 = v 1 := by unfold sto3; rw [upd_ge (by omega), sto2_1]
theorem store_1 (v : Nat → Int32) (a : Int32) : store v a 1 = v 1 := by unfold store; rw [upd_ge (by omega), sto3_1]
theorem workB_1 (v : Nat → Int32) : (workB v).1 1 = v 1 := by
  simp only [workB, store_1]
  rw [upd_ge (by omega), head_1]
theorem workH_1 (v : Nat → Int32) : (workH v).1 1 = v 1 := by
  unfold workH
  split
  · rw [workB_1, tend_1]
  · exact tend_1 v
/-- counters -/
theorem dec_lt {a : Int32} {n : Nat} (h : a.toNatClampNeg < n + 1) (h0 : ¬ a ≤ 0) : (a - 1).toNatClampNeg < n := by
  obtain ⟨j, hj, rfl⟩ := nI_of (x := a) (fun q => h0 (Int32.le_of_lt q))
  cases j with
  | zero => exact absurd (by rw [nI_0]; exact Int32.le_refl _) h0
  | succ j =>
    rw [nI_pred, nI_clamp (by omega)]
    rw [nI_clamp hj] at h
    omega
theorem fuel_step {h i : Int32} {n : Nat} (hf : fuel h i ≤ n + 1) (hh : ¬ h ≤ i) : fuel h (i + 1) ≤ n := by
  unfold fuel at *
  have h1 : i.toInt < h.toInt := by
    rw [Int32.le_iff_toInt_le] at hh
    omega
  have h2 : (i + 1).toInt = i.toInt + 1 := by
    have a1 := h.toInt_lt
    have a2 := i.le_toInt
    rw [Int32.toInt_add, show (1 : Int32).toInt = 1 from rfl]
    rw [Int.bmod_eq_of_le (by omega) (by omega)]
  rw [h2]
  omega
theorem vk1 {v : Nat → Int32} (hk : vp_in (v 1) 4) : ¬ v 1 + 1 = 0 := by
  obtain ⟨j, hj, e⟩ := vp_in_of hk (by omega)
  rw [e, nI_1]
  exact nI_ne0 (by omega) (by omega)
end
section
/-! THE CLASS NAILER: contracts and walks -/
set_option maxHeartbeats 4000000 in
set_option maxRecDepth 100000 in
theorem c_X1_tendFire {l : Launch} {P : L5} {D : va_G} {j : Nat} (hj : j < 25) {N F T : Nat → Nat → Int32} {K : Nat → Int32} {A : Nat → Nat → Int32} {w : Int64} {v : Nat → Int32} : CtV l yX1_tendFire cX1_tendFire 1 1 0 0 P D (nW P) (nW P) False (cw P (va_up N j v) F T K A w) (cw P (va_up N j (tend v)) F T K A w) [.ref (rN P j)] := by
  refine mk_Met pl_X1 [(0, .ref (rN P j))] rfl (Nat.le_of_ble_eq_true rfl) ?_
  intro p e s m args below meth c C
  refine v_aload_n C 0 dX1_tendFire_0 rfl ?_
  refine v_gN C hj 6 (by decide) k_331 rfl dX1_tendFire_1 ?_
  refine v_if_le (tgt := 35) C dX1_tendFire_4 (by decide) (fun h4_1 => ?_) (fun h4_1 => ?_)
  · refine v_aload_n C 0 dX1_tendFire_35 rfl ?_
    refine v_aload_n C 0 dX1_tendFire_36 rfl ?_
    refine v_gN C hj 5 (by decide) k_330 rfl dX1_tendFire_37 ?_
    refine v_iconst (v := 3) C dX1_tendFire_40 rfl ?_
    refine v_isub C dX1_tendFire_41 ?_
    refine v_iconst (v := 0) C dX1_tendFire_42 rfl ?_
    refine v_max C dX1_tendFire_43 k_210 k_211 k_11 k_212 (Nat.le_of_ble_eq_true rfl) (Nat.le_of_ble_eq_true rfl) (Nat.le_of_ble_eq_true rfl) (Nat.le_of_ble_eq_true rfl) ?_
    refine v_pN C hj 5 (by decide) k_330 dX1_tendFire_46 ?_
    exact v_vret C dX1_tendFire_49 (by unfold tend; first | (rw [if_pos h4_1]; rfl) | (rw [if_neg h4_1]; rfl))
  · refine v_aload_n C 0 dX1_tendFire_7 rfl ?_
    refine v_dup C dX1_tendFire_8 rfl ?_
    refine v_gN C hj 6 (by decide) k_331 rfl dX1_tendFire_9 ?_
    refine v_iconst (v := 1) C dX1_tendFire_12 rfl ?_
    refine v_isub C dX1_tendFire_13 ?_
    refine v_pN C hj 6 (by decide) k_331 dX1_tendFire_14 ?_
    refine v_aload_n C 0 dX1_tendFire_17 rfl ?_
    refine v_aload_n C 0 dX1_tendFire_18 rfl ?_
    refine v_gN C hj 5 (by decide) k_330 rfl dX1_tendFire_19 ?_
    refine v_iconst (v := 2) C dX1_tendFire_22 rfl ?_
    refine v_iadd C dX1_tendFire_23 ?_
    refine v_bipush (v := 9) C dX1_tendFire_24 rfl ?_
    refine v_min C dX1_tendFire_26 k_207 k_208 k_11 k_209 (Nat.le_of_ble_eq_true rfl) (Nat.le_of_ble_eq_true rfl) (Nat.le_of_ble_eq_true rfl) (Nat.le_of_ble_eq_true rfl) ?_
    refine v_pN C hj 5 (by decide) k_330 dX1_tendFire_29 ?_
    refine v_goto (tgt := 49) C dX1_tendFire_32 (by decide) ?_
    exact v_vret C dX1_tendFire_49 (by unfold tend; first | (rw [if_pos h4_1]; rfl) | (rw [if_neg h4_1]; rfl))
set_option maxHeartbeats 4000000 in
set_option maxRecDepth 100000 in
theorem c_X1_headFromHand {l : Launch} {P : L5} {D : va_G} {j : Nat} (hj : j < 25) {N F T : Nat → Nat → Int32} {K : Nat → Int32} {A : Nat → Nat → Int32} {w : Int64} {v : Nat → Int32} (hk : vp_in (v 1) 4) {most : Int32} : CtI l yX1_headFromHand cX1_headFromHand 3 .int 1 0 0 P D (nW P) (nW P) False (cw P (va_up N j v) F T K A w) (cw P (va_up N j (hfh v most).1) F T K A w) [.ref (rN P j), .int most] (hfh v most).2 := by
  refine mk_Met pl_X1 [(0, .ref (rN P j)), (1, .int most)] rfl (Nat.le_of_ble_eq_true rfl) ?_
  intro p e s m args below meth c C
  refine v_iload_n C 1 dX1_headFromHand_0 rfl ?_
  refine v_aload_n C 0 dX1_headFromHand_1 rfl ?_
  refine v_gN C hj 4 (by decide) k_329 rfl dX1_headFromHand_2 ?_
  refine v_gSN C 0 rfl (List.mem_of_getElem? (i := 22) rfl) dX1_headFromHand_5 ?_
  refine v_aload_n C 0 dX1_headFromHand_8 rfl ?_
  refine v_gN C hj 1 (by decide) k_323 rfl dX1_headFromHand_9 ?_
  refine v_ldS C 0 rfl hk dX1_headFromHand_12 ?_
  refine v_idiv C dX1_headFromHand_13 (ozT_ne _) ?_
  refine v_min C dX1_headFromHand_14 k_207 k_208 k_11 k_209 (Nat.le_of_ble_eq_true rfl) (Nat.le_of_ble_eq_true rfl) (Nat.le_of_ble_eq_true rfl) (Nat.le_of_ble_eq_true rfl) ?_
  refine v_top (fun x_1 ex_1 => ?_)
  refine v_istore_n (lv' := [(2, .int x_1), (0, .ref (rN P j)), (1, .int most)]) C dX1_headFromHand_17 rfl (by decide) rfl ?_
  refine v_aload_n C 1 dX1_headFromHand_18 rfl ?_
  refine v_dup C dX1_headFromHand_19 rfl ?_
  refine v_gN C hj 4 (by decide) k_329 rfl dX1_headFromHand_20 ?_
  refine v_iload_n C 0 dX1_headFromHand_23 rfl ?_
  refine v_gSN C 0 rfl (List.mem_of_getElem? (i := 22) rfl) dX1_headFromHand_24 ?_
  refine v_aload_n C 1 dX1_headFromHand_27 rfl ?_
  refine v_gN C hj 1 (by decide) k_323 rfl dX1_headFromHand_28 ?_
  refine v_ldS C 0 rfl hk dX1_headFromHand_31 ?_
  refine v_imul C dX1_headFromHand_32 ?_
  refine v_isub C dX1_headFromHand_33 ?_
  refine v_pN C hj 4 (by decide) k_329 dX1_headFromHand_34 ?_
  refine v_iload_n C 0 dX1_headFromHand_37 rfl ?_
  exact v_iret C dX1_headFromHand_38 (by rw [ex_1]; rfl) ex_1
set_option maxHeartbeats 4000000 in
set_option maxRecDepth 100000 in
theorem c_X1_head {l : Launch} {P : L5} {D : va_G} {j : Nat} (hj : j < 25) {N F T : Nat → Nat → Int32} {K : Nat → Int32} {A : Nat → Nat → Int32} {w : Int64} {v : Nat → Int32} (hk : vp_in (v 1) 4) {most : Int32} : CtI l yX1_head cX1_head 3 .int 2 0 0 P D (nW P) (nW P) False (cw P (va_up N j v) F T K A w) (cw P (va_up N j (head v most).1) F T K A w) [.ref (rN P j), .int most] (head v most).2 := by
  refine mk_Met pl_X1 [(0, .ref (rN P j)), (1, .int most)] rfl (Nat.le_of_ble_eq_true rfl) ?_
  intro p e s m args below meth c C
  refine v_aload_n C 0 dX1_head_0 rfl ?_
  refine v_iload_n C 1 dX1_head_1 rfl ?_
  refine go_I (run_V C (c_X1_headFromHand hj (by exact hk)) k_220 k_3 k_217 k_219 ks_14 dd_X1_headFromHand ⟨Nat.le_of_ble_eq_true rfl, Nat.le_of_ble_eq_true rfl⟩ (rcN hj) rfl (Nat.le_of_ble_eq_true rfl) dX1_head_2 ⟨Nat.le_of_ble_eq_true rfl, Nat.le_of_ble_eq_true rfl⟩) ?_
  refine v_top (fun x_1 ex_1 => ?_)
  refine v_istore_n (lv' := [(2, .int x_1), (0, .ref (rN P j)), (1, .int most)]) C dX1_head_5 rfl (by decide) rfl ?_
  have LOOP : ∀ (n : Nat) (v : Nat → Int32) (hd : Int32), (v 3).toNatClampNeg < n → vp_in (v 1) 4 → V p l e (rmO 2 0 0) s m args below meth c P D (MQ below (QcI P D (nW P) False (cw P (va_up N j (hlp n most v hd).1) F T K A w) (hlp n most v hd).2) args s 0 0 (aO P)) 3 (nW P) False (cw P (va_up N j v) F T K A w) 0 0 6 [(2, .int hd), (0, .ref (rN P j)), (1, .int most)] [] := by
    intro n
    induction n with
    | zero => intro v hd h9; exact absurd h9 (Nat.not_lt_zero _)
    | succ n ih =>
      intro v hd h9 hk
      refine v_iload_n C 0 dX1_head_6 rfl ?_
      refine v_iload_n C 2 dX1_head_7 rfl ?_
      refine v_icmp_ge (tgt := 61) C dX1_head_8 (by decide) (fun h8_1 => ?_) (fun h8_1 => ?_)
      · refine v_iload_n C 0 dX1_head_61 rfl ?_
        exact v_iret C dX1_head_62 (by rw [hlp, if_pos h8_1]) (by rw [hlp, if_pos h8_1])
      · refine v_aload_n C 1 dX1_head_11 rfl ?_
        refine v_gN C hj 3 (by decide) k_327 rfl dX1_head_12 ?_
        refine v_if_le (tgt := 61) C dX1_head_15 (by decide) (fun h15_1 => ?_) (fun h15_1 => ?_)
        · refine v_iload_n C 0 dX1_head_61 rfl ?_
          exact v_iret C dX1_head_62 (by rw [hlp, if_neg h8_1, if_pos h15_1]) (by rw [hlp, if_neg h8_1, if_pos h15_1])
        · refine v_aload_n C 1 dX1_head_18 rfl ?_
          refine v_dup C dX1_head_19 rfl ?_
          refine v_gN C hj 3 (by decide) k_327 rfl dX1_head_20 ?_
          refine v_iconst (v := 1) C dX1_head_23 rfl ?_
          refine v_isub C dX1_head_24 ?_
          refine v_pN C hj 3 (by decide) k_327 dX1_head_25 ?_
          refine v_aload_n C 1 dX1_head_28 rfl ?_
          refine v_dup C dX1_head_29 rfl ?_
          refine v_gN C hj 9 (by decide) k_339 rfl dX1_head_30 ?_
          refine v_aload_n C 1 dX1_head_33 rfl ?_
          refine v_gN C hj 4 (by decide) k_329 rfl dX1_head_34 ?_
          refine v_iadd C dX1_head_37 ?_
          refine v_pN C hj 9 (by decide) k_339 dX1_head_38 ?_
          refine v_aload_n C 1 dX1_head_41 rfl ?_
          refine v_sipush (v := 240) C dX1_head_42 rfl ?_
          refine v_pN C hj 4 (by decide) k_329 dX1_head_45 ?_
          refine v_iload_n C 0 dX1_head_48 rfl ?_
          refine v_aload_n C 1 dX1_head_49 rfl ?_
          refine v_iload_n C 2 dX1_head_50 rfl ?_
          refine v_iload_n C 0 dX1_head_51 rfl ?_
          refine v_isub C dX1_head_52 ?_
          refine go_I (run_V C (c_X1_headFromHand hj (by exact hk)) k_220 k_3 k_217 k_219 ks_14 dd_X1_headFromHand ⟨Nat.le_of_ble_eq_true rfl, Nat.le_of_ble_eq_true rfl⟩ (rcN hj) rfl (Nat.le_of_ble_eq_true rfl) dX1_head_53 ⟨Nat.le_of_ble_eq_true rfl, Nat.le_of_ble_eq_true rfl⟩) ?_
          refine v_iadd C dX1_head_56 ?_
          refine v_top (fun x_2 ex_2 => ?_)
          refine v_istore_n (lv' := [(2, .int x_2), (0, .ref (rN P j)), (1, .int most)]) C dX1_head_57 rfl (by decide) rfl ?_
          refine v_goto (tgt := 6) C dX1_head_58 (by decide) ?_
          have e9 : hlp (n + 1) most v hd = hlp n most (hfh (rod v) (most - hd)).1 (hd + (hfh (rod v) (most - hd)).2) := by rw [hlp, if_neg h8_1, if_neg h15_1]
          rw [e9]
          subst ex_2
          exact ih _ _ (dec_lt h9 h15_1) hk
  subst ex_1
  exact LOOP _ _ _ (Nat.lt_succ_self _) hk
set_option maxHeartbeats 4000000 in
set_option maxRecDepth 100000 in
theorem c_X1_store {l : Launch} {P : L5} {D : va_G} {j : Nat} (hj : j < 25) {N F T : Nat → Nat → Int32} {K : Nat → Int32} {A : Nat → Nat → Int32} {w : Int64} {v : Nat → Int32} (hk : vp_in (v 1) 4) {a : Int32} : CtV l yX1_store cX1_store 2 1 0 0 P D (nW P) (nW P) False (cw P (va_up N j v) F T K A w) (cw P (va_up N j (store v a)) F T K A w) [.ref (rN P j), .int a] := by
  refine mk_Met pl_X1 [(0, .ref (rN P j)), (1, .int a)] rfl (Nat.le_of_ble_eq_true rfl) ?_
  intro p e s m args below meth c C
  refine v_aload_n C 0 dX1_store_0 rfl ?_
  refine v_dup C dX1_store_1 rfl ?_
  refine v_gN C hj 11 (by decide) k_341 rfl dX1_store_2 ?_
  refine v_iload_n C 1 dX1_store_5 rfl ?_
  refine v_iadd C dX1_store_6 ?_
  refine v_pN C hj 11 (by decide) k_341 dX1_store_7 ?_
  refine v_aload_n C 0 dX1_store_10 rfl ?_
  refine v_gN C hj 12 (by decide) k_342 rfl dX1_store_11 ?_
  refine v_aload_n C 0 dX1_store_14 rfl ?_
  refine v_gN C hj 1 (by decide) k_323 rfl dX1_store_15 ?_
  refine v_dup2 C dX1_store_18 rfl rfl ?_
  refine v_ldL C hj (show vp_in (sto1 v a 1) 4 by rw [sto1_1]; exact hk) dX1_store_19 ?_
  refine v_iload_n C 1 dX1_store_20 rfl ?_
  refine v_iadd C dX1_store_21 ?_
  refine v_stL C hj (show vp_in (sto1 v a 1) 4 by rw [sto1_1]; exact hk) dX1_store_22 ?_
  refine v_aload_n C 0 dX1_store_23 rfl ?_
  refine v_gN C hj 13 (by decide) k_344 rfl dX1_store_24 ?_
  refine v_aload_n C 0 dX1_store_27 rfl ?_
  refine v_gN C hj 1 (by decide) k_323 rfl dX1_store_28 ?_
  refine v_dup2 C dX1_store_31 rfl rfl ?_
  refine v_ldB C hj (show vp_in (sto2 v a 1) 4 by rw [sto2_1]; exact hk) dX1_store_32 ?_
  refine v_aload_n C 0 dX1_store_33 rfl ?_
  refine v_gN C hj 12 (by decide) k_342 rfl dX1_store_34 ?_
  refine v_aload_n C 0 dX1_store_37 rfl ?_
  refine v_gN C hj 1 (by decide) k_323 rfl dX1_store_38 ?_
  refine v_ldL C hj (show vp_in (sto2 v a 1) 4 by rw [sto2_1]; exact hk) dX1_store_41 ?_
  refine v_sipush (v := 1000) C dX1_store_42 rfl ?_
  refine v_idiv C dX1_store_45 (by decide) ?_
  refine v_iadd C dX1_store_46 ?_
  refine v_stB C hj (show vp_in (sto2 v a 1) 4 by rw [sto2_1]; exact hk) dX1_store_47 ?_
  refine v_aload_n C 0 dX1_store_48 rfl ?_
  refine v_gN C hj 12 (by decide) k_342 rfl dX1_store_49 ?_
  refine v_aload_n C 0 dX1_store_52 rfl ?_
  refine v_gN C hj 1 (by decide) k_323 rfl dX1_store_53 ?_
  refine v_dup2 C dX1_store_56 rfl rfl ?_
  refine v_ldL C hj (show vp_in (sto3 v a 1) 4 by rw [sto3_1]; exact hk) dX1_store_57 ?_
  refine v_sipush (v := 1000) C dX1_store_58 rfl ?_
  refine v_irem C dX1_store_61 (by decide) ?_
  refine v_stL C hj (show vp_in (sto3 v a 1) 4 by rw [sto3_1]; exact hk) dX1_store_62 ?_
  exact v_vret C dX1_store_63 rfl
set_option maxHeartbeats 4000000 in
set_option maxRecDepth 100000 in
theorem c_X1_workHour {l : Launch} {P : L5} {D : va_G} {j : Nat} (hj : j < 25) {N F T : Nat → Nat → Int32} {K : Nat → Int32} {A : Nat → Nat → Int32} {w : Int64} {v : Nat → Int32} (hk : vp_in (v 1) 4) : CtI l yX1_workHour cX1_workHour 3 .int 3 0 0 P D (nW P) (nW P) False (cw P (va_up N j v) F T K A w) (cw P (va_up N j (workH v).1) F T K A w) [.ref (rN P j)] (workH v).2 := by
  refine mk_Met pl_X1 [(0, .ref (rN P j))] rfl (Nat.le_of_ble_eq_true rfl) ?_
  intro p e s m args below meth c C
  refine v_aload_n C 0 dX1_workHour_0 rfl ?_
  refine go_V (run_V C (c_X1_tendFire hj) k_206 k_3 k_203 k_205 ks_12 dd_X1_tendFire ⟨Nat.le_of_ble_eq_true rfl, Nat.le_of_ble_eq_true rfl⟩ (rcN hj) rfl (Nat.le_of_ble_eq_true rfl) dX1_workHour_1 ⟨Nat.le_of_ble_eq_true rfl, Nat.le_of_ble_eq_true rfl⟩) ?_
  refine v_aload_n C 0 dX1_workHour_4 rfl ?_
  refine v_gN C hj 5 (by decide) k_330 rfl dX1_workHour_5 ?_
  refine v_iconst (v := 4) C dX1_workHour_8 rfl ?_
  refine v_icmp_ge (tgt := 14) C dX1_workHour_9 (by decide) (fun h9_1 => ?_) (fun h9_1 => ?_)
  · refine v_aload_n C 0 dX1_workHour_14 rfl ?_
    refine v_aload_n C 0 dX1_workHour_15 rfl ?_
    refine v_gN C hj 0 (by decide) k_322 rfl dX1_workHour_16 ?_
    refine v_aload_n C 0 dX1_workHour_19 rfl ?_
    refine v_gN C hj 5 (by decide) k_330 rfl dX1_workHour_20 ?_
    refine v_imul C dX1_workHour_23 ?_
    refine v_iconst (v := 2) C dX1_workHour_24 rfl ?_
    refine v_imul C dX1_workHour_25 ?_
    refine v_aload_n C 0 dX1_workHour_26 rfl ?_
    refine v_gN C hj 1 (by decide) k_323 rfl dX1_workHour_27 ?_
    refine v_iconst (v := 1) C dX1_workHour_30 rfl ?_
    refine v_iadd C dX1_workHour_31 ?_
    refine v_idiv C dX1_workHour_32 (vk1 (by rw [tend_1]; exact hk)) ?_
    refine go_I (run_V C (c_X1_head hj (by rw [tend_1]; exact hk)) k_216 k_3 k_213 k_215 ks_13 dd_X1_head ⟨Nat.le_of_ble_eq_true rfl, Nat.le_of_ble_eq_true rfl⟩ (rcN hj) rfl (Nat.le_of_ble_eq_true rfl) dX1_workHour_33 ⟨Nat.le_of_ble_eq_true rfl, Nat.le_of_ble_eq_true rfl⟩) ?_
    refine v_top (fun x_1 ex_1 => ?_)
    refine v_istore_n (lv' := [(1, .int x_1), (0, .ref (rN P j))]) C dX1_workHour_36 rfl (by decide) rfl ?_
    refine v_aload_n C 1 dX1_workHour_37 rfl ?_
    refine v_gN C hj 5 (by decide) k_330 rfl dX1_workHour_38 ?_
    refine v_bipush (v := 8) C dX1_workHour_41 rfl ?_
    refine v_icmp_lt (tgt := 53) C dX1_workHour_43 (by decide) (fun h43_1 => ?_) (fun h43_1 => ?_)
    · refine v_iconst (v := 0) C dX1_workHour_53 rfl ?_
      refine v_istore_n (lv' := [(2, .int 0), (1, .int x_1), (0, .ref (rN P j))]) C dX1_workHour_54 rfl (by decide) rfl ?_
      refine v_aload_n C 2 dX1_workHour_55 rfl ?_
      refine v_dup C dX1_workHour_56 rfl ?_
      refine v_gN C hj 10 (by decide) k_340 rfl dX1_workHour_57 ?_
      refine v_iload_n C 0 dX1_workHour_60 rfl ?_
      refine v_iadd C dX1_workHour_61 ?_
      refine v_pN C hj 10 (by decide) k_340 dX1_workHour_62 ?_
      refine v_aload_n C 2 dX1_workHour_65 rfl ?_
      refine v_iload_n C 1 dX1_workHour_66 rfl ?_
      refine v_iload_n C 0 dX1_workHour_67 rfl ?_
      refine v_isub C dX1_workHour_68 ?_
      refine go_V (run_V C (c_X1_store hj (by rw [upd_ge (by omega), head_1, tend_1]; exact hk)) k_226 k_3 k_223 k_225 ks_15 dd_X1_store ⟨Nat.le_of_ble_eq_true rfl, Nat.le_of_ble_eq_true rfl⟩ (rcN hj) rfl (Nat.le_of_ble_eq_true rfl) dX1_workHour_69 ⟨Nat.le_of_ble_eq_true rfl, Nat.le_of_ble_eq_true rfl⟩) ?_
      refine v_iload_n C 1 dX1_workHour_72 rfl ?_
      refine v_iload_n C 0 dX1_workHour_73 rfl ?_
      refine v_isub C dX1_workHour_74 ?_
      exact v_iret C dX1_workHour_75 (by rw [workH, if_pos h9_1, ex_1]; unfold workB spo; rw [if_pos (by exact h43_1)]; rfl) (by rw [workH, if_pos h9_1, ex_1]; unfold workB spo; rw [if_pos (by exact h43_1)]; rfl)
    · refine v_iload_n C 0 dX1_workHour_46 rfl ?_
      refine v_bipush (v := 10) C dX1_workHour_47 rfl ?_
      refine v_idiv C dX1_workHour_49 (by decide) ?_
      refine v_goto (tgt := 54) C dX1_workHour_50 (by decide) ?_
      refine v_top (fun x_2 ex_2 => ?_)
      refine v_istore_n (lv' := [(2, .int x_2), (1, .int x_1), (0, .ref (rN P j))]) C dX1_workHour_54 rfl (by decide) rfl ?_
      refine v_aload_n C 2 dX1_workHour_55 rfl ?_
      refine v_dup C dX1_workHour_56 rfl ?_
      refine v_gN C hj 10 (by decide) k_340 rfl dX1_workHour_57 ?_
      refine v_iload_n C 0 dX1_workHour_60 rfl ?_
      refine v_iadd C dX1_workHour_61 ?_
      refine v_pN C hj 10 (by decide) k_340 dX1_workHour_62 ?_
      refine v_aload_n C 2 dX1_workHour_65 rfl ?_
      refine v_iload_n C 1 dX1_workHour_66 rfl ?_
      refine v_iload_n C 0 dX1_workHour_67 rfl ?_
      refine v_isub C dX1_workHour_68 ?_
      refine go_V (run_V C (c_X1_store hj (by rw [upd_ge (by omega), head_1, tend_1]; exact hk)) k_226 k_3 k_223 k_225 ks_15 dd_X1_store ⟨Nat.le_of_ble_eq_true rfl, Nat.le_of_ble_eq_true rfl⟩ (rcN hj) rfl (Nat.le_of_ble_eq_true rfl) dX1_workHour_69 ⟨Nat.le_of_ble_eq_true rfl, Nat.le_of_ble_eq_true rfl⟩) ?_
      refine v_iload_n C 1 dX1_workHour_72 rfl ?_
      refine v_iload_n C 0 dX1_workHour_73 rfl ?_
      refine v_isub C dX1_workHour_74 ?_
      exact v_iret C dX1_workHour_75 (by rw [workH, if_pos h9_1, ex_2, ex_1]; unfold workB spo; rw [if_neg (by exact h43_1)]; rfl) (by rw [workH, if_pos h9_1, ex_2, ex_1]; unfold workB spo; rw [if_neg (by exact h43_1)]; rfl)
  · refine v_iconst (v := 0) C dX1_workHour_12 rfl ?_
    exact v_iret C dX1_workHour_13 (by rw [workH, if_neg h9_1]) (by rw [workH, if_neg h9_1])
set_option maxHeartbeats 4000000 in
set_option maxRecDepth 100000 in
theorem c_X1_workHours {l : Launch} {P : L5} {D : va_G} {j : Nat} (hj : j < 25) {N F T : Nat → Nat → Int32} {K : Nat → Int32} {A : Nat → Nat → Int32} {w : Int64} {v : Nat → Int32} (hk : vp_in (v 1) 4) {h : Int32} : CtI l yX1_workHours cX1_workHours 4 .int 4 0 0 P D (nW P) (nW P) False (cw P (va_up N j v) F T K A w) (cw P (va_up N j (wHl (fuel h 0) h 0 v 0).1) F T K A w) [.ref (rN P j), .int h] (wHl (fuel h 0) h 0 v 0).2 := by
  refine mk_Met pl_X1 [(0, .ref (rN P j)), (1, .int h)] rfl (Nat.le_of_ble_eq_true rfl) ?_
  intro p e s m args below meth c C
  refine v_iconst (v := 0) C dX1_workHours_0 rfl ?_
  refine v_istore_n (lv' := [(2, .int 0), (0, .ref (rN P j)), (1, .int h)]) C dX1_workHours_1 rfl (by decide) rfl ?_
  refine v_iconst (v := 0) C dX1_workHours_2 rfl ?_
  refine v_istore_n (lv' := [(3, .int 0), (2, .int 0), (0, .ref (rN P j)), (1, .int h)]) C dX1_workHours_3 rfl (by decide) rfl ?_
  have LOOP : ∀ (n : Nat) (i : Int32) (v : Nat → Int32) (sm : Int32), fuel h i ≤ n → vp_in (v 1) 4 → V p l e (rmO 4 0 0) s m args below meth c P D (MQ below (QcI P D (nW P) False (cw P (va_up N j (wHl n h i v sm).1) F T K A w) (wHl n h i v sm).2) args s 0 0 (aO P)) 4 (nW P) False (cw P (va_up N j v) F T K A w) 0 0 4 [(3, .int i), (2, .int sm), (0, .ref (rN P j)), (1, .int h)] [] := by
    intro n
    induction n with
    | zero => intro i v sm h9; exact absurd h9 (by unfold fuel; omega)
    | succ n ih =>
      intro i v sm h9 hk
      refine v_iload_n C 0 dX1_workHours_4 rfl ?_
      refine v_iload_n C 3 dX1_workHours_5 rfl ?_
      refine v_icmp_ge (tgt := 22) C dX1_workHours_6 (by decide) (fun h6_1 => ?_) (fun h6_1 => ?_)
      · refine v_iload_n C 1 dX1_workHours_22 rfl ?_
        exact v_iret C dX1_workHours_23 (by rw [wHl, if_pos h6_1]) (by rw [wHl, if_pos h6_1])
      · refine v_iload_n C 1 dX1_workHours_9 rfl ?_
        refine v_aload_n C 2 dX1_workHours_10 rfl ?_
        refine go_I (run_V C (c_X1_workHour hj (by exact hk)) k_202 k_3 k_259 k_201 ks_11 dd_X1_workHour ⟨Nat.le_of_ble_eq_true rfl, Nat.le_of_ble_eq_true rfl⟩ (rcN hj) rfl (Nat.le_of_ble_eq_true rfl) dX1_workHours_11 ⟨Nat.le_of_ble_eq_true rfl, Nat.le_of_ble_eq_true rfl⟩) ?_
        refine v_iadd C dX1_workHours_14 ?_
        refine v_top (fun x_1 ex_1 => ?_)
        refine v_istore_n (lv' := [(2, .int x_1), (3, .int i), (0, .ref (rN P j)), (1, .int h)]) C dX1_workHours_15 rfl (by decide) rfl ?_
        obtain ⟨x_2, ex_2⟩ : ∃ y : Int32, y = i + 1 := ⟨_, rfl⟩
        refine v_iinc (b := x_2) (lv' := [(3, .int x_2), (2, .int x_1), (0, .ref (rN P j)), (1, .int h)]) C 1 dX1_workHours_16 rfl (by rw [ex_2]; rfl) (by decide) rfl ?_
        refine v_goto (tgt := 4) C dX1_workHours_19 (by decide) ?_
        have e9 : wHl (n + 1) h i v sm = wHl n h (i + 1) (workH v).1 (sm + (workH v).2) := by rw [wHl, if_neg h6_1]
        rw [e9]
        subst ex_1 ex_2
        exact ih _ _ _ (fuel_step h9 h6_1) (by rw [workH_1]; exact hk)
  exact LOOP _ _ _ _ (Nat.le_refl _) hk
end
section
/-! ROWS THAT READ CELLS OF A WORLD WHICH IS NOT TURNED TO THEM; worlds that are alike -/
section VHeap2
variable {p : Program} {l : Launch} {e : Env} {R : Room} {s : State} {m : MethodId} {args : Array Value} {below : List Frame} {meth : Method} {c : Code} {P : L5} {D : va_G} {Q : State → Prop} {nL n : Nat} {x : Prop} {f : Nat → va_E} {k z pc : Nat} {lv : List (Nat × Value)} {st : List Value} {cc : ByteArray} {ret : Option FieldType} {own : String}
variable {N F T : Nat → Nat → Int32} {K : Nat → Int32} {A : Nat → Nat → Int32} {w : Int64}
theorem v_gNu (C : Cx p l s m args meth c P D cc nL ret own) {j : Nat} (hj : j < 25) (kf : Nat) (hk : kf < 14) {index : Nat} (hlink : Cond.fieldLink own index (((RX1, TX1, 14)).2.1 kf).1 (((RX1, TX1, 14)).2.1 kf).2.1 (((RX1, TX1, 14)).2.1 kf).2.2.1 ∈ gtb) {u : Value} (hv : (nF P j (N j))[kf]? = some u) (hdg : decode cc pc = .ok (.getfield index, 3)) (kk : V p l e R s m args below meth c P D Q nL (nW P) False (cw P N F T K A w) k z (pc + 3) lv (u :: st)) : V p l e R s m args below meth c P D Q nL (nW P) False (cw P N F T K A w) k z pc lv (.ref (rN P j) :: st) := v_get C (3, j) (kdN j hj) (ci := 1) (r := (RX1, TX1, 14)) rfl rfl inX1g kf hk hlink hv hdg kk
theorem v_gFu (C : Cx p l s m args meth c P D cc nL ret own) {j : Nat} (hj : j < 8) (kf : Nat) (hk : kf < 6) {index : Nat} (hlink : Cond.fieldLink own index (((RX0, TX0, 6)).2.1 kf).1 (((RX0, TX0, 6)).2.1 kf).2.1 (((RX0, TX0, 6)).2.1 kf).2.2.1 ∈ gtb) {u : Value} (hv : (fF (F j))[kf]? = some u) (hdg : decode cc pc = .ok (.getfield index, 3)) (kk : V p l e R s m args below meth c P D Q nL (nW P) False (cw P N F T K A w) k z (pc + 3) lv (u :: st)) : V p l e R s m args below meth c P D Q nL (nW P) False (cw P N F T K A w) k z pc lv (.ref (rF P j) :: st) := v_get C (7, j) (kdF j hj) (ci := 0) (r := (RX0, TX0, 6)) rfl rfl inX0g kf hk hlink hv hdg kk
theorem v_gTu (C : Cx p l s m args meth c P D cc nL ret own) {j : Nat} (hj : j < 2) (kf : Nat) (hk : kf < 4) {index : Nat} (hlink : Cond.fieldLink own index (((RX2, TX2, 4)).2.1 kf).1 (((RX2, TX2, 4)).2.1 kf).2.1 (((RX2, TX2, 4)).2.1 kf).2.2.1 ∈ gtb) {u : Value} (hv : (tF P j (T j))[kf]? = some u) (hdg : decode cc pc = .ok (.getfield index, 3)) (kk : V p l e R s m args below meth c P D Q nL (nW P) False (cw P N F T K A w) k z (pc + 3) lv (u :: st)) : V p l e R s m args below meth c P D Q nL (nW P) False (cw P N F T K A w) k z pc lv (.ref (rT P j) :: st) := v_get C (1, j) (kdT j hj) (ci := 2) (r := (RX2, TX2, 4)) rfl rfl inX2g kf hk hlink hv hdg kk
theorem v_gNuN (C : Cx p l s m args meth c P D cc nL ret own) {j : Nat} (hj : j < 25) (kf : Nat) (hk : kf < 14) {index : Nat} (hlink : (own, index, (((RX1, TX1, 14)).2.1 kf).1, (((RX1, TX1, 14)).2.1 kf).2.1, (((RX1, TX1, 14)).2.1 kf).2.2.1) ∈ nwF) {u : Value} (hv : (nF P j (N j))[kf]? = some u) (hdg : decode cc pc = .ok (.getfield index, 3)) (kk : V p l e R s m args below meth c P D Q nL (nW P) False (cw P N F T K A w) k z (pc + 3) lv (u :: st)) : V p l e R s m args below meth c P D Q nL (nW P) False (cw P N F T K A w) k z pc lv (.ref (rN P j) :: st) := v_getN C (3, j) (kdN j hj) (ci := 1) (r := (RX1, TX1, 14)) rfl rfl inX1g kf hk hlink hv hdg kk
theorem v_gFuN (C : Cx p l s m args meth c P D cc nL ret own) {j : Nat} (hj : j < 8) (kf : Nat) (hk : kf < 6) {index : Nat} (hlink : (own, index, (((RX0, TX0, 6)).2.1 kf).1, (((RX0, TX0, 6)).2.1 kf).2.1, (((RX0, TX0, 6)).2.1 kf).2.2.1) ∈ nwF) {u : Value} (hv : (fF (F j))[kf]? = some u) (hdg : decode cc pc = .ok (.getfield index, 3)) (kk : V p l e R s m args below meth c P D Q nL (nW P) False (cw P N F T K A w) k z (pc + 3) lv (u :: st)) : V p l e R s m args below meth c P D Q nL (nW P) False (cw P N F T K A w) k z pc lv (.ref (rF P j) :: st) := v_getN C (7, j) (kdF j hj) (ci := 0) (r := (RX0, TX0, 6)) rfl rfl inX0g kf hk hlink hv hdg kk
theorem v_gTuN (C : Cx p l s m args meth c P D cc nL ret own) {j : Nat} (hj : j < 2) (kf : Nat) (hk : kf < 4) {index : Nat} (hlink : (own, index, (((RX2, TX2, 4)).2.1 kf).1, (((RX2, TX2, 4)).2.1 kf).2.1, (((RX2, TX2, 4)).2.1 kf).2.2.1) ∈ nwF) {u : Value} (hv : (tF P j (T j))[kf]? = some u) (hdg : decode cc pc = .ok (.getfield index, 3)) (kk : V p l e R s m args below meth c P D Q nL (nW P) False (cw P N F T K A w) k z (pc + 3) lv (u :: st)) : V p l e R s m args below meth c P D Q nL (nW P) False (cw P N F T K A w) k z pc lv (.ref (rT P j) :: st) := v_getN C (1, j) (kdT j hj) (ci := 2) (r := (RX2, TX2, 4)) rfl rfl inX2g kf hk hlink hv hdg kk
theorem v_topl {a : Int64} (kk : ∀ b : Int64, b = a → V p l e R s m args below meth c P D Q nL n x f k z pc lv (.long b :: st)) : V p l e R s m args below meth c P D Q nL n x f k z pc lv (.long a :: st) := kk a rfl
theorem v_ldLu (C : Cx p l s m args meth c P D cc nL ret own) {j : Nat} (hj : j < 25) {i a : Int32} (hin : vp_in i 4) (ha : N j (12 + i.toNatClampNeg) = a) (hdg : decode cc pc = .ok (.iaload, 1)) (kk : V p l e R s m args below meth c P D Q nL (nW P) False (cw P N F T K A w) k z (pc + 1) lv (.int a :: st)) : V p l e R s m args below meth c P D Q nL (nW P) False (cw P N F T K A w) k z pc lv (.int i :: .ref (rL P j) :: st) := v_ldG C (4, j) (kdL j hj) rfl hin ((if_pos (Nat.not_le.mp fun q => hin (Or.inr q))).trans ha) hdg kk
theorem v_ldBu (C : Cx p l s m args meth c P D cc nL ret own) {j : Nat} (hj : j < 25) {i a : Int32} (hin : vp_in i 4) (ha : N j (16 + i.toNatClampNeg) = a) (hdg : decode cc pc = .ok (.iaload, 1)) (kk : V p l e R s m args below meth c P D Q nL (nW P) False (cw P N F T K A w) k z (pc + 1) lv (.int a :: st)) : V p l e R s m args below meth c P D Q nL (nW P) False (cw P N F T K A w) k z pc lv (.int i :: .ref (rB P j) :: st) := v_ldG C (5, j) (kdB j hj) rfl hin ((if_pos (Nat.not_le.mp fun q => hin (Or.inr q))).trans ha) hdg kk
theorem v_lenL (C : Cx p l s m args meth c P D cc nL ret own) {j : Nat} (hj : j < 25) {a : Int32} (ha : Int32.ofNat 4 = a) (hdg : decode cc pc = .ok (.arraylength, 1)) (kk : V p l e R s m args below meth c P D Q nL (nW P) False (cw P N F T K A w) k z (pc + 1) lv (.int a :: st)) : V p l e R s m args below meth c P D Q nL (nW P) False (cw P N F T K A w) k z pc lv (.ref (rL P j) :: st) := v_lenG C (4, j) (kdL j hj) rfl ha hdg kk
theorem v_lenB (C : Cx p l s m args meth c P D cc nL ret own) {j : Nat} (hj : j < 25) {a : Int32} (ha : Int32.ofNat 4 = a) (hdg : decode cc pc = .ok (.arraylength, 1)) (kk : V p l e R s m args below meth c P D Q nL (nW P) False (cw P N F T K A w) k z (pc + 1) lv (.int a :: st)) : V p l e R s m args below meth c P D Q nL (nW P) False (cw P N F T K A w) k z pc lv (.ref (rB P j) :: st) := v_lenG C (5, j) (kdB j hj) rfl ha hdg kk
theorem v_ldLk (C : Cx p l s m args meth c P D cc nL ret own) {j : Nat} {v : Nat → Int32} (t : Nat) (hj : j < 25) {i : Int32} (ht : i.toNatClampNeg = t) (hin : vp_in i 4) (hdg : decode cc pc = .ok (.iaload, 1)) (kk : V p l e R s m args below meth c P D Q nL (nW P) False (cw P (va_up N j v) F T K A w) k z (pc + 1) lv (.int (v (12 + t)) :: st)) : V p l e R s m args below meth c P D Q nL (nW P) False (cw P (va_up N j v) F T K A w) k z pc lv (.int i :: .ref (rL P j) :: st) := by subst ht; exact v_ldL C hj hin hdg kk
theorem v_ldBk (C : Cx p l s m args meth c P D cc nL ret own) {j : Nat} {v : Nat → Int32} (t : Nat) (hj : j < 25) {i : Int32} (ht : i.toNatClampNeg = t) (hin : vp_in i 4) (hdg : decode cc pc = .ok (.iaload, 1)) (kk : V p l e R s m args below meth c P D Q nL (nW P) False (cw P (va_up N j v) F T K A w) k z (pc + 1) lv (.int (v (16 + t)) :: st)) : V p l e R s m args below meth c P D Q nL (nW P) False (cw P (va_up N j v) F T K A w) k z pc lv (.int i :: .ref (rB P j) :: st) := by subst ht; exact v_ldB C hj hin hdg kk
theorem v_stLk (C : Cx p l s m args meth c P D cc nL ret own) {j : Nat} {v : Nat → Int32} (t : Nat) (hj : j < 25) {i a : Int32} (ht : i.toNatClampNeg = t) (hin : vp_in i 4) (hdg : decode cc pc = .ok (.iastore, 1)) (kk : V p l e R s m args below meth c P D Q nL (nW P) False (cw P (va_up N j (upd v (12 + t) a)) F T K A w) k z (pc + 1) lv st) : V p l e R s m args below meth c P D Q nL (nW P) False (cw P (va_up N j v) F T K A w) k z pc lv (.int a :: .int i :: .ref (rL P j) :: st) := by subst ht; exact v_stL C hj hin hdg kk
theorem v_stBk (C : Cx p l s m args meth c P D cc nL ret own) {j : Nat} {v : Nat → Int32} (t : Nat) (hj : j < 25) {i a : Int32} (ht : i.toNatClampNeg = t) (hin : vp_in i 4) (hdg : decode cc pc = .ok (.iastore, 1)) (kk : V p l e R s m args below meth c P D Q nL (nW P) False (cw P (va_up N j (upd v (16 + t) a)) F T K A w) k z (pc + 1) lv st) : V p l e R s m args below meth c P D Q nL (nW P) False (cw P (va_up N j v) F T K A w) k z pc lv (.int a :: .int i :: .ref (rB P j) :: st) := by subst ht; exact v_stB C hj hin hdg kk
theorem v_ldSk (C : Cx p l s m args meth c P D cc nL ret own) (b : Nat) {q : String × String × (Nat → Int32)} (hq : stQ[b]? = some q) (t : Nat) {i : Int32} (ht : i.toNatClampNeg = t) (hin : vp_in i 4) {a : Int32} (ha : q.2.2 t = a) (hdg : decode cc pc = .ok (.iaload, 1)) (kk : V p l e R s m args below meth c P D Q nL n x f k z (pc + 1) lv (.int a :: st)) : V p l e R s m args below meth c P D Q nL n x f k z pc lv (.int i :: .ref (rS P b) :: st) := by subst ht; subst ha; exact v_ldS C b hq hin hdg kk
theorem v_ldLuk (C : Cx p l s m args meth c P D cc nL ret own) {j : Nat} (t : Nat) (hj : j < 25) {i a : Int32} (ht : i.toNatClampNeg = t) (hin : vp_in i 4) (ha : N j (12 + t) = a) (hdg : decode cc pc = .ok (.iaload, 1)) (kk : V p l e R s m args below meth c P D Q nL (nW P) False (cw P N F T K A w) k z (pc + 1) lv (.int a :: st)) : V p l e R s m args below meth c P D Q nL (nW P) False (cw P N F T K A w) k z pc lv (.int i :: .ref (rL P j) :: st) := by subst ht; exact v_ldLu C hj hin ha hdg kk
theorem v_ldBuk (C : Cx p l s m args meth c P D cc nL ret own) {j : Nat} (t : Nat) (hj : j < 25) {i a : Int32} (ht : i.toNatClampNeg = t) (hin : vp_in i 4) (ha : N j (16 + t) = a) (hdg : decode cc pc = .ok (.iaload, 1)) (kk : V p l e R s m args below meth c P D Q nL (nW P) False (cw P N F T K A w) k z (pc + 1) lv (.int a :: st)) : V p l e R s m args below meth c P D Q nL (nW P) False (cw P N F T K A w) k z pc lv (.int i :: .ref (rB P j) :: st) := by subst ht; exact v_ldBu C hj hin ha hdg kk
theorem cw_cN {j : Nat} {a b : Nat → Int32} (h : ∀ k, k < 20 → a k = b k) : cw P (va_up N j a) F T K A w = cw P (va_up N j b) F T K A w := by
  funext q
  exact cK_frN up_off (Or.inr fun t ht => by rw [va_up_self, va_up_self]; exact h t (by omega)) (Or.inr fun t ht => by rw [va_up_self, va_up_self]; exact h _ (by omega)) (Or.inr fun t ht => by rw [va_up_self, va_up_self]; exact h _ (by omega))
theorem cw_cF {j : Nat} {a b : Nat → Int32} (h : ∀ k, k < 6 → a k = b k) : cw P N (va_up F j a) T K A w = cw P N (va_up F j b) T K A w := by
  funext q
  show cK _ _ _ _ _ _ _ _ = cK _ _ _ _ _ _ _ _
  by_cases h9 : kd q = (7, j)
  · rw [h9, cK7, cK7]
    simp only [fF, h 0 (by omega), h 1 (by omega), h 2 (by omega), h 3 (by omega), h 4 (by omega), h 5 (by omega)]
  · exact cK_frF up_off h9
theorem cw_cT {j : Nat} {a b : Nat → Int32} (h : ∀ k, k < 2 → a k = b k) : cw P N F (va_up T j a) K A w = cw P N F (va_up T j b) K A w := by
  funext q
  show cK _ _ _ _ _ _ _ _ = cK _ _ _ _ _ _ _ _
  by_cases h9 : kd q = (1, j)
  · rw [h9, cK1, cK1]
    simp only [tF, h 0 (by omega), h 1 (by omega)]
  · exact cK_frT up_off h9
end VHeap2
theorem tn_0 : (0 : Int32).toNatClampNeg = 0 := by decide
theorem tn_1 : (1 : Int32).toNatClampNeg = 1 := by decide
theorem tn_2 : (2 : Int32).toNatClampNeg = 2 := by decide
theorem tn_3 : (3 : Int32).toNatClampNeg = 3 := by decide
theorem in4_0 : vp_in 0 4 := by unfold vp_in; decide
theorem in4_1 : vp_in 1 4 := by unfold vp_in; decide
theorem in4_2 : vp_in 2 4 := by unfold vp_in; decide
theorem in4_3 : vp_in 3 4 := by unfold vp_in; decide
theorem lt20 {p : Nat → Prop} (h : p 0 ∧ p 1 ∧ p 2 ∧ p 3 ∧ p 4 ∧ p 5 ∧ p 6 ∧ p 7 ∧ p 8 ∧ p 9 ∧ p 10 ∧ p 11 ∧ p 12 ∧ p 13 ∧ p 14 ∧ p 15 ∧ p 16 ∧ p 17 ∧ p 18 ∧ p 19) : ∀ k, k < 20 → p k := by
  obtain ⟨h0, h1, h2, h3, h4, h5, h6, h7, h8, h9, h10, h11, h12, h13, h14, h15, h16, h17, h18, h19⟩ := h
  intro k hk
  rcases (show k = 0 ∨ k = 1 ∨ k = 2 ∨ k = 3 ∨ k = 4 ∨ k = 5 ∨ k = 6 ∨ k = 7 ∨ k = 8 ∨ k = 9 ∨ k = 10 ∨ k = 11 ∨ k = 12 ∨ k = 13 ∨ k = 14 ∨ k = 15 ∨ k = 16 ∨ k = 17 ∨ k = 18 ∨ k = 19 by omega) with rfl | rfl | rfl | rfl | rfl | rfl | rfl | rfl | rfl | rfl | rfl | rfl | rfl | rfl | rfl | rfl | rfl | rfl | rfl | rfl <;> assumption
theorem lt6 {p : Nat → Prop} (h : p 0 ∧ p 1 ∧ p 2 ∧ p 3 ∧ p 4 ∧ p 5) : ∀ k, k < 6 → p k := by
  obtain ⟨h0, h1, h2, h3, h4, h5⟩ := h
  intro k hk
  rcases (show k = 0 ∨ k = 1 ∨ k = 2 ∨ k = 3 ∨ k = 4 ∨ k = 5 by omega) with rfl | rfl | rfl | rfl | rfl | rfl <;> assumption
end
section
/-! what else the nailers and the foggers do, and tell -/
def share (v : Nat → Int32) (k : Nat) : Int32 := if k = 2 then (if v 5 < 4 then 0 else 1) else if k = 4 then 0 + v 12 + v 13 + v 14 + v 15 else if k = 5 then 0 + v 16 + v 17 + v 18 + v 19 else v k
def dg (d : Int64) (x : Int32) : Int64 := d * 31 + x.toInt64
def addD (v : Nat → Int32) (d : Int64) : Int64 :=
  dg (dg (dg (dg (dg (dg (dg (dg (dg (dg (dg (dg (dg (dg (dg (dg (dg (dg (dg (dg d (v 0)) (v 1)) (v 2)) (v 3)) (v 4)) (v 5)) (v 6)) (v 7)) (v 8)) (v 9)) (v 10)) (v 11)) (v 12)) (v 16)) (v 13)) (v 17)) (v 14)) (v 18)) (v 15)) (v 19)
def prK (t : Nat) (g : Nat → Int32) : Int32 := woT t * (100 - g 0) / 100
def bag1 (price : Int32) (t : Nat) (v : Nat → Int32) : Nat → Int32 := upd (upd v (16 + t) (v (16 + t) - 1)) 7 (v 7 + price)
def bag2 (price : Int32) (t : Nat) (g : Nat → Int32) : Nat → Int32 := upd (upd (upd (upd g 1 (g 1 - price)) 3 (g 3 + price)) 2 (g 2 + 1)) 5 (g 5 + woT t)
def bagL : Nat → Int32 → Nat → (Nat → Int32) → (Nat → Int32) → (Nat → Int32) × (Nat → Int32)
  | 0, _, _, v, g => (v, g)
  | n + 1, price, t, v, g => if v (16 + t) ≤ 0 then (v, g) else if g 1 < price then (v, g) else bagL n price t (bag1 price t v) (bag2 price t g)
def buyK (t : Nat) (q : (Nat → Int32) × (Nat → Int32)) : (Nat → Int32) × (Nat → Int32) := bagL ((q.1 (16 + t)).toNatClampNeg + 1) (prK t q.2) t q.1 q.2
def buyB (v g : Nat → Int32) : (Nat → Int32) × (Nat → Int32) := buyK 3 (buyK 2 (buyK 1 (buyK 0 (v, g))))
def payD (v : Nat → Int32) : Int32 := imin (v 8) (v 7)
def colV (v : Nat → Int32) : Nat → Int32 := upd (upd v 8 (v 8 - payD v)) 7 (v 7 - payD v)
def colG (v g : Nat → Int32) : Nat → Int32 := upd g 1 (g 1 + payD v)
def dlv (g : Nat → Int32) : Nat → Int32 := upd (upd (upd g 1 (g 1 + g 5)) 4 (g 4 + g 5)) 5 0
theorem bag1_dec {price : Int32} {t : Nat} {v : Nat → Int32} : bag1 price t v (16 + t) = v (16 + t) - 1 := by
  unfold bag1
  rw [upd_ge (by omega)]
  exact if_pos rfl
end
section
/-! THE CLASSES NAILER AND FOGGER: the rest of their contracts -/
set_option maxHeartbeats 4000000 in
set_option maxRecDepth 100000 in
theorem c_X1_begin {l : Launch} {P : L5} {D : va_G} {N F T : Nat → Nat → Int32} {K : Nat → Int32} {A : Nat → Nat → Int32} {w : Int64} {j : Nat} (hj : j < 25) {v : Nat → Int32} {a b d : Int32} : CtV l yX1_begin cX1_begin 4 1 0 0 P D (nW P) (nW P) False (cw P (va_up N j v) F T K A w) (cw P (va_up N j (upd (upd (upd v 0 a) 1 b) 2 d)) F T K A w) [.ref (rN P j), .int a, .int b, .int d] := by
  refine mk_Met pl_X1 [(0, .ref (rN P j)), (1, .int a), (2, .int b), (3, .int d)] rfl (Nat.le_of_ble_eq_true rfl) ?_
  intro pg en sg mg ag bg mt cd C
  refine v_aload_n C 0 dX1_begin_0 rfl ?_
  refine v_iload_n C 1 dX1_begin_1 rfl ?_
  refine v_pN C hj 0 (by decide) k_322 dX1_begin_2 ?_
  refine v_aload_n C 0 dX1_begin_5 rfl ?_
  refine v_iload_n C 2 dX1_begin_6 rfl ?_
  refine v_pN C hj 1 (by decide) k_323 dX1_begin_7 ?_
  refine v_aload_n C 0 dX1_begin_10 rfl ?_
  refine v_iload_n C 3 dX1_begin_11 rfl ?_
  refine v_pN C hj 2 (by decide) k_325 dX1_begin_12 ?_
  exact v_vret C dX1_begin_15 rfl
set_option maxHeartbeats 4000000 in
set_option maxRecDepth 100000 in
theorem c_X1_sumOfL {l : Launch} {P : L5} {D : va_G} {N F T : Nat → Nat → Int32} {K : Nat → Int32} {A : Nat → Nat → Int32} {w : Int64} {j : Nat} (hj : j < 25) : CtI l yX1_sumOf cX1_sumOf 6 .int 1 0 0 P D (nW P) (nW P) False (cw P N F T K A w) (cw P N F T K A w) [.ref (rL P j)] (0 + N j 12 + N j 13 + N j 14 + N j 15) := by
  refine mk_Met pl_X1 [(0, .ref (rL P j))] rfl (Nat.le_of_ble_eq_true rfl) ?_
  intro pg en sg mg ag bg mt cd C
  refine v_iconst (v := 0) C dX1_sumOf_0 rfl ?_
  refine v_istore_n (lv' := [(1, .int 0), (0, .ref (rL P j))]) C dX1_sumOf_1 rfl (by decide) rfl ?_
  refine v_aload_n C 1 dX1_sumOf_2 rfl ?_
  refine v_astore_n (lv' := [(2, .ref (rL P j)), (1, .int 0), (0, .ref (rL P j))]) C dX1_sumOf_3 rfl (by decide) rfl ?_
  refine v_aload_n C 0 dX1_sumOf_4 rfl ?_
  refine v_lenL (a := 4) C hj rfl dX1_sumOf_5 ?_
  refine v_istore_n (lv' := [(3, .int 4), (2, .ref (rL P j)), (1, .int 0), (0, .ref (rL P j))]) C dX1_sumOf_6 rfl (by decide) rfl ?_
  refine v_iconst (v := 0) C dX1_sumOf_7 rfl ?_
  refine v_istore (lv' := [(4, .int 0), (3, .int 4), (2, .ref (rL P j)), (1, .int 0), (0, .ref (rL P j))]) C dX1_sumOf_8 (by decide) rfl ?_
  refine v_iload C 0 dX1_sumOf_10 rfl ?_
  refine v_iload_n C 1 dX1_sumOf_12 rfl ?_
  refine v_icmp_ge (tgt := 33) C dX1_sumOf_13 (by decide) (fun h9 => absurd h9 (by decide)) (fun _ => ?_)
  refine v_aload_n C 2 dX1_sumOf_16 rfl ?_
  refine v_iload C 0 dX1_sumOf_17 rfl ?_
  refine v_ldLuk C 0 hj tn_0 in4_0 rfl dX1_sumOf_19 ?_
  refine v_top (fun x_1 ex_1 => ?_)
  refine v_istore (lv' := [(5, .int x_1), (4, .int 0), (3, .int 4), (2, .ref (rL P j)), (1, .int 0), (0, .ref (rL P j))]) C dX1_sumOf_20 (by decide) rfl ?_
  refine v_iload_n C 4 dX1_sumOf_22 rfl ?_
  refine v_iload C 0 dX1_sumOf_23 rfl ?_
  refine v_iadd C dX1_sumOf_25 ?_
  refine v_top (fun x_2 ex_2 => ?_)
  refine v_istore_n (lv' := [(1, .int x_2), (5, .int x_1), (4, .int 0), (3, .int 4), (2, .ref (rL P j)), (0, .ref (rL P j))]) C dX1_sumOf_26 rfl (by decide) rfl ?_
  refine v_iinc (b := 1) (lv' := [(4, .int 1), (1, .int x_2), (5, .int x_1), (3, .int 4), (2, .ref (rL P j)), (0, .ref (rL P j))]) C 2 dX1_sumOf_27 rfl rfl (by decide) rfl ?_
  refine v_goto (tgt := 10) C dX1_sumOf_30 (by decide) ?_
  refine v_iload C 0 dX1_sumOf_10 rfl ?_
  refine v_iload_n C 3 dX1_sumOf_12 rfl ?_
  refine v_icmp_ge (tgt := 33) C dX1_sumOf_13 (by decide) (fun h9 => absurd h9 (by decide)) (fun _ => ?_)
  refine v_aload_n C 4 dX1_sumOf_16 rfl ?_
  refine v_iload C 0 dX1_sumOf_17 rfl ?_
  refine v_ldLuk C 1 hj tn_1 in4_1 rfl dX1_sumOf_19 ?_
  refine v_top (fun x_3 ex_3 => ?_)
  refine v_istore (lv' := [(5, .int x_3), (4, .int 1), (1, .int x_2), (3, .int 4), (2, .ref (rL P j)), (0, .ref (rL P j))]) C dX1_sumOf_20 (by decide) rfl ?_
  refine v_iload_n C 2 dX1_sumOf_22 rfl ?_
  refine v_iload C 0 dX1_sumOf_23 rfl ?_
  refine v_iadd C dX1_sumOf_25 ?_
  refine v_top (fun x_4 ex_4 => ?_)
  refine v_istore_n (lv' := [(1, .int x_4), (5, .int x_3), (4, .int 1), (3, .int 4), (2, .ref (rL P j)), (0, .ref (rL P j))]) C dX1_sumOf_26 rfl (by decide) rfl ?_
  refine v_iinc (b := 2) (lv' := [(4, .int 2), (1, .int x_4), (5, .int x_3), (3, .int 4), (2, .ref (rL P j)), (0, .ref (rL P j))]) C 2 dX1_sumOf_27 rfl rfl (by decide) rfl ?_
  refine v_goto (tgt := 10) C dX1_sumOf_30 (by decide) ?_
  refine v_iload C 0 dX1_sumOf_10 rfl ?_
  refine v_iload_n C 3 dX1_sumOf_12 rfl ?_
  refine v_icmp_ge (tgt := 33) C dX1_sumOf_13 (by decide) (fun h9 => absurd h9 (by decide)) (fun _ => ?_)
  refine v_aload_n C 4 dX1_sumOf_16 rfl ?_
  refine v_iload C 0 dX1_sumOf_17 rfl ?_
  refine v_ldLuk C 2 hj tn_2 in4_2 rfl dX1_sumOf_19 ?_
  refine v_top (fun x_5 ex_5 => ?_)
  refine v_istore (lv' := [(5, .int x_5), (4, .int 2), (1, .int x_4), (3, .int 4), (2, .ref (rL P j)), (0, .ref (rL P j))]) C dX1_sumOf_20 (by decide) rfl ?_
  refine v_iload_n C 2 dX1_sumOf_22 rfl ?_
  refine v_iload C 0 dX1_sumOf_23 rfl ?_
  refine v_iadd C dX1_sumOf_25 ?_
  refine v_top (fun x_6 ex_6 => ?_)
  refine v_istore_n (lv' := [(1, .int x_6), (5, .int x_5), (4, .int 2), (3, .int 4), (2, .ref (rL P j)), (0, .ref (rL P j))]) C dX1_sumOf_26 rfl (by decide) rfl ?_
  refine v_iinc (b := 3) (lv' := [(4, .int 3), (1, .int x_6), (5, .int x_5), (3, .int 4), (2, .ref (rL P j)), (0, .ref (rL P j))]) C 2 dX1_sumOf_27 rfl rfl (by decide) rfl ?_
  refine v_goto (tgt := 10) C dX1_sumOf_30 (by decide) ?_
  refine v_iload C 0 dX1_sumOf_10 rfl ?_
  refine v_iload_n C 3 dX1_sumOf_12 rfl ?_
  refine v_icmp_ge (tgt := 33) C dX1_sumOf_13 (by decide) (fun h9 => absurd h9 (by decide)) (fun _ => ?_)
  refine v_aload_n C 4 dX1_sumOf_16 rfl ?_
  refine v_iload C 0 dX1_sumOf_17 rfl ?_
  refine v_ldLuk C 3 hj tn_3 in4_3 rfl dX1_sumOf_19 ?_
  refine v_top (fun x_7 ex_7 => ?_)
  refine v_istore (lv' := [(5, .int x_7), (4, .int 3), (1, .int x_6), (3, .int 4), (2, .ref (rL P j)), (0, .ref (rL P j))]) C dX1_sumOf_20 (by decide) rfl ?_
  refine v_iload_n C 2 dX1_sumOf_22 rfl ?_
  refine v_iload C 0 dX1_sumOf_23 rfl ?_
  refine v_iadd C dX1_sumOf_25 ?_
  refine v_top (fun x_8 ex_8 => ?_)
  refine v_istore_n (lv' := [(1, .int x_8), (5, .int x_7), (4, .int 3), (3, .int 4), (2, .ref (rL P j)), (0, .ref (rL P j))]) C dX1_sumOf_26 rfl (by decide) rfl ?_
  refine v_iinc (b := 4) (lv' := [(4, .int 4), (1, .int x_8), (5, .int x_7), (3, .int 4), (2, .ref (rL P j)), (0, .ref (rL P j))]) C 2 dX1_sumOf_27 rfl rfl (by decide) rfl ?_
  refine v_goto (tgt := 10) C dX1_sumOf_30 (by decide) ?_
  refine v_iload C 0 dX1_sumOf_10 rfl ?_
  refine v_iload_n C 3 dX1_sumOf_12 rfl ?_
  refine v_icmp_ge (tgt := 33) C dX1_sumOf_13 (by decide) (fun _ => ?_) (fun h9 => absurd (by decide) h9)
  refine v_iload_n C 1 dX1_sumOf_33 rfl ?_
  exact v_iret C dX1_sumOf_34 rfl (by subst ex_1 ex_2 ex_3 ex_4 ex_5 ex_6 ex_7 ex_8; rfl)
set_option maxHeartbeats 4000000 in
set_option maxRecDepth 100000 in
theorem c_X1_sumOfB {l : Launch} {P : L5} {D : va_G} {N F T : Nat → Nat → Int32} {K : Nat → Int32} {A : Nat → Nat → Int32} {w : Int64} {j : Nat} (hj : j < 25) : CtI l yX1_sumOf cX1_sumOf 6 .int 1 0 0 P D (nW P) (nW P) False (cw P N F T K A w) (cw P N F T K A w) [.ref (rB P j)] (0 + N j 16 + N j 17 + N j 18 + N j 19) := by
  refine mk_Met pl_X1 [(0, .ref (rB P j))] rfl (Nat.le_of_ble_eq_true rfl) ?_
  intro pg en sg mg ag bg mt cd C
  refine v_iconst (v := 0) C dX1_sumOf_0 rfl ?_
  refine v_istore_n (lv' := [(1, .int 0), (0, .ref (rB P j))]) C dX1_sumOf_1 rfl (by decide) rfl ?_
  refine v_aload_n C 1 dX1_sumOf_2 rfl ?_
  refine v_astore_n (lv' := [(2, .ref (rB P j)), (1, .int 0), (0, .ref (rB P j))]) C dX1_sumOf_3 rfl (by decide) rfl ?_
  refine v_aload_n C 0 dX1_sumOf_4 rfl ?_
  refine v_lenB (a := 4) C hj rfl dX1_sumOf_5 ?_
  refine v_istore_n (lv' := [(3, .int 4), (2, .ref (rB P j)), (1, .int 0), (0, .ref (rB P j))]) C dX1_sumOf_6 rfl (by decide) rfl ?_
  refine v_iconst (v := 0) C dX1_sumOf_7 rfl ?_
  refine v_istore (lv' := [(4, .int 0), (3, .int 4), (2, .ref (rB P j)), (1, .int 0), (0, .ref (rB P j))]) C dX1_sumOf_8 (by decide) rfl ?_
  refine v_iload C 0 dX1_sumOf_10 rfl ?_
  refine v_iload_n C 1 dX1_sumOf_12 rfl ?_
  refine v_icmp_ge (tgt := 33) C dX1_sumOf_13 (by decide) (fun h9 => absurd h9 (by decide)) (fun _ => ?_)
  refine v_aload_n C 2 dX1_sumOf_16 rfl ?_
  refine v_iload C 0 dX1_sumOf_17 rfl ?_
  refine v_ldBuk C 0 hj tn_0 in4_0 rfl dX1_sumOf_19 ?_
  refine v_top (fun x_1 ex_1 => ?_)
  refine v_istore (lv' := [(5, .int x_1), (4, .int 0), (3, .int 4), (2, .ref (rB P j)), (1, .int 0), (0, .ref (rB P j))]) C dX1_sumOf_20 (by decide) rfl ?_
  refine v_iload_n C 4 dX1_sumOf_22 rfl ?_
  refine v_iload C 0 dX1_sumOf_23 rfl ?_
  refine v_iadd C dX1_sumOf_25 ?_
  refine v_top (fun x_2 ex_2 => ?_)
  refine v_istore_n (lv' := [(1, .int x_2), (5, .int x_1), (4, .int 0), (3, .int 4), (2, .ref (rB P j)), (0, .ref (rB P j))]) C dX1_sumOf_26 rfl (by decide) rfl ?_
  refine v_iinc (b := 1) (lv' := [(4, .int 1), (1, .int x_2), (5, .int x_1), (3, .int 4), (2, .ref (rB P j)), (0, .ref (rB P j))]) C 2 dX1_sumOf_27 rfl rfl (by decide) rfl ?_
  refine v_goto (tgt := 10) C dX1_sumOf_30 (by decide) ?_
  refine v_iload C 0 dX1_sumOf_10 rfl ?_
  refine v_iload_n C 3 dX1_sumOf_12 rfl ?_
  refine v_icmp_ge (tgt := 33) C dX1_sumOf_13 (by decide) (fun h9 => absurd h9 (by decide)) (fun _ => ?_)
  refine v_aload_n C 4 dX1_sumOf_16 rfl ?_
  refine v_iload C 0 dX1_sumOf_17 rfl ?_
  refine v_ldBuk C 1 hj tn_1 in4_1 rfl dX1_sumOf_19 ?_
  refine v_top (fun x_3 ex_3 => ?_)
  refine v_istore (lv' := [(5, .int x_3), (4, .int 1), (1, .int x_2), (3, .int 4), (2, .ref (rB P j)), (0, .ref (rB P j))]) C dX1_sumOf_20 (by decide) rfl ?_
  refine v_iload_n C 2 dX1_sumOf_22 rfl ?_
  refine v_iload C 0 dX1_sumOf_23 rfl ?_
  refine v_iadd C dX1_sumOf_25 ?_
  refine v_top (fun x_4 ex_4 => ?_)
  refine v_istore_n (lv' := [(1, .int x_4), (5, .int x_3), (4, .int 1), (3, .int 4), (2, .ref (rB P j)), (0, .ref (rB P j))]) C dX1_sumOf_26 rfl (by decide) rfl ?_
  refine v_iinc (b := 2) (lv' := [(4, .int 2), (1, .int x_4), (5, .int x_3), (3, .int 4), (2, .ref (rB P j)), (0, .ref (rB P j))]) C 2 dX1_sumOf_27 rfl rfl (by decide) rfl ?_
  refine v_goto (tgt := 10) C dX1_sumOf_30 (by decide) ?_
  refine v_iload C 0 dX1_sumOf_10 rfl ?_
  refine v_iload_n C 3 dX1_sumOf_12 rfl ?_
  refine v_icmp_ge (tgt := 33) C dX1_sumOf_13 (by decide) (fun h9 => absurd h9 (by decide)) (fun _ => ?_)
  refine v_aload_n C 4 dX1_sumOf_16 rfl ?_
  refine v_iload C 0 dX1_sumOf_17 rfl ?_
  refine v_ldBuk C 2 hj tn_2 in4_2 rfl dX1_sumOf_19 ?_
  refine v_top (fun x_5 ex_5 => ?_)
  refine v_istore (lv' := [(5, .int x_5), (4, .int 2), (1, .int x_4), (3, .int 4), (2, .ref (rB P j)), (0, .ref (rB P j))]) C dX1_sumOf_20 (by decide) rfl ?_
  refine v_iload_n C 2 dX1_sumOf_22 rfl ?_
  refine v_iload C 0 dX1_sumOf_23 rfl ?_
  refine v_iadd C dX1_sumOf_25 ?_
  refine v_top (fun x_6 ex_6 => ?_)
  refine v_istore_n (lv' := [(1, .int x_6), (5, .int x_5), (4, .int 2), (3, .int 4), (2, .ref (rB P j)), (0, .ref (rB P j))]) C dX1_sumOf_26 rfl (by decide) rfl ?_
  refine v_iinc (b := 3) (lv' := [(4, .int 3), (1, .int x_6), (5, .int x_5), (3, .int 4), (2, .ref (rB P j)), (0, .ref (rB P j))]) C 2 dX1_sumOf_27 rfl rfl (by decide) rfl ?_
  refine v_goto (tgt := 10) C dX1_sumOf_30 (by decide) ?_
  refine v_iload C 0 dX1_sumOf_10 rfl ?_
  refine v_iload_n C 3 dX1_sumOf_12 rfl ?_
  refine v_icmp_ge (tgt := 33) C dX1_sumOf_13 (by decide) (fun h9 => absurd h9 (by decide)) (fun _ => ?_)
  refine v_aload_n C 4 dX1_sumOf_16 rfl ?_
  refine v_iload C 0 dX1_sumOf_17 rfl ?_
  refine v_ldBuk C 3 hj tn_3 in4_3 rfl dX1_sumOf_19 ?_
  refine v_top (fun x_7 ex_7 => ?_)
  refine v_istore (lv' := [(5, .int x_7), (4, .int 3), (1, .int x_6), (3, .int 4), (2, .ref (rB P j)), (0, .ref (rB P j))]) C dX1_sumOf_20 (by decide) rfl ?_
  refine v_iload_n C 2 dX1_sumOf_22 rfl ?_
  refine v_iload C 0 dX1_sumOf_23 rfl ?_
  refine v_iadd C dX1_sumOf_25 ?_
  refine v_top (fun x_8 ex_8 => ?_)
  refine v_istore_n (lv' := [(1, .int x_8), (5, .int x_7), (4, .int 3), (3, .int 4), (2, .ref (rB P j)), (0, .ref (rB P j))]) C dX1_sumOf_26 rfl (by decide) rfl ?_
  refine v_iinc (b := 4) (lv' := [(4, .int 4), (1, .int x_8), (5, .int x_7), (3, .int 4), (2, .ref (rB P j)), (0, .ref (rB P j))]) C 2 dX1_sumOf_27 rfl rfl (by decide) rfl ?_
  refine v_goto (tgt := 10) C dX1_sumOf_30 (by decide) ?_
  refine v_iload C 0 dX1_sumOf_10 rfl ?_
  refine v_iload_n C 3 dX1_sumOf_12 rfl ?_
  refine v_icmp_ge (tgt := 33) C dX1_sumOf_13 (by decide) (fun _ => ?_) (fun h9 => absurd (by decide) h9)
  refine v_iload_n C 1 dX1_sumOf_33 rfl ?_
  exact v_iret C dX1_sumOf_34 rfl (by subst ex_1 ex_2 ex_3 ex_4 ex_5 ex_6 ex_7 ex_8; rfl)
set_option maxHeartbeats 4000000 in
set_option maxRecDepth 100000 in
theorem c_X1_number_0 {l : Launch} {P : L5} {D : va_G} {N F T : Nat → Nat → Int32} {K : Nat → Int32} {A : Nat → Nat → Int32} {w : Int64} {j : Nat} (hj : j < 25) : CtI l yX1_number cX1_number 2 .int 1 0 0 P D (nW P) (nW P) False (cw P N F T K A w) (cw P N F T K A w) [.ref (rN P j), .int 0] (N j 0) := by
  refine mk_Met pl_X1 [(0, .ref (rN P j)), (1, .int 0)] rfl (Nat.le_of_ble_eq_true rfl) ?_
  intro pg en sg mg ag bg mt cd C
  refine v_iload_n C 1 dX1_number_0 rfl ?_
  refine v_tableIn (tgt := 60) C dX1_number_1 (by decide) (by decide) rfl (by decide) ?_
  refine v_aload_n C 0 dX1_number_60 rfl ?_
  refine v_gNu C hj 0 (by decide) k_322 rfl dX1_number_61 ?_
  exact v_iret C dX1_number_64 rfl rfl
set_option maxHeartbeats 4000000 in
set_option maxRecDepth 100000 in
theorem c_X1_number_1 {l : Launch} {P : L5} {D : va_G} {N F T : Nat → Nat → Int32} {K : Nat → Int32} {A : Nat → Nat → Int32} {w : Int64} {j : Nat} (hj : j < 25) : CtI l yX1_number cX1_number 2 .int 1 0 0 P D (nW P) (nW P) False (cw P N F T K A w) (cw P N F T K A w) [.ref (rN P j), .int 1] (N j 1) := by
  refine mk_Met pl_X1 [(0, .ref (rN P j)), (1, .int 1)] rfl (Nat.le_of_ble_eq_true rfl) ?_
  intro pg en sg mg ag bg mt cd C
  refine v_iload_n C 1 dX1_number_0 rfl ?_
  refine v_tableIn (tgt := 65) C dX1_number_1 (by decide) (by decide) rfl (by decide) ?_
  refine v_aload_n C 0 dX1_number_65 rfl ?_
  refine v_gNu C hj 1 (by decide) k_323 rfl dX1_number_66 ?_
  exact v_iret C dX1_number_69 rfl rfl
set_option maxHeartbeats 4000000 in
set_option maxRecDepth 100000 in
theorem c_X1_number_2 {l : Launch} {P : L5} {D : va_G} {N F T : Nat → Nat → Int32} {K : Nat → Int32} {A : Nat → Nat → Int32} {w : Int64} {j : Nat} (hj : j < 25) : CtI l yX1_number cX1_number 2 .int 1 0 0 P D (nW P) (nW P) False (cw P N F T K A w) (cw P N F T K A w) [.ref (rN P j), .int 2] (N j 2) := by
  refine mk_Met pl_X1 [(0, .ref (rN P j)), (1, .int 2)] rfl (Nat.le_of_ble_eq_true rfl) ?_
  intro pg en sg mg ag bg mt cd C
  refine v_iload_n C 1 dX1_number_0 rfl ?_
  refine v_tableIn (tgt := 70) C dX1_number_1 (by decide) (by decide) rfl (by decide) ?_
  refine v_aload_n C 0 dX1_number_70 rfl ?_
  refine v_gNu C hj 2 (by decide) k_325 rfl dX1_number_71 ?_
  exact v_iret C dX1_number_74 rfl rfl
set_option maxHeartbeats 4000000 in
set_option maxRecDepth 100000 in
theorem c_X1_number_3 {l : Launch} {P : L5} {D : va_G} {N F T : Nat → Nat → Int32} {K : Nat → Int32} {A : Nat → Nat → Int32} {w : Int64} {j : Nat} (hj : j < 25) : CtI l yX1_number cX1_number 2 .int 1 0 0 P D (nW P) (nW P) False (cw P N F T K A w) (cw P N F T K A w) [.ref (rN P j), .int 3] (N j 3) := by
  refine mk_Met pl_X1 [(0, .ref (rN P j)), (1, .int 3)] rfl (Nat.le_of_ble_eq_true rfl) ?_
  intro pg en sg mg ag bg mt cd C
  refine v_iload_n C 1 dX1_number_0 rfl ?_
  refine v_tableIn (tgt := 75) C dX1_number_1 (by decide) (by decide) rfl (by decide) ?_
  refine v_aload_n C 0 dX1_number_75 rfl ?_
  refine v_gNu C hj 3 (by decide) k_327 rfl dX1_number_76 ?_
  exact v_iret C dX1_number_79 rfl rfl
set_option maxHeartbeats 4000000 in
set_option maxRecDepth 100000 in
theorem c_X1_number_4 {l : Launch} {P : L5} {D : va_G} {N F T : Nat → Nat → Int32} {K : Nat → Int32} {A : Nat → Nat → Int32} {w : Int64} {j : Nat} (hj : j < 25) : CtI l yX1_number cX1_number 2 .int 1 0 0 P D (nW P) (nW P) False (cw P N F T K A w) (cw P N F T K A w) [.ref (rN P j), .int 4] (N j 4) := by
  refine mk_Met pl_X1 [(0, .ref (rN P j)), (1, .int 4)] rfl (Nat.le_of_ble_eq_true rfl) ?_
  intro pg en sg mg ag bg mt cd C
  refine v_iload_n C 1 dX1_number_0 rfl ?_
  refine v_tableIn (tgt := 80) C dX1_number_1 (by decide) (by decide) rfl (by decide) ?_
  refine v_aload_n C 0 dX1_number_80 rfl ?_
  refine v_gNu C hj 4 (by decide) k_329 rfl dX1_number_81 ?_
  exact v_iret C dX1_number_84 rfl rfl
set_option maxHeartbeats 4000000 in
set_option maxRecDepth 100000 in
theorem c_X1_number_5 {l : Launch} {P : L5} {D : va_G} {N F T : Nat → Nat → Int32} {K : Nat → Int32} {A : Nat → Nat → Int32} {w : Int64} {j : Nat} (hj : j < 25) : CtI l yX1_number cX1_number 2 .int 1 0 0 P D (nW P) (nW P) False (cw P N F T K A w) (cw P N F T K A w) [.ref (rN P j), .int 5] (N j 5) := by
  refine mk_Met pl_X1 [(0, .ref (rN P j)), (1, .int 5)] rfl (Nat.le_of_ble_eq_true rfl) ?_
  intro pg en sg mg ag bg mt cd C
  refine v_iload_n C 1 dX1_number_0 rfl ?_
  refine v_tableIn (tgt := 85) C dX1_number_1 (by decide) (by decide) rfl (by decide) ?_
  refine v_aload_n C 0 dX1_number_85 rfl ?_
  refine v_gNu C hj 5 (by decide) k_330 rfl dX1_number_86 ?_
  exact v_iret C dX1_number_89 rfl rfl
set_option maxHeartbeats 4000000 in
set_option maxRecDepth 100000 in
theorem c_X1_number_6 {l : Launch} {P : L5} {D : va_G} {N F T : Nat → Nat → Int32} {K : Nat → Int32} {A : Nat → Nat → Int32} {w : Int64} {j : Nat} (hj : j < 25) : CtI l yX1_number cX1_number 2 .int 1 0 0 P D (nW P) (nW P) False (cw P N F T K A w) (cw P N F T K A w) [.ref (rN P j), .int 6] (N j 6) := by
  refine mk_Met pl_X1 [(0, .ref (rN P j)), (1, .int 6)] rfl (Nat.le_of_ble_eq_true rfl) ?_
  intro pg en sg mg ag bg mt cd C
  refine v_iload_n C 1 dX1_number_0 rfl ?_
  refine v_tableIn (tgt := 90) C dX1_number_1 (by decide) (by decide) rfl (by decide) ?_
  refine v_aload_n C 0 dX1_number_90 rfl ?_
  refine v_gNu C hj 6 (by decide) k_331 rfl dX1_number_91 ?_
  exact v_iret C dX1_number_94 rfl rfl
set_option maxHeartbeats 4000000 in
set_option maxRecDepth 100000 in
theorem c_X1_number_7 {l : Launch} {P : L5} {D : va_G} {N F T : Nat → Nat → Int32} {K : Nat → Int32} {A : Nat → Nat → Int32} {w : Int64} {j : Nat} (hj : j < 25) : CtI l yX1_number cX1_number 2 .int 1 0 0 P D (nW P) (nW P) False (cw P N F T K A w) (cw P N F T K A w) [.ref (rN P j), .int 7] (N j 7) := by
  refine mk_Met pl_X1 [(0, .ref (rN P j)), (1, .int 7)] rfl (Nat.le_of_ble_eq_true rfl) ?_
  intro pg en sg mg ag bg mt cd C
  refine v_iload_n C 1 dX1_number_0 rfl ?_
  refine v_tableIn (tgt := 95) C dX1_number_1 (by decide) (by decide) rfl (by decide) ?_
  refine v_aload_n C 0 dX1_number_95 rfl ?_
  refine v_gNu C hj 7 (by decide) k_333 rfl dX1_number_96 ?_
  exact v_iret C dX1_number_99 rfl rfl
set_option maxHeartbeats 4000000 in
set_option maxRecDepth 100000 in
theorem c_X1_number_8 {l : Launch} {P : L5} {D : va_G} {N F T : Nat → Nat → Int32} {K : Nat → Int32} {A : Nat → Nat → Int32} {w : Int64} {j : Nat} (hj : j < 25) : CtI l yX1_number cX1_number 2 .int 1 0 0 P D (nW P) (nW P) False (cw P N F T K A w) (cw P N F T K A w) [.ref (rN P j), .int 8] (N j 8) := by
  refine mk_Met pl_X1 [(0, .ref (rN P j)), (1, .int 8)] rfl (Nat.le_of_ble_eq_true rfl) ?_
  intro pg en sg mg ag bg mt cd C
  refine v_iload_n C 1 dX1_number_0 rfl ?_
  refine v_tableIn (tgt := 100) C dX1_number_1 (by decide) (by decide) rfl (by decide) ?_
  refine v_aload_n C 0 dX1_number_100 rfl ?_
  refine v_gNu C hj 8 (by decide) k_337 rfl dX1_number_101 ?_
  exact v_iret C dX1_number_104 rfl rfl
set_option maxHeartbeats 4000000 in
set_option maxRecDepth 100000 in
theorem c_X1_number_9 {l : Launch} {P : L5} {D : va_G} {N F T : Nat → Nat → Int32} {K : Nat → Int32} {A : Nat → Nat → Int32} {w : Int64} {j : Nat} (hj : j < 25) : CtI l yX1_number cX1_number 2 .int 1 0 0 P D (nW P) (nW P) False (cw P N F T K A w) (cw P N F T K A w) [.ref (rN P j), .int 9] (N j 9) := by
  refine mk_Met pl_X1 [(0, .ref (rN P j)), (1, .int 9)] rfl (Nat.le_of_ble_eq_true rfl) ?_
  intro pg en sg mg ag bg mt cd C
  refine v_iload_n C 1 dX1_number_0 rfl ?_
  refine v_tableIn (tgt := 105) C dX1_number_1 (by decide) (by decide) rfl (by decide) ?_
  refine v_aload_n C 0 dX1_number_105 rfl ?_
  refine v_gNu C hj 9 (by decide) k_339 rfl dX1_number_106 ?_
  exact v_iret C dX1_number_109 rfl rfl
set_option maxHeartbeats 4000000 in
set_option maxRecDepth 100000 in
theorem c_X1_number_10 {l : Launch} {P : L5} {D : va_G} {N F T : Nat → Nat → Int32} {K : Nat → Int32} {A : Nat → Nat → Int32} {w : Int64} {j : Nat} (hj : j < 25) : CtI l yX1_number cX1_number 2 .int 1 0 0 P D (nW P) (nW P) False (cw P N F T K A w) (cw P N F T K A w) [.ref (rN P j), .int 10] (N j 10) := by
  refine mk_Met pl_X1 [(0, .ref (rN P j)), (1, .int 10)] rfl (Nat.le_of_ble_eq_true rfl) ?_
  intro pg en sg mg ag bg mt cd C
  refine v_iload_n C 1 dX1_number_0 rfl ?_
  refine v_tableIn (tgt := 110) C dX1_number_1 (by decide) (by decide) rfl (by decide) ?_
  refine v_aload_n C 0 dX1_number_110 rfl ?_
  refine v_gNu C hj 10 (by decide) k_340 rfl dX1_number_111 ?_
  exact v_iret C dX1_number_114 rfl rfl
set_option maxHeartbeats 4000000 in
set_option maxRecDepth 100000 in
theorem c_X1_number_11 {l : Launch} {P : L5} {D : va_G} {N F T : Nat → Nat → Int32} {K : Nat → Int32} {A : Nat → Nat → Int32} {w : Int64} {j : Nat} (hj : j < 25) : CtI l yX1_number cX1_number 2 .int 1 0 0 P D (nW P) (nW P) False (cw P N F T K A w) (cw P N F T K A w) [.ref (rN P j), .int 11] (N j 11) := by
  refine mk_Met pl_X1 [(0, .ref (rN P j)), (1, .int 11)] rfl (Nat.le_of_ble_eq_true rfl) ?_
  intro pg en sg mg ag bg mt cd C
  refine v_iload_n C 1 dX1_number_0 rfl ?_
  refine v_tableOut (tgt := 115) C dX1_number_1 (by decide) (by decide) ?_
  refine v_aload_n C 0 dX1_number_115 rfl ?_
  refine v_gNu C hj 11 (by decide) k_341 rfl dX1_number_116 ?_
  exact v_iret C dX1_number_119 rfl rfl
set_option maxHeartbeats 4000000 in
set_option maxRecDepth 100000 in
theorem c_X1_shareOfTotal_2 {l : Launch} {P : L5} {D : va_G} {N F T : Nat → Nat → Int32} {K : Nat → Int32} {A : Nat → Nat → Int32} {w : Int64} {j : Nat} (hj : j < 25) : CtI l yX1_shareOfTotal cX1_shareOfTotal 2 .int 2 0 0 P D (nW P) (nW P) False (cw P N F T K A w) (cw P N F T K A w) [.ref (rN P j), .int 2] (share (N j) 2) := by
  refine mk_Met pl_X1 [(0, .ref (rN P j)), (1, .int 2)] rfl (Nat.le_of_ble_eq_true rfl) ?_
  intro pg en sg mg ag bg mt cd C
  refine v_iload_n C 1 dX1_shareOfTotal_0 rfl ?_
  refine v_tableIn (tgt := 48) C dX1_shareOfTotal_1 (by decide) (by decide) rfl (by decide) ?_
  refine v_aload_n C 0 dX1_shareOfTotal_48 rfl ?_
  refine v_gNu C hj 5 (by decide) k_330 rfl dX1_shareOfTotal_49 ?_
  refine v_iconst (v := 4) C dX1_shareOfTotal_52 rfl ?_
  refine v_icmp_lt (tgt := 60) C dX1_shareOfTotal_53 (by decide) (fun h53_1 => ?_) (fun h53_1 => ?_)
  · refine v_iconst (v := 0) C dX1_shareOfTotal_60 rfl ?_
    exact v_iret C dX1_shareOfTotal_61 rfl (by show _ = if N j 5 < 4 then _ else _; rw [if_pos (by exact h53_1)])
  · refine v_iconst (v := 1) C dX1_shareOfTotal_56 rfl ?_
    refine v_goto (tgt := 61) C dX1_shareOfTotal_57 (by decide) ?_
    exact v_iret C dX1_shareOfTotal_61 rfl (by show _ = if N j 5 < 4 then _ else _; rw [if_neg (by exact h53_1)])
set_option maxHeartbeats 4000000 in
set_option maxRecDepth 100000 in
theorem c_X1_shareOfTotal_3 {l : Launch} {P : L5} {D : va_G} {N F T : Nat → Nat → Int32} {K : Nat → Int32} {A : Nat → Nat → Int32} {w : Int64} {j : Nat} (hj : j < 25) : CtI l yX1_shareOfTotal cX1_shareOfTotal 2 .int 2 0 0 P D (nW P) (nW P) False (cw P N F T K A w) (cw P N F T K A w) [.ref (rN P j), .int 3] (share (N j) 3) := by
  refine mk_Met pl_X1 [(0, .ref (rN P j)), (1, .int 3)] rfl (Nat.le_of_ble_eq_true rfl) ?_
  intro pg en sg mg ag bg mt cd C
  refine v_iload_n C 1 dX1_shareOfTotal_0 rfl ?_
  refine v_tableIn (tgt := 62) C dX1_shareOfTotal_1 (by decide) (by decide) rfl (by decide) ?_
  refine v_aload_n C 0 dX1_shareOfTotal_62 rfl ?_
  refine v_gNu C hj 3 (by decide) k_327 rfl dX1_shareOfTotal_63 ?_
  exact v_iret C dX1_shareOfTotal_66 rfl rfl
set_option maxHeartbeats 4000000 in
set_option maxRecDepth 100000 in
theorem c_X1_shareOfTotal_4 {l : Launch} {P : L5} {D : va_G} {N F T : Nat → Nat → Int32} {K : Nat → Int32} {A : Nat → Nat → Int32} {w : Int64} {j : Nat} (hj : j < 25) : CtI l yX1_shareOfTotal cX1_shareOfTotal 2 .int 2 0 0 P D (nW P) (nW P) False (cw P N F T K A w) (cw P N F T K A w) [.ref (rN P j), .int 4] (share (N j) 4) := by
  refine mk_Met pl_X1 [(0, .ref (rN P j)), (1, .int 4)] rfl (Nat.le_of_ble_eq_true rfl) ?_
  intro pg en sg mg ag bg mt cd C
  refine v_iload_n C 1 dX1_shareOfTotal_0 rfl ?_
  refine v_tableIn (tgt := 67) C dX1_shareOfTotal_1 (by decide) (by decide) rfl (by decide) ?_
  refine v_aload_n C 0 dX1_shareOfTotal_67 rfl ?_
  refine v_gNu C hj 12 (by decide) k_342 rfl dX1_shareOfTotal_68 ?_
  refine go_I (run_S C (c_X1_sumOfL hj) k_186 k_3 k_184 k_185 dd_X1_sumOf ⟨Nat.le_of_ble_eq_true rfl, Nat.le_of_ble_eq_true rfl⟩ rfl (Nat.le_of_ble_eq_true rfl) dX1_shareOfTotal_71 ⟨Nat.le_of_ble_eq_true rfl, Nat.le_of_ble_eq_true rfl⟩) ?_
  exact v_iret C dX1_shareOfTotal_74 rfl rfl
set_option maxHeartbeats 4000000 in
set_option maxRecDepth 100000 in
theorem c_X1_shareOfTotal_5 {l : Launch} {P : L5} {D : va_G} {N F T : Nat → Nat → Int32} {K : Nat → Int32} {A : Nat → Nat → Int32} {w : Int64} {j : Nat} (hj : j < 25) : CtI l yX1_shareOfTotal cX1_shareOfTotal 2 .int 2 0 0 P D (nW P) (nW P) False (cw P N F T K A w) (cw P N F T K A w) [.ref (rN P j), .int 5] (share (N j) 5) := by
  refine mk_Met pl_X1 [(0, .ref (rN P j)), (1, .int 5)] rfl (Nat.le_of_ble_eq_true rfl) ?_
  intro pg en sg mg ag bg mt cd C
  refine v_iload_n C 1 dX1_shareOfTotal_0 rfl ?_
  refine v_tableIn (tgt := 75) C dX1_shareOfTotal_1 (by decide) (by decide) rfl (by decide) ?_
  refine v_aload_n C 0 dX1_shareOfTotal_75 rfl ?_
  refine v_gNu C hj 13 (by decide) k_344 rfl dX1_shareOfTotal_76 ?_
  refine go_I (run_S C (c_X1_sumOfB hj) k_186 k_3 k_184 k_185 dd_X1_sumOf ⟨Nat.le_of_ble_eq_true rfl, Nat.le_of_ble_eq_true rfl⟩ rfl (Nat.le_of_ble_eq_true rfl) dX1_shareOfTotal_79 ⟨Nat.le_of_ble_eq_true rfl, Nat.le_of_ble_eq_true rfl⟩) ?_
  exact v_iret C dX1_shareOfTotal_82 rfl rfl
set_option maxHeartbeats 4000000 in
set_option maxRecDepth 100000 in
theorem c_X1_shareOfTotal_7 {l : Launch} {P : L5} {D : va_G} {N F T : Nat → Nat → Int32} {K : Nat → Int32} {A : Nat → Nat → Int32} {w : Int64} {j : Nat} (hj : j < 25) : CtI l yX1_shareOfTotal cX1_shareOfTotal 2 .int 2 0 0 P D (nW P) (nW P) False (cw P N F T K A w) (cw P N F T K A w) [.ref (rN P j), .int 7] (share (N j) 7) := by
  refine mk_Met pl_X1 [(0, .ref (rN P j)), (1, .int 7)] rfl (Nat.le_of_ble_eq_true rfl) ?_
  intro pg en sg mg ag bg mt cd C
  refine v_iload_n C 1 dX1_shareOfTotal_0 rfl ?_
  refine v_tableIn (tgt := 83) C dX1_shareOfTotal_1 (by decide) (by decide) rfl (by decide) ?_
  refine v_aload_n C 0 dX1_shareOfTotal_83 rfl ?_
  refine v_gNu C hj 7 (by decide) k_333 rfl dX1_shareOfTotal_84 ?_
  exact v_iret C dX1_shareOfTotal_87 rfl rfl
set_option maxHeartbeats 4000000 in
set_option maxRecDepth 100000 in
theorem c_X1_shareOfTotal_8 {l : Launch} {P : L5} {D : va_G} {N F T : Nat → Nat → Int32} {K : Nat → Int32} {A : Nat → Nat → Int32} {w : Int64} {j : Nat} (hj : j < 25) : CtI l yX1_shareOfTotal cX1_shareOfTotal 2 .int 2 0 0 P D (nW P) (nW P) False (cw P N F T K A w) (cw P N F T K A w) [.ref (rN P j), .int 8] (share (N j) 8) := by
  refine mk_Met pl_X1 [(0, .ref (rN P j)), (1, .int 8)] rfl (Nat.le_of_ble_eq_true rfl) ?_
  intro pg en sg mg ag bg mt cd C
  refine v_iload_n C 1 dX1_shareOfTotal_0 rfl ?_
  refine v_tableIn (tgt := 88) C dX1_shareOfTotal_1 (by decide) (by decide) rfl (by decide) ?_
  refine v_aload_n C 0 dX1_shareOfTotal_88 rfl ?_
  refine v_gNu C hj 8 (by decide) k_337 rfl dX1_shareOfTotal_89 ?_
  exact v_iret C dX1_shareOfTotal_92 rfl rfl
set_option maxHeartbeats 4000000 in
set_option maxRecDepth 100000 in
theorem c_X1_shareOfTotal_9 {l : Launch} {P : L5} {D : va_G} {N F T : Nat → Nat → Int32} {K : Nat → Int32} {A : Nat → Nat → Int32} {w : Int64} {j : Nat} (hj : j < 25) : CtI l yX1_shareOfTotal cX1_shareOfTotal 2 .int 2 0 0 P D (nW P) (nW P) False (cw P N F T K A w) (cw P N F T K A w) [.ref (rN P j), .int 9] (share (N j) 9) := by
  refine mk_Met pl_X1 [(0, .ref (rN P j)), (1, .int 9)] rfl (Nat.le_of_ble_eq_true rfl) ?_
  intro pg en sg mg ag bg mt cd C
  refine v_iload_n C 1 dX1_shareOfTotal_0 rfl ?_
  refine v_tableIn (tgt := 93) C dX1_shareOfTotal_1 (by decide) (by decide) rfl (by decide) ?_
  refine v_aload_n C 0 dX1_shareOfTotal_93 rfl ?_
  refine v_gNu C hj 9 (by decide) k_339 rfl dX1_shareOfTotal_94 ?_
  exact v_iret C dX1_shareOfTotal_97 rfl rfl
set_option maxHeartbeats 4000000 in
set_option maxRecDepth 100000 in
theorem c_X1_shareOfTotal_10 {l : Launch} {P : L5} {D : va_G} {N F T : Nat → Nat → Int32} {K : Nat → Int32} {A : Nat → Nat → Int32} {w : Int64} {j : Nat} (hj : j < 25) : CtI l yX1_shareOfTotal cX1_shareOfTotal 2 .int 2 0 0 P D (nW P) (nW P) False (cw P N F T K A w) (cw P N F T K A w) [.ref (rN P j), .int 10] (share (N j) 10) := by
  refine mk_Met pl_X1 [(0, .ref (rN P j)), (1, .int 10)] rfl (Nat.le_of_ble_eq_true rfl) ?_
  intro pg en sg mg ag bg mt cd C
  refine v_iload_n C 1 dX1_shareOfTotal_0 rfl ?_
  refine v_tableOut (tgt := 98) C dX1_shareOfTotal_1 (by decide) (by decide) ?_
  refine v_aload_n C 0 dX1_shareOfTotal_98 rfl ?_
  refine v_gNu C hj 10 (by decide) k_340 rfl dX1_shareOfTotal_99 ?_
  exact v_iret C dX1_shareOfTotal_102 rfl rfl
set_option maxHeartbeats 4000000 in
set_option maxRecDepth 100000 in
theorem c_X1_addToDigest {l : Launch} {P : L5} {D : va_G} {N F T : Nat → Nat → Int32} {K : Nat → Int32} {A : Nat → Nat → Int32} {w : Int64} {j : Nat} (hj : j < 25) {d : Int64} : CtL l yX1_addToDigest cX1_addToDigest 6 2 0 0 P D (nW P) (nW P) False (cw P N F T K A w) (cw P N F T K A w) [.ref (rN P j), .long d] (addD (N j) d) := by
  refine mk_Met pl_X1 [(0, .ref (rN P j)), (1, .long d)] rfl (Nat.le_of_ble_eq_true rfl) ?_
  intro pg en sg mg ag bg mt cd C
  refine v_lload_n C 1 dX1_addToDigest_0 rfl ?_
  refine v_lstore_n (lv' := [(3, .long d), (0, .ref (rN P j)), (1, .long d)]) C dX1_addToDigest_1 rfl (by decide) rfl ?_
  refine v_iconst (v := 0) C dX1_addToDigest_2 rfl ?_
  refine v_istore (lv' := [(5, .int 0), (3, .long d), (0, .ref (rN P j)), (1, .long d)]) C dX1_addToDigest_3 (by decide) rfl ?_
  refine v_iload C 0 dX1_addToDigest_5 rfl ?_
  refine v_bipush (v := 12) C dX1_addToDigest_7 rfl ?_
  refine v_icmp_ge (tgt := 32) C dX1_addToDigest_9 (by decide) (fun h9 => absurd h9 (by decide)) (fun _ => ?_)
  refine v_lload_n C 1 dX1_addToDigest_12 rfl ?_
  refine v_ldc2 (v := 31) C dX1_addToDigest_13 k_293 ?_
  refine v_lmul C dX1_addToDigest_16 ?_
  refine v_aload_n C 2 dX1_addToDigest_17 rfl ?_
  refine v_iload C 0 dX1_addToDigest_18 rfl ?_
  refine go_I (run_V C (c_X1_number_0 hj) k_142 k_3 k_294 k_140 ks_2 dd_X1_number ⟨Nat.le_of_ble_eq_true rfl, Nat.le_of_ble_eq_true rfl⟩ (rcN hj) rfl (Nat.le_of_ble_eq_true rfl) dX1_addToDigest_20 ⟨Nat.le_of_ble_eq_true rfl, Nat.le_of_ble_eq_true rfl⟩) ?_
  refine v_i2l C dX1_addToDigest_23 ?_
  refine v_ladd C dX1_addToDigest_24 ?_
  refine v_topl (fun y_1 ey_1 => ?_)
  replace ey_1 : y_1 = dg d (N j 0) := ey_1
  refine v_lstore_n (lv' := [(3, .long y_1), (5, .int 0), (0, .ref (rN P j)), (1, .long d)]) C dX1_addToDigest_25 rfl (by decide) rfl ?_
  refine v_iinc (b := 1) (lv' := [(5, .int 1), (3, .long y_1), (0, .ref (rN P j)), (1, .long d)]) C 1 dX1_addToDigest_26 rfl rfl (by decide) rfl ?_
  refine v_goto (tgt := 5) C dX1_addToDigest_29 (by decide) ?_
  refine v_iload C 0 dX1_addToDigest_5 rfl ?_
  refine v_bipush (v := 12) C dX1_addToDigest_7 rfl ?_
  refine v_icmp_ge (tgt := 32) C dX1_addToDigest_9 (by decide) (fun h9 => absurd h9 (by decide)) (fun _ => ?_)
  refine v_lload_n C 1 dX1_addToDigest_12 rfl ?_
  refine v_ldc2 (v := 31) C dX1_addToDigest_13 k_293 ?_
  refine v_lmul C dX1_addToDigest_16 ?_
  refine v_aload_n C 2 dX1_addToDigest_17 rfl ?_
  refine v_iload C 0 dX1_addToDigest_18 rfl ?_
  refine go_I (run_V C (c_X1_number_1 hj) k_142 k_3 k_294 k_140 ks_2 dd_X1_number ⟨Nat.le_of_ble_eq_true rfl, Nat.le_of_ble_eq_true rfl⟩ (rcN hj) rfl (Nat.le_of_ble_eq_true rfl) dX1_addToDigest_20 ⟨Nat.le_of_ble_eq_true rfl, Nat.le_of_ble_eq_true rfl⟩) ?_
  refine v_i2l C dX1_addToDigest_23 ?_
  refine v_ladd C dX1_addToDigest_24 ?_
  refine v_topl (fun y_2 ey_2 => ?_)
  replace ey_2 : y_2 = dg y_1 (N j 1) := ey_2
  refine v_lstore_n (lv' := [(3, .long y_2), (5, .int 1), (0, .ref (rN P j)), (1, .long d)]) C dX1_addToDigest_25 rfl (by decide) rfl ?_
  refine v_iinc (b := 2) (lv' := [(5, .int 2), (3, .long y_2), (0, .ref (rN P j)), (1, .long d)]) C 1 dX1_addToDigest_26 rfl rfl (by decide) rfl ?_
  refine v_goto (tgt := 5) C dX1_addToDigest_29 (by decide) ?_
  refine v_iload C 0 dX1_addToDigest_5 rfl ?_
  refine v_bipush (v := 12) C dX1_addToDigest_7 rfl ?_
  refine v_icmp_ge (tgt := 32) C dX1_addToDigest_9 (by decide) (fun h9 => absurd h9 (by decide)) (fun _ => ?_)
  refine v_lload_n C 1 dX1_addToDigest_12 rfl ?_
  refine v_ldc2 (v := 31) C dX1_addToDigest_13 k_293 ?_
  refine v_lmul C dX1_addToDigest_16 ?_
  refine v_aload_n C 2 dX1_addToDigest_17 rfl ?_
  refine v_iload C 0 dX1_addToDigest_18 rfl ?_
  refine go_I (run_V C (c_X1_number_2 hj) k_142 k_3 k_294 k_140 ks_2 dd_X1_number ⟨Nat.le_of_ble_eq_true rfl, Nat.le_of_ble_eq_true rfl⟩ (rcN hj) rfl (Nat.le_of_ble_eq_true rfl) dX1_addToDigest_20 ⟨Nat.le_of_ble_eq_true rfl, Nat.le_of_ble_eq_true rfl⟩) ?_
  refine v_i2l C dX1_addToDigest_23 ?_
  refine v_ladd C dX1_addToDigest_24 ?_
  refine v_topl (fun y_3 ey_3 => ?_)
  replace ey_3 : y_3 = dg y_2 (N j 2) := ey_3
  refine v_lstore_n (lv' := [(3, .long y_3), (5, .int 2), (0, .ref (rN P j)), (1, .long d)]) C dX1_addToDigest_25 rfl (by decide) rfl ?_
  refine v_iinc (b := 3) (lv' := [(5, .int 3), (3, .long y_3), (0, .ref (rN P j)), (1, .long d)]) C 1 dX1_addToDigest_26 rfl rfl (by decide) rfl ?_
  refine v_goto (tgt := 5) C dX1_addToDigest_29 (by decide) ?_
  refine v_iload C 0 dX1_addToDigest_5 rfl ?_
  refine v_bipush (v := 12) C dX1_addToDigest_7 rfl ?_
  refine v_icmp_ge (tgt := 32) C dX1_addToDigest_9 (by decide) (fun h9 => absurd h9 (by decide)) (fun _ => ?_)
  refine v_lload_n C 1 dX1_addToDigest_12 rfl ?_
  refine v_ldc2 (v := 31) C dX1_addToDigest_13 k_293 ?_
  refine v_lmul C dX1_addToDigest_16 ?_
  refine v_aload_n C 2 dX1_addToDigest_17 rfl ?_
  refine v_iload C 0 dX1_addToDigest_18 rfl ?_
  refine go_I (run_V C (c_X1_number_3 hj) k_142 k_3 k_294 k_140 ks_2 dd_X1_number ⟨Nat.le_of_ble_eq_true rfl, Nat.le_of_ble_eq_true rfl⟩ (rcN hj) rfl (Nat.le_of_ble_eq_true rfl) dX1_addToDigest_20 ⟨Nat.le_of_ble_eq_true rfl, Nat.le_of_ble_eq_true rfl⟩) ?_
  refine v_i2l C dX1_addToDigest_23 ?_
  refine v_ladd C dX1_addToDigest_24 ?_
  refine v_topl (fun y_4 ey_4 => ?_)
  replace ey_4 : y_4 = dg y_3 (N j 3) := ey_4
  refine v_lstore_n (lv' := [(3, .long y_4), (5, .int 3), (0, .ref (rN P j)), (1, .long d)]) C dX1_addToDigest_25 rfl (by decide) rfl ?_
  refine v_iinc (b := 4) (lv' := [(5, .int 4), (3, .long y_4), (0, .ref (rN P j)), (1, .long d)]) C 1 dX1_addToDigest_26 rfl rfl (by decide) rfl ?_
  refine v_goto (tgt := 5) C dX1_addToDigest_29 (by decide) ?_
  refine v_iload C 0 dX1_addToDigest_5 rfl ?_
  refine v_bipush (v := 12) C dX1_addToDigest_7 rfl ?_
  refine v_icmp_ge (tgt := 32) C dX1_addToDigest_9 (by decide) (fun h9 => absurd h9 (by decide)) (fun _ => ?_)
  refine v_lload_n C 1 dX1_addToDigest_12 rfl ?_
  refine v_ldc2 (v := 31) C dX1_addToDigest_13 k_293 ?_
  refine v_lmul C dX1_addToDigest_16 ?_
  refine v_aload_n C 2 dX1_addToDigest_17 rfl ?_
  refine v_iload C 0 dX1_addToDigest_18 rfl ?_
  refine go_I (run_V C (c_X1_number_4 hj) k_142 k_3 k_294 k_140 ks_2 dd_X1_number ⟨Nat.le_of_ble_eq_true rfl, Nat.le_of_ble_eq_true rfl⟩ (rcN hj) rfl (Nat.le_of_ble_eq_true rfl) dX1_addToDigest_20 ⟨Nat.le_of_ble_eq_true rfl, Nat.le_of_ble_eq_true rfl⟩) ?_
  refine v_i2l C dX1_addToDigest_23 ?_
  refine v_ladd C dX1_addToDigest_24 ?_
  refine v_topl (fun y_5 ey_5 => ?_)
  replace ey_5 : y_5 = dg y_4 (N j 4) := ey_5
  refine v_lstore_n (lv' := [(3, .long y_5), (5, .int 4), (0, .ref (rN P j)), (1, .long d)]) C dX1_addToDigest_25 rfl (by decide) rfl ?_
  refine v_iinc (b := 5) (lv' := [(5, .int 5), (3, .long y_5), (0, .ref (rN P j)), (1, .long d)]) C 1 dX1_addToDigest_26 rfl rfl (by decide) rfl ?_
  refine v_goto (tgt := 5) C dX1_addToDigest_29 (by decide) ?_
  refine v_iload C 0 dX1_addToDigest_5 rfl ?_
  refine v_bipush (v := 12) C dX1_addToDigest_7 rfl ?_
  refine v_icmp_ge (tgt := 32) C dX1_addToDigest_9 (by decide) (fun h9 => absurd h9 (by decide)) (fun _ => ?_)
  refine v_lload_n C 1 dX1_addToDigest_12 rfl ?_
  refine v_ldc2 (v := 31) C dX1_addToDigest_13 k_293 ?_
  refine v_lmul C dX1_addToDigest_16 ?_
  refine v_aload_n C 2 dX1_addToDigest_17 rfl ?_
  refine v_iload C 0 dX1_addToDigest_18 rfl ?_
  refine go_I (run_V C (c_X1_number_5 hj) k_142 k_3 k_294 k_140 ks_2 dd_X1_number ⟨Nat.le_of_ble_eq_true rfl, Nat.le_of_ble_eq_true rfl⟩ (rcN hj) rfl (Nat.le_of_ble_eq_true rfl) dX1_addToDigest_20 ⟨Nat.le_of_ble_eq_true rfl, Nat.le_of_ble_eq_true rfl⟩) ?_
  refine v_i2l C dX1_addToDigest_23 ?_
  refine v_ladd C dX1_addToDigest_24 ?_
  refine v_topl (fun y_6 ey_6 => ?_)
  replace ey_6 : y_6 = dg y_5 (N j 5) := ey_6
  refine v_lstore_n (lv' := [(3, .long y_6), (5, .int 5), (0, .ref (rN P j)), (1, .long d)]) C dX1_addToDigest_25 rfl (by decide) rfl ?_
  refine v_iinc (b := 6) (lv' := [(5, .int 6), (3, .long y_6), (0, .ref (rN P j)), (1, .long d)]) C 1 dX1_addToDigest_26 rfl rfl (by decide) rfl ?_
  refine v_goto (tgt := 5) C dX1_addToDigest_29 (by decide) ?_
  refine v_iload C 0 dX1_addToDigest_5 rfl ?_
  refine v_bipush (v := 12) C dX1_addToDigest_7 rfl ?_
  refine v_icmp_ge (tgt := 32) C dX1_addToDigest_9 (by decide) (fun h9 => absurd h9 (by decide)) (fun _ => ?_)
  refine v_lload_n C 1 dX1_addToDigest_12 rfl ?_
  refine v_ldc2 (v := 31) C dX1_addToDigest_13 k_293 ?_
  refine v_lmul C dX1_addToDigest_16 ?_
  refine v_aload_n C 2 dX1_addToDigest_17 rfl ?_
  refine v_iload C 0 dX1_addToDigest_18 rfl ?_
  refine go_I (run_V C (c_X1_number_6 hj) k_142 k_3 k_294 k_140 ks_2 dd_X1_number ⟨Nat.le_of_ble_eq_true rfl, Nat.le_of_ble_eq_true rfl⟩ (rcN hj) rfl (Nat.le_of_ble_eq_true rfl) dX1_addToDigest_20 ⟨Nat.le_of_ble_eq_true rfl, Nat.le_of_ble_eq_true rfl⟩) ?_
  refine v_i2l C dX1_addToDigest_23 ?_
  refine v_ladd C dX1_addToDigest_24 ?_
  refine v_topl (fun y_7 ey_7 => ?_)
  replace ey_7 : y_7 = dg y_6 (N j 6) := ey_7
  refine v_lstore_n (lv' := [(3, .long y_7), (5, .int 6), (0, .ref (rN P j)), (1, .long d)]) C dX1_addToDigest_25 rfl (by decide) rfl ?_
  refine v_iinc (b := 7) (lv' := [(5, .int 7), (3, .long y_7), (0, .ref (rN P j)), (1, .long d)]) C 1 dX1_addToDigest_26 rfl rfl (by decide) rfl ?_
  refine v_goto (tgt := 5) C dX1_addToDigest_29 (by decide) ?_
  refine v_iload C 0 dX1_addToDigest_5 rfl ?_
  refine v_bipush (v := 12) C dX1_addToDigest_7 rfl ?_
  refine v_icmp_ge (tgt := 32) C dX1_addToDigest_9 (by decide) (fun h9 => absurd h9 (by decide)) (fun _ => ?_)
  refine v_lload_n C 1 dX1_addToDigest_12 rfl ?_
  refine v_ldc2 (v := 31) C dX1_addToDigest_13 k_293 ?_
  refine v_lmul C dX1_addToDigest_16 ?_
  refine v_aload_n C 2 dX1_addToDigest_17 rfl ?_
  refine v_iload C 0 dX1_addToDigest_18 rfl ?_
  refine go_I (run_V C (c_X1_number_7 hj) k_142 k_3 k_294 k_140 ks_2 dd_X1_number ⟨Nat.le_of_ble_eq_true rfl, Nat.le_of_ble_eq_true rfl⟩ (rcN hj) rfl (Nat.le_of_ble_eq_true rfl) dX1_addToDigest_20 ⟨Nat.le_of_ble_eq_true rfl, Nat.le_of_ble_eq_true rfl⟩) ?_
  refine v_i2l C dX1_addToDigest_23 ?_
  refine v_ladd C dX1_addToDigest_24 ?_
  refine v_topl (fun y_8 ey_8 => ?_)
  replace ey_8 : y_8 = dg y_7 (N j 7) := ey_8
  refine v_lstore_n (lv' := [(3, .long y_8), (5, .int 7), (0, .ref (rN P j)), (1, .long d)]) C dX1_addToDigest_25 rfl (by decide) rfl ?_
  refine v_iinc (b := 8) (lv' := [(5, .int 8), (3, .long y_8), (0, .ref (rN P j)), (1, .long d)]) C 1 dX1_addToDigest_26 rfl rfl (by decide) rfl ?_
  refine v_goto (tgt := 5) C dX1_addToDigest_29 (by decide) ?_
  refine v_iload C 0 dX1_addToDigest_5 rfl ?_
  refine v_bipush (v := 12) C dX1_addToDigest_7 rfl ?_
  refine v_icmp_ge (tgt := 32) C dX1_addToDigest_9 (by decide) (fun h9 => absurd h9 (by decide)) (fun _ => ?_)
  refine v_lload_n C 1 dX1_addToDigest_12 rfl ?_
  refine v_ldc2 (v := 31) C dX1_addToDigest_13 k_293 ?_
  refine v_lmul C dX1_addToDigest_16 ?_
  refine v_aload_n C 2 dX1_addToDigest_17 rfl ?_
  refine v_iload C 0 dX1_addToDigest_18 rfl ?_
  refine go_I (run_V C (c_X1_number_8 hj) k_142 k_3 k_294 k_140 ks_2 dd_X1_number ⟨Nat.le_of_ble_eq_true rfl, Nat.le_of_ble_eq_true rfl⟩ (rcN hj) rfl (Nat.le_of_ble_eq_true rfl) dX1_addToDigest_20 ⟨Nat.le_of_ble_eq_true rfl, Nat.le_of_ble_eq_true rfl⟩) ?_
  refine v_i2l C dX1_addToDigest_23 ?_
  refine v_ladd C dX1_addToDigest_24 ?_
  refine v_topl (fun y_9 ey_9 => ?_)
  replace ey_9 : y_9 = dg y_8 (N j 8) := ey_9
  refine v_lstore_n (lv' := [(3, .long y_9), (5, .int 8), (0, .ref (rN P j)), (1, .long d)]) C dX1_addToDigest_25 rfl (by decide) rfl ?_
  refine v_iinc (b := 9) (lv' := [(5, .int 9), (3, .long y_9), (0, .ref (rN P j)), (1, .long d)]) C 1 dX1_addToDigest_26 rfl rfl (by decide) rfl ?_
  refine v_goto (tgt := 5) C dX1_addToDigest_29 (by decide) ?_
  refine v_iload C 0 dX1_addToDigest_5 rfl ?_
  refine v_bipush (v := 12) C dX1_addToDigest_7 rfl ?_
  refine v_icmp_ge (tgt := 32) C dX1_addToDigest_9 (by decide) (fun h9 => absurd h9 (by decide)) (fun _ => ?_)
  refine v_lload_n C 1 dX1_addToDigest_12 rfl ?_
  refine v_ldc2 (v := 31) C dX1_addToDigest_13 k_293 ?_
  refine v_lmul C dX1_addToDigest_16 ?_
  refine v_aload_n C 2 dX1_addToDigest_17 rfl ?_
  refine v_iload C 0 dX1_addToDigest_18 rfl ?_
  refine go_I (run_V C (c_X1_number_9 hj) k_142 k_3 k_294 k_140 ks_2 dd_X1_number ⟨Nat.le_of_ble_eq_true rfl, Nat.le_of_ble_eq_true rfl⟩ (rcN hj) rfl (Nat.le_of_ble_eq_true rfl) dX1_addToDigest_20 ⟨Nat.le_of_ble_eq_true rfl, Nat.le_of_ble_eq_true rfl⟩) ?_
  refine v_i2l C dX1_addToDigest_23 ?_
  refine v_ladd C dX1_addToDigest_24 ?_
  refine v_topl (fun y_10 ey_10 => ?_)
  replace ey_10 : y_10 = dg y_9 (N j 9) := ey_10
  refine v_lstore_n (lv' := [(3, .long y_10), (5, .int 9), (0, .ref (rN P j)), (1, .long d)]) C dX1_addToDigest_25 rfl (by decide) rfl ?_
  refine v_iinc (b := 10) (lv' := [(5, .int 10), (3, .long y_10), (0, .ref (rN P j)), (1, .long d)]) C 1 dX1_addToDigest_26 rfl rfl (by decide) rfl ?_
  refine v_goto (tgt := 5) C dX1_addToDigest_29 (by decide) ?_
  refine v_iload C 0 dX1_addToDigest_5 rfl ?_
  refine v_bipush (v := 12) C dX1_addToDigest_7 rfl ?_
  refine v_icmp_ge (tgt := 32) C dX1_addToDigest_9 (by decide) (fun h9 => absurd h9 (by decide)) (fun _ => ?_)
  refine v_lload_n C 1 dX1_addToDigest_12 rfl ?_
  refine v_ldc2 (v := 31) C dX1_addToDigest_13 k_293 ?_
  refine v_lmul C dX1_addToDigest_16 ?_
  refine v_aload_n C 2 dX1_addToDigest_17 rfl ?_
  refine v_iload C 0 dX1_addToDigest_18 rfl ?_
  refine go_I (run_V C (c_X1_number_10 hj) k_142 k_3 k_294 k_140 ks_2 dd_X1_number ⟨Nat.le_of_ble_eq_true rfl, Nat.le_of_ble_eq_true rfl⟩ (rcN hj) rfl (Nat.le_of_ble_eq_true rfl) dX1_addToDigest_20 ⟨Nat.le_of_ble_eq_true rfl, Nat.le_of_ble_eq_true rfl⟩) ?_
  refine v_i2l C dX1_addToDigest_23 ?_
  refine v_ladd C dX1_addToDigest_24 ?_
  refine v_topl (fun y_11 ey_11 => ?_)
  replace ey_11 : y_11 = dg y_10 (N j 10) := ey_11
  refine v_lstore_n (lv' := [(3, .long y_11), (5, .int 10), (0, .ref (rN P j)), (1, .long d)]) C dX1_addToDigest_25 rfl (by decide) rfl ?_
  refine v_iinc (b := 11) (lv' := [(5, .int 11), (3, .long y_11), (0, .ref (rN P j)), (1, .long d)]) C 1 dX1_addToDigest_26 rfl rfl (by decide) rfl ?_
  refine v_goto (tgt := 5) C dX1_addToDigest_29 (by decide) ?_
  refine v_iload C 0 dX1_addToDigest_5 rfl ?_
  refine v_bipush (v := 12) C dX1_addToDigest_7 rfl ?_
  refine v_icmp_ge (tgt := 32) C dX1_addToDigest_9 (by decide) (fun h9 => absurd h9 (by decide)) (fun _ => ?_)
  refine v_lload_n C 1 dX1_addToDigest_12 rfl ?_
  refine v_ldc2 (v := 31) C dX1_addToDigest_13 k_293 ?_
  refine v_lmul C dX1_addToDigest_16 ?_
  refine v_aload_n C 2 dX1_addToDigest_17 rfl ?_
  refine v_iload C 0 dX1_addToDigest_18 rfl ?_
  refine go_I (run_V C (c_X1_number_11 hj) k_142 k_3 k_294 k_140 ks_2 dd_X1_number ⟨Nat.le_of_ble_eq_true rfl, Nat.le_of_ble_eq_true rfl⟩ (rcN hj) rfl (Nat.le_of_ble_eq_true rfl) dX1_addToDigest_20 ⟨Nat.le_of_ble_eq_true rfl, Nat.le_of_ble_eq_true rfl⟩) ?_
  refine v_i2l C dX1_addToDigest_23 ?_
  refine v_ladd C dX1_addToDigest_24 ?_
  refine v_topl (fun y_12 ey_12 => ?_)
  replace ey_12 : y_12 = dg y_11 (N j 11) := ey_12
  refine v_lstore_n (lv' := [(3, .long y_12), (5, .int 11), (0, .ref (rN P j)), (1, .long d)]) C dX1_addToDigest_25 rfl (by decide) rfl ?_
  refine v_iinc (b := 12) (lv' := [(5, .int 12), (3, .long y_12), (0, .ref (rN P j)), (1, .long d)]) C 1 dX1_addToDigest_26 rfl rfl (by decide) rfl ?_
  refine v_goto (tgt := 5) C dX1_addToDigest_29 (by decide) ?_
  refine v_iload C 0 dX1_addToDigest_5 rfl ?_
  refine v_bipush (v := 12) C dX1_addToDigest_7 rfl ?_
  refine v_icmp_ge (tgt := 32) C dX1_addToDigest_9 (by decide) (fun _ => ?_) (fun h9 => absurd (by decide) h9)
  refine v_iconst (v := 0) C dX1_addToDigest_32 rfl ?_
  refine v_istore (lv' := [(5, .int 0), (3, .long y_12), (0, .ref (rN P j)), (1, .long d)]) C dX1_addToDigest_33 (by decide) rfl ?_
  refine v_iload C 0 dX1_addToDigest_35 rfl ?_
  refine v_iconst (v := 4) C dX1_addToDigest_37 rfl ?_
  refine v_icmp_ge (tgt := 77) C dX1_addToDigest_38 (by decide) (fun h9 => absurd h9 (by decide)) (fun _ => ?_)
  refine v_lload_n C 1 dX1_addToDigest_41 rfl ?_
  refine v_ldc2 (v := 31) C dX1_addToDigest_42 k_293 ?_
  refine v_lmul C dX1_addToDigest_45 ?_
  refine v_aload_n C 2 dX1_addToDigest_46 rfl ?_
  refine v_gNu C hj 12 (by decide) k_342 rfl dX1_addToDigest_47 ?_
  refine v_iload C 0 dX1_addToDigest_50 rfl ?_
  refine v_ldLuk C 0 hj tn_0 in4_0 rfl dX1_addToDigest_52 ?_
  refine v_i2l C dX1_addToDigest_53 ?_
  refine v_ladd C dX1_addToDigest_54 ?_
  refine v_topl (fun y_13 ey_13 => ?_)
  replace ey_13 : y_13 = dg y_12 (N j 12) := ey_13
  refine v_lstore_n (lv' := [(3, .long y_13), (5, .int 0), (0, .ref (rN P j)), (1, .long d)]) C dX1_addToDigest_55 rfl (by decide) rfl ?_
  refine v_lload_n C 0 dX1_addToDigest_56 rfl ?_
  refine v_ldc2 (v := 31) C dX1_addToDigest_57 k_293 ?_
  refine v_lmul C dX1_addToDigest_60 ?_
  refine v_aload_n C 2 dX1_addToDigest_61 rfl ?_
  refine v_gNu C hj 13 (by decide) k_344 rfl dX1_addToDigest_62 ?_
  refine v_iload C 1 dX1_addToDigest_65 rfl ?_
  refine v_ldBuk C 0 hj tn_0 in4_0 rfl dX1_addToDigest_67 ?_
  refine v_i2l C dX1_addToDigest_68 ?_
  refine v_ladd C dX1_addToDigest_69 ?_
  refine v_topl (fun y_14 ey_14 => ?_)
  replace ey_14 : y_14 = dg y_13 (N j 16) := ey_14
  refine v_lstore_n (lv' := [(3, .long y_14), (5, .int 0), (0, .ref (rN P j)), (1, .long d)]) C dX1_addToDigest_70 rfl (by decide) rfl ?_
  refine v_iinc (b := 1) (lv' := [(5, .int 1), (3, .long y_14), (0, .ref (rN P j)), (1, .long d)]) C 1 dX1_addToDigest_71 rfl rfl (by decide) rfl ?_
  refine v_goto (tgt := 35) C dX1_addToDigest_74 (by decide) ?_
  refine v_iload C 0 dX1_addToDigest_35 rfl ?_
  refine v_iconst (v := 4) C dX1_addToDigest_37 rfl ?_
  refine v_icmp_ge (tgt := 77) C dX1_addToDigest_38 (by decide) (fun h9 => absurd h9 (by decide)) (fun _ => ?_)
  refine v_lload_n C 1 dX1_addToDigest_41 rfl ?_
  refine v_ldc2 (v := 31) C dX1_addToDigest_42 k_293 ?_
  refine v_lmul C dX1_addToDigest_45 ?_
  refine v_aload_n C 2 dX1_addToDigest_46 rfl ?_
  refine v_gNu C hj 12 (by decide) k_342 rfl dX1_addToDigest_47 ?_
  refine v_iload C 0 dX1_addToDigest_50 rfl ?_
  refine v_ldLuk C 1 hj tn_1 in4_1 rfl dX1_addToDigest_52 ?_
  refine v_i2l C dX1_addToDigest_53 ?_
  refine v_ladd C dX1_addToDigest_54 ?_
  refine v_topl (fun y_15 ey_15 => ?_)
  replace ey_15 : y_15 = dg y_14 (N j 13) := ey_15
  refine v_lstore_n (lv' := [(3, .long y_15), (5, .int 1), (0, .ref (rN P j)), (1, .long d)]) C dX1_addToDigest_55 rfl (by decide) rfl ?_
  refine v_lload_n C 0 dX1_addToDigest_56 rfl ?_
  refine v_ldc2 (v := 31) C dX1_addToDigest_57 k_293 ?_
  refine v_lmul C dX1_addToDigest_60 ?_
  refine v_aload_n C 2 dX1_addToDigest_61 rfl ?_
  refine v_gNu C hj 13 (by decide) k_344 rfl dX1_addToDigest_62 ?_
  refine v_iload C 1 dX1_addToDigest_65 rfl ?_
  refine v_ldBuk C 1 hj tn_1 in4_1 rfl dX1_addToDigest_67 ?_
  refine v_i2l C dX1_addToDigest_68 ?_
  refine v_ladd C dX1_addToDigest_69 ?_
  refine v_topl (fun y_16 ey_16 => ?_)
  replace ey_16 : y_16 = dg y_15 (N j 17) := ey_16
  refine v_lstore_n (lv' := [(3, .long y_16), (5, .int 1), (0, .ref (rN P j)), (1, .long d)]) C dX1_addToDigest_70 rfl (by decide) rfl ?_
  refine v_iinc (b := 2) (lv' := [(5, .int 2), (3, .long y_16), (0, .ref (rN P j)), (1, .long d)]) C 1 dX1_addToDigest_71 rfl rfl (by decide) rfl ?_
  refine v_goto (tgt := 35) C dX1_addToDigest_74 (by decide) ?_
  refine v_iload C 0 dX1_addToDigest_35 rfl ?_
  refine v_iconst (v := 4) C dX1_addToDigest_37 rfl ?_
  refine v_icmp_ge (tgt := 77) C dX1_addToDigest_38 (by decide) (fun h9 => absurd h9 (by decide)) (fun _ => ?_)
  refine v_lload_n C 1 dX1_addToDigest_41 rfl ?_
  refine v_ldc2 (v := 31) C dX1_addToDigest_42 k_293 ?_
  refine v_lmul C dX1_addToDigest_45 ?_
  refine v_aload_n C 2 dX1_addToDigest_46 rfl ?_
  refine v_gNu C hj 12 (by decide) k_342 rfl dX1_addToDigest_47 ?_
  refine v_iload C 0 dX1_addToDigest_50 rfl ?_
  refine v_ldLuk C 2 hj tn_2 in4_2 rfl dX1_addToDigest_52 ?_
  refine v_i2l C dX1_addToDigest_53 ?_
  refine v_ladd C dX1_addToDigest_54 ?_
  refine v_topl (fun y_17 ey_17 => ?_)
  replace ey_17 : y_17 = dg y_16 (N j 14) := ey_17
  refine v_lstore_n (lv' := [(3, .long y_17), (5, .int 2), (0, .ref (rN P j)), (1, .long d)]) C dX1_addToDigest_55 rfl (by decide) rfl ?_
  refine v_lload_n C 0 dX1_addToDigest_56 rfl ?_
  refine v_ldc2 (v := 31) C dX1_addToDigest_57 k_293 ?_
  refine v_lmul C dX1_addToDigest_60 ?_
  refine v_aload_n C 2 dX1_addToDigest_61 rfl ?_
  refine v_gNu C hj 13 (by decide) k_344 rfl dX1_addToDigest_62 ?_
  refine v_iload C 1 dX1_addToDigest_65 rfl ?_
  refine v_ldBuk C 2 hj tn_2 in4_2 rfl dX1_addToDigest_67 ?_
  refine v_i2l C dX1_addToDigest_68 ?_
  refine v_ladd C dX1_addToDigest_69 ?_
  refine v_topl (fun y_18 ey_18 => ?_)
  replace ey_18 : y_18 = dg y_17 (N j 18) := ey_18
  refine v_lstore_n (lv' := [(3, .long y_18), (5, .int 2), (0, .ref (rN P j)), (1, .long d)]) C dX1_addToDigest_70 rfl (by decide) rfl ?_
  refine v_iinc (b := 3) (lv' := [(5, .int 3), (3, .long y_18), (0, .ref (rN P j)), (1, .long d)]) C 1 dX1_addToDigest_71 rfl rfl (by decide) rfl ?_
  refine v_goto (tgt := 35) C dX1_addToDigest_74 (by decide) ?_
  refine v_iload C 0 dX1_addToDigest_35 rfl ?_
  refine v_iconst (v := 4) C dX1_addToDigest_37 rfl ?_
  refine v_icmp_ge (tgt := 77) C dX1_addToDigest_38 (by decide) (fun h9 => absurd h9 (by decide)) (fun _ => ?_)
  refine v_lload_n C 1 dX1_addToDigest_41 rfl ?_
  refine v_ldc2 (v := 31) C dX1_addToDigest_42 k_293 ?_
  refine v_lmul C dX1_addToDigest_45 ?_
  refine v_aload_n C 2 dX1_addToDigest_46 rfl ?_
  refine v_gNu C hj 12 (by decide) k_342 rfl dX1_addToDigest_47 ?_
  refine v_iload C 0 dX1_addToDigest_50 rfl ?_
  refine v_ldLuk C 3 hj tn_3 in4_3 rfl dX1_addToDigest_52 ?_
  refine v_i2l C dX1_addToDigest_53 ?_
  refine v_ladd C dX1_addToDigest_54 ?_
  refine v_topl (fun y_19 ey_19 => ?_)
  replace ey_19 : y_19 = dg y_18 (N j 15) := ey_19
  refine v_lstore_n (lv' := [(3, .long y_19), (5, .int 3), (0, .ref (rN P j)), (1, .long d)]) C dX1_addToDigest_55 rfl (by decide) rfl ?_
  refine v_lload_n C 0 dX1_addToDigest_56 rfl ?_
  refine v_ldc2 (v := 31) C dX1_addToDigest_57 k_293 ?_
  refine v_lmul C dX1_addToDigest_60 ?_
  refine v_aload_n C 2 dX1_addToDigest_61 rfl ?_
  refine v_gNu C hj 13 (by decide) k_344 rfl dX1_addToDigest_62 ?_
  refine v_iload C 1 dX1_addToDigest_65 rfl ?_
  refine v_ldBuk C 3 hj tn_3 in4_3 rfl dX1_addToDigest_67 ?_
  refine v_i2l C dX1_addToDigest_68 ?_
  refine v_ladd C dX1_addToDigest_69 ?_
  refine v_topl (fun y_20 ey_20 => ?_)
  replace ey_20 : y_20 = dg y_19 (N j 19) := ey_20
  refine v_lstore_n (lv' := [(3, .long y_20), (5, .int 3), (0, .ref (rN P j)), (1, .long d)]) C dX1_addToDigest_70 rfl (by decide) rfl ?_
  refine v_iinc (b := 4) (lv' := [(5, .int 4), (3, .long y_20), (0, .ref (rN P j)), (1, .long d)]) C 1 dX1_addToDigest_71 rfl rfl (by decide) rfl ?_
  refine v_goto (tgt := 35) C dX1_addToDigest_74 (by decide) ?_
  refine v_iload C 0 dX1_addToDigest_35 rfl ?_
  refine v_iconst (v := 4) C dX1_addToDigest_37 rfl ?_
  refine v_icmp_ge (tgt := 77) C dX1_addToDigest_38 (by decide) (fun _ => ?_) (fun h9 => absurd (by decide) h9)
  refine v_lload_n C 1 dX1_addToDigest_77 rfl ?_
  exact v_lret C dX1_addToDigest_78 rfl (by rw [ey_20, ey_19, ey_18, ey_17, ey_16, ey_15, ey_14, ey_13, ey_12, ey_11, ey_10, ey_9, ey_8, ey_7, ey_6, ey_5, ey_4, ey_3, ey_2, ey_1]; rfl)
set_option maxHeartbeats 4000000 in
set_option maxRecDepth 100000 in
theorem c_X1_copyFrom {l : Launch} {P : L5} {D : va_G} {N F T : Nat → Nat → Int32} {K : Nat → Int32} {A : Nat → Nat → Int32} {w : Int64} {j : Nat} (hj : j < 25) {v : Nat → Int32} {i : Nat} (hi : i < 25) (hne : i ≠ j) : CtV l yX1_copyFrom cX1_copyFrom 3 1 0 0 P D (nW P) (nW P) False (cw P (va_up N j v) F T K A w) (cw P (va_up N j (N i)) F T K A w) [.ref (rN P j), .ref (rN P i)] := by
  refine mk_Met pl_X1 [(0, .ref (rN P j)), (1, .ref (rN P i))] rfl (Nat.le_of_ble_eq_true rfl) ?_
  intro pg en sg mg ag bg mt cd C
  refine v_aload_n C 0 dX1_copyFrom_0 rfl ?_
  refine v_aload_n C 1 dX1_copyFrom_1 rfl ?_
  refine v_gNu C hi 0 (by decide) k_322 (by rw [va_up_ne _ _ hne]; rfl) dX1_copyFrom_2 ?_
  refine v_pN C hj 0 (by decide) k_322 dX1_copyFrom_5 ?_
  refine v_aload_n C 0 dX1_copyFrom_8 rfl ?_
  refine v_aload_n C 1 dX1_copyFrom_9 rfl ?_
  refine v_gNu C hi 1 (by decide) k_323 (by rw [va_up_ne _ _ hne]; rfl) dX1_copyFrom_10 ?_
  refine v_pN C hj 1 (by decide) k_323 dX1_copyFrom_13 ?_
  refine v_aload_n C 0 dX1_copyFrom_16 rfl ?_
  refine v_aload_n C 1 dX1_copyFrom_17 rfl ?_
  refine v_gNu C hi 2 (by decide) k_325 (by rw [va_up_ne _ _ hne]; rfl) dX1_copyFrom_18 ?_
  refine v_pN C hj 2 (by decide) k_325 dX1_copyFrom_21 ?_
  refine v_aload_n C 0 dX1_copyFrom_24 rfl ?_
  refine v_aload_n C 1 dX1_copyFrom_25 rfl ?_
  refine v_gNu C hi 3 (by decide) k_327 (by rw [va_up_ne _ _ hne]; rfl) dX1_copyFrom_26 ?_
  refine v_pN C hj 3 (by decide) k_327 dX1_copyFrom_29 ?_
  refine v_aload_n C 0 dX1_copyFrom_32 rfl ?_
  refine v_aload_n C 1 dX1_copyFrom_33 rfl ?_
  refine v_gNu C hi 4 (by decide) k_329 (by rw [va_up_ne _ _ hne]; rfl) dX1_copyFrom_34 ?_
  refine v_pN C hj 4 (by decide) k_329 dX1_copyFrom_37 ?_
  refine v_aload_n C 0 dX1_copyFrom_40 rfl ?_
  refine v_aload_n C 1 dX1_copyFrom_41 rfl ?_
  refine v_gNu C hi 5 (by decide) k_330 (by rw [va_up_ne _ _ hne]; rfl) dX1_copyFrom_42 ?_
  refine v_pN C hj 5 (by decide) k_330 dX1_copyFrom_45 ?_
  refine v_aload_n C 0 dX1_copyFrom_48 rfl ?_
  refine v_aload_n C 1 dX1_copyFrom_49 rfl ?_
  refine v_gNu C hi 6 (by decide) k_331 (by rw [va_up_ne _ _ hne]; rfl) dX1_copyFrom_50 ?_
  refine v_pN C hj 6 (by decide) k_331 dX1_copyFrom_53 ?_
  refine v_aload_n C 0 dX1_copyFrom_56 rfl ?_
  refine v_aload_n C 1 dX1_copyFrom_57 rfl ?_
  refine v_gNu C hi 7 (by decide) k_333 (by rw [va_up_ne _ _ hne]; rfl) dX1_copyFrom_58 ?_
  refine v_pN C hj 7 (by decide) k_333 dX1_copyFrom_61 ?_
  refine v_aload_n C 0 dX1_copyFrom_64 rfl ?_
  refine v_aload_n C 1 dX1_copyFrom_65 rfl ?_
  refine v_gNu C hi 8 (by decide) k_337 (by rw [va_up_ne _ _ hne]; rfl) dX1_copyFrom_66 ?_
  refine v_pN C hj 8 (by decide) k_337 dX1_copyFrom_69 ?_
  refine v_aload_n C 0 dX1_copyFrom_72 rfl ?_
  refine v_aload_n C 1 dX1_copyFrom_73 rfl ?_
  refine v_gNu C hi 9 (by decide) k_339 (by rw [va_up_ne _ _ hne]; rfl) dX1_copyFrom_74 ?_
  refine v_pN C hj 9 (by decide) k_339 dX1_copyFrom_77 ?_
  refine v_aload_n C 0 dX1_copyFrom_80 rfl ?_
  refine v_aload_n C 1 dX1_copyFrom_81 rfl ?_
  refine v_gNu C hi 10 (by decide) k_340 (by rw [va_up_ne _ _ hne]; rfl) dX1_copyFrom_82 ?_
  refine v_pN C hj 10 (by decide) k_340 dX1_copyFrom_85 ?_
  refine v_aload_n C 0 dX1_copyFrom_88 rfl ?_
  refine v_aload_n C 1 dX1_copyFrom_89 rfl ?_
  refine v_gNu C hi 11 (by decide) k_341 (by rw [va_up_ne _ _ hne]; rfl) dX1_copyFrom_90 ?_
  refine v_pN C hj 11 (by decide) k_341 dX1_copyFrom_93 ?_
  refine v_iconst (v := 0) C dX1_copyFrom_96 rfl ?_
  refine v_istore_n (lv' := [(2, .int 0), (0, .ref (rN P j)), (1, .ref (rN P i))]) C dX1_copyFrom_97 rfl (by decide) rfl ?_
  refine v_iload_n C 0 dX1_copyFrom_98 rfl ?_
  refine v_iconst (v := 4) C dX1_copyFrom_99 rfl ?_
  refine v_icmp_ge (tgt := 133) C dX1_copyFrom_100 (by decide) (fun h9 => absurd h9 (by decide)) (fun _ => ?_)
  refine v_aload_n C 1 dX1_copyFrom_103 rfl ?_
  refine v_gN C hj 12 (by decide) k_342 rfl dX1_copyFrom_104 ?_
  refine v_iload_n C 0 dX1_copyFrom_107 rfl ?_
  refine v_aload_n C 2 dX1_copyFrom_108 rfl ?_
  refine v_gNu C hi 12 (by decide) k_342 (by rw [va_up_ne _ _ hne]; rfl) dX1_copyFrom_109 ?_
  refine v_iload_n C 0 dX1_copyFrom_112 rfl ?_
  refine v_ldLuk C 0 hi tn_0 in4_0 (by rw [va_up_ne _ _ hne]) dX1_copyFrom_113 ?_
  refine v_stLk C 0 hj tn_0 in4_0 dX1_copyFrom_114 ?_
  refine v_aload_n C 1 dX1_copyFrom_115 rfl ?_
  refine v_gN C hj 13 (by decide) k_344 rfl dX1_copyFrom_116 ?_
  refine v_iload_n C 0 dX1_copyFrom_119 rfl ?_
  refine v_aload_n C 2 dX1_copyFrom_120 rfl ?_
  refine v_gNu C hi 13 (by decide) k_344 (by rw [va_up_ne _ _ hne]; rfl) dX1_copyFrom_121 ?_
  refine v_iload_n C 0 dX1_copyFrom_124 rfl ?_
  refine v_ldBuk C 0 hi tn_0 in4_0 (by rw [va_up_ne _ _ hne]) dX1_copyFrom_125 ?_
  refine v_stBk C 0 hj tn_0 in4_0 dX1_copyFrom_126 ?_
  refine v_iinc (b := 1) (lv' := [(2, .int 1), (0, .ref (rN P j)), (1, .ref (rN P i))]) C 0 dX1_copyFrom_127 rfl rfl (by decide) rfl ?_
  refine v_goto (tgt := 98) C dX1_copyFrom_130 (by decide) ?_
  refine v_iload_n C 0 dX1_copyFrom_98 rfl ?_
  refine v_iconst (v := 4) C dX1_copyFrom_99 rfl ?_
  refine v_icmp_ge (tgt := 133) C dX1_copyFrom_100 (by decide) (fun h9 => absurd h9 (by decide)) (fun _ => ?_)
  refine v_aload_n C 1 dX1_copyFrom_103 rfl ?_
  refine v_gN C hj 12 (by decide) k_342 rfl dX1_copyFrom_104 ?_
  refine v_iload_n C 0 dX1_copyFrom_107 rfl ?_
  refine v_aload_n C 2 dX1_copyFrom_108 rfl ?_
  refine v_gNu C hi 12 (by decide) k_342 (by rw [va_up_ne _ _ hne]; rfl) dX1_copyFrom_109 ?_
  refine v_iload_n C 0 dX1_copyFrom_112 rfl ?_
  refine v_ldLuk C 1 hi tn_1 in4_1 (by rw [va_up_ne _ _ hne]) dX1_copyFrom_113 ?_
  refine v_stLk C 1 hj tn_1 in4_1 dX1_copyFrom_114 ?_
  refine v_aload_n C 1 dX1_copyFrom_115 rfl ?_
  refine v_gN C hj 13 (by decide) k_344 rfl dX1_copyFrom_116 ?_
  refine v_iload_n C 0 dX1_copyFrom_119 rfl ?_
  refine v_aload_n C 2 dX1_copyFrom_120 rfl ?_
  refine v_gNu C hi 13 (by decide) k_344 (by rw [va_up_ne _ _ hne]; rfl) dX1_copyFrom_121 ?_
  refine v_iload_n C 0 dX1_copyFrom_124 rfl ?_
  refine v_ldBuk C 1 hi tn_1 in4_1 (by rw [va_up_ne _ _ hne]) dX1_copyFrom_125 ?_
  refine v_stBk C 1 hj tn_1 in4_1 dX1_copyFrom_126 ?_
  refine v_iinc (b := 2) (lv' := [(2, .int 2), (0, .ref (rN P j)), (1, .ref (rN P i))]) C 0 dX1_copyFrom_127 rfl rfl (by decide) rfl ?_
  refine v_goto (tgt := 98) C dX1_copyFrom_130 (by decide) ?_
  refine v_iload_n C 0 dX1_copyFrom_98 rfl ?_
  refine v_iconst (v := 4) C dX1_copyFrom_99 rfl ?_
  refine v_icmp_ge (tgt := 133) C dX1_copyFrom_100 (by decide) (fun h9 => absurd h9 (by decide)) (fun _ => ?_)
  refine v_aload_n C 1 dX1_copyFrom_103 rfl ?_
  refine v_gN C hj 12 (by decide) k_342 rfl dX1_copyFrom_104 ?_
  refine v_iload_n C 0 dX1_copyFrom_107 rfl ?_
  refine v_aload_n C 2 dX1_copyFrom_108 rfl ?_
  refine v_gNu C hi 12 (by decide) k_342 (by rw [va_up_ne _ _ hne]; rfl) dX1_copyFrom_109 ?_
  refine v_iload_n C 0 dX1_copyFrom_112 rfl ?_
  refine v_ldLuk C 2 hi tn_2 in4_2 (by rw [va_up_ne _ _ hne]) dX1_copyFrom_113 ?_
  refine v_stLk C 2 hj tn_2 in4_2 dX1_copyFrom_114 ?_
  refine v_aload_n C 1 dX1_copyFrom_115 rfl ?_
  refine v_gN C hj 13 (by decide) k_344 rfl dX1_copyFrom_116 ?_
  refine v_iload_n C 0 dX1_copyFrom_119 rfl ?_
  refine v_aload_n C 2 dX1_copyFrom_120 rfl ?_
  refine v_gNu C hi 13 (by decide) k_344 (by rw [va_up_ne _ _ hne]; rfl) dX1_copyFrom_121 ?_
  refine v_iload_n C 0 dX1_copyFrom_124 rfl ?_
  refine v_ldBuk C 2 hi tn_2 in4_2 (by rw [va_up_ne _ _ hne]) dX1_copyFrom_125 ?_
  refine v_stBk C 2 hj tn_2 in4_2 dX1_copyFrom_126 ?_
  refine v_iinc (b := 3) (lv' := [(2, .int 3), (0, .ref (rN P j)), (1, .ref (rN P i))]) C 0 dX1_copyFrom_127 rfl rfl (by decide) rfl ?_
  refine v_goto (tgt := 98) C dX1_copyFrom_130 (by decide) ?_
  refine v_iload_n C 0 dX1_copyFrom_98 rfl ?_
  refine v_iconst (v := 4) C dX1_copyFrom_99 rfl ?_
  refine v_icmp_ge (tgt := 133) C dX1_copyFrom_100 (by decide) (fun h9 => absurd h9 (by decide)) (fun _ => ?_)
  refine v_aload_n C 1 dX1_copyFrom_103 rfl ?_
  refine v_gN C hj 12 (by decide) k_342 rfl dX1_copyFrom_104 ?_
  refine v_iload_n C 0 dX1_copyFrom_107 rfl ?_
  refine v_aload_n C 2 dX1_copyFrom_108 rfl ?_
  refine v_gNu C hi 12 (by decide) k_342 (by rw [va_up_ne _ _ hne]; rfl) dX1_copyFrom_109 ?_
  refine v_iload_n C 0 dX1_copyFrom_112 rfl ?_
  refine v_ldLuk C 3 hi tn_3 in4_3 (by rw [va_up_ne _ _ hne]) dX1_copyFrom_113 ?_
  refine v_stLk C 3 hj tn_3 in4_3 dX1_copyFrom_114 ?_
  refine v_aload_n C 1 dX1_copyFrom_115 rfl ?_
  refine v_gN C hj 13 (by decide) k_344 rfl dX1_copyFrom_116 ?_
  refine v_iload_n C 0 dX1_copyFrom_119 rfl ?_
  refine v_aload_n C 2 dX1_copyFrom_120 rfl ?_
  refine v_gNu C hi 13 (by decide) k_344 (by rw [va_up_ne _ _ hne]; rfl) dX1_copyFrom_121 ?_
  refine v_iload_n C 0 dX1_copyFrom_124 rfl ?_
  refine v_ldBuk C 3 hi tn_3 in4_3 (by rw [va_up_ne _ _ hne]) dX1_copyFrom_125 ?_
  refine v_stBk C 3 hj tn_3 in4_3 dX1_copyFrom_126 ?_
  refine v_iinc (b := 4) (lv' := [(2, .int 4), (0, .ref (rN P j)), (1, .ref (rN P i))]) C 0 dX1_copyFrom_127 rfl rfl (by decide) rfl ?_
  refine v_goto (tgt := 98) C dX1_copyFrom_130 (by decide) ?_
  refine v_iload_n C 0 dX1_copyFrom_98 rfl ?_
  refine v_iconst (v := 4) C dX1_copyFrom_99 rfl ?_
  refine v_icmp_ge (tgt := 133) C dX1_copyFrom_100 (by decide) (fun _ => ?_) (fun h9 => absurd (by decide) h9)
  exact v_vret C dX1_copyFrom_133 (cw_cN (lt20 ⟨rfl, rfl, rfl, rfl, rfl, rfl, rfl, rfl, rfl, rfl, rfl, rfl, rfl, rfl, rfl, rfl, rfl, rfl, rfl, rfl⟩))
set_option maxHeartbeats 4000000 in
set_option maxRecDepth 100000 in
theorem c_X0_copyFrom {l : Launch} {P : L5} {D : va_G} {N F T : Nat → Nat → Int32} {K : Nat → Int32} {A : Nat → Nat → Int32} {w : Int64} {i : Nat} (hi : i < 8) {g : Nat → Int32} {j : Nat} (hj : j < 8) (hne : j ≠ i) : CtV l yX0_copyFrom cX0_copyFrom 2 1 0 0 P D (nW P) (nW P) False (cw P N (va_up F i g) T K A w) (cw P N (va_up F i (F j)) T K A w) [.ref (rF P i), .ref (rF P j)] := by
  refine mk_Met pl_X0 [(0, .ref (rF P i)), (1, .ref (rF P j))] rfl (Nat.le_of_ble_eq_true rfl) ?_
  intro pg en sg mg ag bg mt cd C
  refine v_aload_n C 0 dX0_copyFrom_0 rfl ?_
  refine v_aload_n C 1 dX0_copyFrom_1 rfl ?_
  refine v_gFu C hj 0 (by decide) k_383 (by rw [va_up_ne _ _ hne]; rfl) dX0_copyFrom_2 ?_
  refine v_pF C hi 0 (by decide) k_383 dX0_copyFrom_5 ?_
  refine v_aload_n C 0 dX0_copyFrom_8 rfl ?_
  refine v_aload_n C 1 dX0_copyFrom_9 rfl ?_
  refine v_gFu C hj 1 (by decide) k_386 (by rw [va_up_ne _ _ hne]; rfl) dX0_copyFrom_10 ?_
  refine v_pF C hi 1 (by decide) k_386 dX0_copyFrom_13 ?_
  refine v_aload_n C 0 dX0_copyFrom_16 rfl ?_
  refine v_aload_n C 1 dX0_copyFrom_17 rfl ?_
  refine v_gFu C hj 2 (by decide) k_388 (by rw [va_up_ne _ _ hne]; rfl) dX0_copyFrom_18 ?_
  refine v_pF C hi 2 (by decide) k_388 dX0_copyFrom_21 ?_
  refine v_aload_n C 0 dX0_copyFrom_24 rfl ?_
  refine v_aload_n C 1 dX0_copyFrom_25 rfl ?_
  refine v_gFu C hj 3 (by decide) k_390 (by rw [va_up_ne _ _ hne]; rfl) dX0_copyFrom_26 ?_
  refine v_pF C hi 3 (by decide) k_390 dX0_copyFrom_29 ?_
  refine v_aload_n C 0 dX0_copyFrom_32 rfl ?_
  refine v_aload_n C 1 dX0_copyFrom_33 rfl ?_
  refine v_gFu C hj 4 (by decide) k_392 (by rw [va_up_ne _ _ hne]; rfl) dX0_copyFrom_34 ?_
  refine v_pF C hi 4 (by decide) k_392 dX0_copyFrom_37 ?_
  refine v_aload_n C 0 dX0_copyFrom_40 rfl ?_
  refine v_aload_n C 1 dX0_copyFrom_41 rfl ?_
  refine v_gFu C hj 5 (by decide) k_394 (by rw [va_up_ne _ _ hne]; rfl) dX0_copyFrom_42 ?_
  refine v_pF C hi 5 (by decide) k_394 dX0_copyFrom_45 ?_
  exact v_vret C dX0_copyFrom_48 (cw_cF (lt6 ⟨rfl, rfl, rfl, rfl, rfl, rfl⟩))
set_option maxHeartbeats 4000000 in
set_option maxRecDepth 100000 in
theorem c_X0_deliver {l : Launch} {P : L5} {D : va_G} {N F T : Nat → Nat → Int32} {K : Nat → Int32} {A : Nat → Nat → Int32} {w : Int64} {i : Nat} (hi : i < 8) {g : Nat → Int32} : CtV l yX0_deliver cX0_deliver 1 1 0 0 P D (nW P) (nW P) False (cw P N (va_up F i g) T K A w) (cw P N (va_up F i (dlv g)) T K A w) [.ref (rF P i)] := by
  refine mk_Met pl_X0 [(0, .ref (rF P i))] rfl (Nat.le_of_ble_eq_true rfl) ?_
  intro pg en sg mg ag bg mt cd C
  refine v_aload_n C 0 dX0_deliver_0 rfl ?_
  refine v_dup C dX0_deliver_1 rfl ?_
  refine v_gF C hi 1 (by decide) k_386 rfl dX0_deliver_2 ?_
  refine v_aload_n C 0 dX0_deliver_5 rfl ?_
  refine v_gF C hi 5 (by decide) k_394 rfl dX0_deliver_6 ?_
  refine v_iadd C dX0_deliver_9 ?_
  refine v_pF C hi 1 (by decide) k_386 dX0_deliver_10 ?_
  refine v_aload_n C 0 dX0_deliver_13 rfl ?_
  refine v_dup C dX0_deliver_14 rfl ?_
  refine v_gF C hi 4 (by decide) k_392 rfl dX0_deliver_15 ?_
  refine v_aload_n C 0 dX0_deliver_18 rfl ?_
  refine v_gF C hi 5 (by decide) k_394 rfl dX0_deliver_19 ?_
  refine v_iadd C dX0_deliver_22 ?_
  refine v_pF C hi 4 (by decide) k_392 dX0_deliver_23 ?_
  refine v_aload_n C 0 dX0_deliver_26 rfl ?_
  refine v_iconst (v := 0) C dX0_deliver_27 rfl ?_
  refine v_pF C hi 5 (by decide) k_394 dX0_deliver_28 ?_
  exact v_vret C dX0_deliver_31 rfl
set_option maxHeartbeats 4000000 in
set_option maxRecDepth 100000 in
theorem c_X0_collectDebt {l : Launch} {P : L5} {D : va_G} {N F T : Nat → Nat → Int32} {K : Nat → Int32} {A : Nat → Nat → Int32} {w : Int64} {i : Nat} (hi : i < 8) {g : Nat → Int32} {j : Nat} (hj : j < 25) {v : Nat → Int32} : CtV l yX0_collectDebt cX0_collectDebt 3 1 0 0 P D (nW P) (nW P) False (cw P (va_up N j v) (va_up F i g) T K A w) (cw P (va_up N j (colV v)) (va_up F i (colG v g)) T K A w) [.ref (rF P i), .ref (rN P j)] := by
  refine mk_Met pl_X0 [(0, .ref (rF P i)), (1, .ref (rN P j))] rfl (Nat.le_of_ble_eq_true rfl) ?_
  intro pg en sg mg ag bg mt cd C
  refine v_aload_n C 1 dX0_collectDebt_0 rfl ?_
  refine v_gNN C hj 8 (by decide) (List.mem_of_getElem? (i := 9) rfl) rfl dX0_collectDebt_1 ?_
  refine v_aload_n C 1 dX0_collectDebt_4 rfl ?_
  refine v_gNN C hj 7 (by decide) (List.mem_of_getElem? (i := 6) rfl) rfl dX0_collectDebt_5 ?_
  refine v_min C dX0_collectDebt_8 k_242 k_208 k_11 k_209 (Nat.le_of_ble_eq_true rfl) (Nat.le_of_ble_eq_true rfl) (Nat.le_of_ble_eq_true rfl) (Nat.le_of_ble_eq_true rfl) ?_
  refine v_top (fun x_1 ex_1 => ?_)
  refine v_istore_n (lv' := [(2, .int x_1), (0, .ref (rF P i)), (1, .ref (rN P j))]) C dX0_collectDebt_11 rfl (by decide) rfl ?_
  refine v_aload_n C 2 dX0_collectDebt_12 rfl ?_
  refine v_dup C dX0_collectDebt_13 rfl ?_
  refine v_gNN C hj 8 (by decide) (List.mem_of_getElem? (i := 9) rfl) rfl dX0_collectDebt_14 ?_
  refine v_iload_n C 0 dX0_collectDebt_17 rfl ?_
  refine v_isub C dX0_collectDebt_18 ?_
  refine v_pNN C hj 8 (by decide) (List.mem_of_getElem? (i := 9) rfl) dX0_collectDebt_19 ?_
  refine v_aload_n C 2 dX0_collectDebt_22 rfl ?_
  refine v_dup C dX0_collectDebt_23 rfl ?_
  refine v_gNN C hj 7 (by decide) (List.mem_of_getElem? (i := 6) rfl) rfl dX0_collectDebt_24 ?_
  refine v_iload_n C 0 dX0_collectDebt_27 rfl ?_
  refine v_isub C dX0_collectDebt_28 ?_
  refine v_pNN C hj 7 (by decide) (List.mem_of_getElem? (i := 6) rfl) dX0_collectDebt_29 ?_
  refine v_aload_n C 1 dX0_collectDebt_32 rfl ?_
  refine v_dup C dX0_collectDebt_33 rfl ?_
  refine v_gF C hi 1 (by decide) k_386 rfl dX0_collectDebt_34 ?_
  refine v_iload_n C 0 dX0_collectDebt_37 rfl ?_
  refine v_iadd C dX0_collectDebt_38 ?_
  refine v_pF C hi 1 (by decide) k_386 dX0_collectDebt_39 ?_
  exact v_vret C dX0_collectDebt_42 (by rw [ex_1]; rfl)
set_option maxHeartbeats 4000000 in
set_option maxRecDepth 100000 in
theorem c_X0_buyBags {l : Launch} {P : L5} {D : va_G} {N F T : Nat → Nat → Int32} {K : Nat → Int32} {A : Nat → Nat → Int32} {w : Int64} {i : Nat} (hi : i < 8) {g : Nat → Int32} {j : Nat} (hj : j < 25) {v : Nat → Int32} : CtV l yX0_buyBags cX0_buyBags 4 1 0 0 P D (nW P) (nW P) False (cw P (va_up N j v) (va_up F i g) T K A w) (cw P (va_up N j (buyB v g).1) (va_up F i (buyB v g).2) T K A w) [.ref (rF P i), .ref (rN P j)] := by
  refine mk_Met pl_X0 [(0, .ref (rF P i)), (1, .ref (rN P j))] rfl (Nat.le_of_ble_eq_true rfl) ?_
  intro pg en sg mg ag bg mt cd C
  refine v_iconst (v := 0) C dX0_buyBags_0 rfl ?_
  refine v_istore_n (lv' := [(2, .int 0), (0, .ref (rF P i)), (1, .ref (rN P j))]) C dX0_buyBags_1 rfl (by decide) rfl ?_
  refine v_iload_n C 0 dX0_buyBags_2 rfl ?_
  refine v_iconst (v := 4) C dX0_buyBags_3 rfl ?_
  refine v_icmp_ge (tgt := 114) C dX0_buyBags_4 (by decide) (fun h9 => absurd h9 (by decide)) (fun _ => ?_)
  refine v_gSN C 1 rfl (List.mem_of_getElem? (i := 23) rfl) dX0_buyBags_7 ?_
  refine v_iload_n C 0 dX0_buyBags_10 rfl ?_
  refine v_ldSk C 1 rfl 0 tn_0 in4_0 rfl dX0_buyBags_11 ?_
  refine v_bipush (v := 100) C dX0_buyBags_12 rfl ?_
  refine v_aload_n C 1 dX0_buyBags_14 rfl ?_
  refine v_gF C hi 0 (by decide) k_383 rfl dX0_buyBags_15 ?_
  refine v_isub C dX0_buyBags_18 ?_
  refine v_imul C dX0_buyBags_19 ?_
  refine v_bipush (v := 100) C dX0_buyBags_20 rfl ?_
  refine v_idiv C dX0_buyBags_22 (by decide) ?_
  refine v_top (fun x_1 ex_1 => ?_)
  refine v_istore_n (lv' := [(3, .int x_1), (2, .int 0), (0, .ref (rF P i)), (1, .ref (rN P j))]) C dX0_buyBags_23 rfl (by decide) rfl ?_
  have L_1 : ∀ (n : Nat) (v9 g9 : Nat → Int32), (v9 (16 + 0)).toNatClampNeg < n → V pg l en (rmO 1 0 0) sg mg ag bg mt cd P D (MQ bg (QcV P D (nW P) False (cw P (va_up N j (buyB v g).1) (va_up F i (buyB v g).2) T K A w)) ag sg 0 0 (aO P)) 4 (nW P) False (cw P (va_up N j (bagL n x_1 0 v9 g9).1) (va_up F i (bagL n x_1 0 v9 g9).2) T K A w) 0 0 108 [(3, .int x_1), (2, .int 0), (0, .ref (rF P i)), (1, .ref (rN P j))] [] → V pg l en (rmO 1 0 0) sg mg ag bg mt cd P D (MQ bg (QcV P D (nW P) False (cw P (va_up N j (buyB v g).1) (va_up F i (buyB v g).2) T K A w)) ag sg 0 0 (aO P)) 4 (nW P) False (cw P (va_up N j v9) (va_up F i g9) T K A w) 0 0 24 [(3, .int x_1), (2, .int 0), (0, .ref (rF P i)), (1, .ref (rN P j))] [] := by
    intro n
    induction n with
    | zero => intro v9 g9 h9; exact absurd h9 (Nat.not_lt_zero _)
    | succ n ih =>
      intro v9 g9 h9 hk9
      refine v_aload_n C 3 dX0_buyBags_24 rfl ?_
      refine v_gNN C hj 13 (by decide) (List.mem_of_getElem? (i := 11) rfl) rfl dX0_buyBags_25 ?_
      refine v_iload_n C 1 dX0_buyBags_28 rfl ?_
      refine v_ldBk C 0 hj tn_0 in4_0 dX0_buyBags_29 ?_
      refine v_if_le (tgt := 108) C dX0_buyBags_30 (by decide) (fun h30_1 => ?_) (fun h30_1 => ?_)
      · have e9 : bagL (n + 1) x_1 0 v9 g9 = (v9, g9) := by rw [bagL, if_pos (by exact h30_1)]
        rw [e9] at hk9
        exact hk9
      · refine v_aload_n C 2 dX0_buyBags_33 rfl ?_
        refine v_gF C hi 1 (by decide) k_386 rfl dX0_buyBags_34 ?_
        refine v_iload_n C 0 dX0_buyBags_37 rfl ?_
        refine v_icmp_lt (tgt := 108) C dX0_buyBags_38 (by decide) (fun h38_1 => ?_) (fun h38_1 => ?_)
        · have e9 : bagL (n + 1) x_1 0 v9 g9 = (v9, g9) := by rw [bagL, if_neg (by exact h30_1), if_pos (by exact h38_1)]
          rw [e9] at hk9
          exact hk9
        · refine v_aload_n C 3 dX0_buyBags_41 rfl ?_
          refine v_gNN C hj 13 (by decide) (List.mem_of_getElem? (i := 11) rfl) rfl dX0_buyBags_42 ?_
          refine v_iload_n C 1 dX0_buyBags_45 rfl ?_
          refine v_dup2 C dX0_buyBags_46 rfl rfl ?_
          refine v_ldBk C 0 hj tn_0 in4_0 dX0_buyBags_47 ?_
          refine v_iconst (v := 1) C dX0_buyBags_48 rfl ?_
          refine v_isub C dX0_buyBags_49 ?_
          refine v_stBk C 0 hj tn_0 in4_0 dX0_buyBags_50 ?_
          refine v_aload_n C 3 dX0_buyBags_51 rfl ?_
          refine v_dup C dX0_buyBags_52 rfl ?_
          refine v_gNN C hj 7 (by decide) (List.mem_of_getElem? (i := 6) rfl) rfl dX0_buyBags_53 ?_
          refine v_iload_n C 0 dX0_buyBags_56 rfl ?_
          refine v_iadd C dX0_buyBags_57 ?_
          refine v_pNN C hj 7 (by decide) (List.mem_of_getElem? (i := 6) rfl) dX0_buyBags_58 ?_
          refine v_aload_n C 2 dX0_buyBags_61 rfl ?_
          refine v_dup C dX0_buyBags_62 rfl ?_
          refine v_gF C hi 1 (by decide) k_386 rfl dX0_buyBags_63 ?_
          refine v_iload_n C 0 dX0_buyBags_66 rfl ?_
          refine v_isub C dX0_buyBags_67 ?_
          refine v_pF C hi 1 (by decide) k_386 dX0_buyBags_68 ?_
          refine v_aload_n C 2 dX0_buyBags_71 rfl ?_
          refine v_dup C dX0_buyBags_72 rfl ?_
          refine v_gF C hi 3 (by decide) k_390 rfl dX0_buyBags_73 ?_
          refine v_iload_n C 0 dX0_buyBags_76 rfl ?_
          refine v_iadd C dX0_buyBags_77 ?_
          refine v_pF C hi 3 (by decide) k_390 dX0_buyBags_78 ?_
          refine v_aload_n C 2 dX0_buyBags_81 rfl ?_
          refine v_dup C dX0_buyBags_82 rfl ?_
          refine v_gF C hi 2 (by decide) k_388 rfl dX0_buyBags_83 ?_
          refine v_iconst (v := 1) C dX0_buyBags_86 rfl ?_
          refine v_iadd C dX0_buyBags_87 ?_
          refine v_pF C hi 2 (by decide) k_388 dX0_buyBags_88 ?_
          refine v_aload_n C 2 dX0_buyBags_91 rfl ?_
          refine v_dup C dX0_buyBags_92 rfl ?_
          refine v_gF C hi 5 (by decide) k_394 rfl dX0_buyBags_93 ?_
          refine v_gSN C 1 rfl (List.mem_of_getElem? (i := 23) rfl) dX0_buyBags_96 ?_
          refine v_iload_n C 1 dX0_buyBags_99 rfl ?_
          refine v_ldSk C 1 rfl 0 tn_0 in4_0 rfl dX0_buyBags_100 ?_
          refine v_iadd C dX0_buyBags_101 ?_
          refine v_pF C hi 5 (by decide) k_394 dX0_buyBags_102 ?_
          refine v_goto (tgt := 24) C dX0_buyBags_105 (by decide) ?_
          have e9 : bagL (n + 1) x_1 0 v9 g9 = bagL n x_1 0 (bag1 x_1 0 v9) (bag2 x_1 0 g9) := by rw [bagL, if_neg (by exact h30_1), if_neg (by exact h38_1)]
          rw [e9] at hk9
          refine v_eq (f' := (cw P (va_up N j (bag1 x_1 0 v9)) (va_up F i (bag2 x_1 0 g9)) T K A w)) rfl ?_
          exact ih (bag1 x_1 0 v9) (bag2 x_1 0 g9) (by rw [bag1_dec]; exact dec_lt h9 (by exact h30_1)) hk9
  refine L_1 ((v (16 + 0)).toNatClampNeg + 1) v g (Nat.lt_succ_self _) ?_
  rw [show bagL ((v (16 + 0)).toNatClampNeg + 1) x_1 0 v g = buyK 0 (v, g) by rw [ex_1]; rfl]
  obtain ⟨q1, hq1⟩ : ∃ q, q = buyK 0 (v, g) := ⟨_, rfl⟩
  rw [← hq1]
  refine v_iinc (b := 1) (lv' := [(2, .int 1), (3, .int x_1), (0, .ref (rF P i)), (1, .ref (rN P j))]) C 1 dX0_buyBags_108 rfl rfl (by decide) rfl ?_
  refine v_goto (tgt := 2) C dX0_buyBags_111 (by decide) ?_
  refine v_iload_n C 0 dX0_buyBags_2 rfl ?_
  refine v_iconst (v := 4) C dX0_buyBags_3 rfl ?_
  refine v_icmp_ge (tgt := 114) C dX0_buyBags_4 (by decide) (fun h9 => absurd h9 (by decide)) (fun _ => ?_)
  refine v_gSN C 1 rfl (List.mem_of_getElem? (i := 23) rfl) dX0_buyBags_7 ?_
  refine v_iload_n C 0 dX0_buyBags_10 rfl ?_
  refine v_ldSk C 1 rfl 1 tn_1 in4_1 rfl dX0_buyBags_11 ?_
  refine v_bipush (v := 100) C dX0_buyBags_12 rfl ?_
  refine v_aload_n C 2 dX0_buyBags_14 rfl ?_
  refine v_gF C hi 0 (by decide) k_383 rfl dX0_buyBags_15 ?_
  refine v_isub C dX0_buyBags_18 ?_
  refine v_imul C dX0_buyBags_19 ?_
  refine v_bipush (v := 100) C dX0_buyBags_20 rfl ?_
  refine v_idiv C dX0_buyBags_22 (by decide) ?_
  refine v_top (fun x_2 ex_2 => ?_)
  refine v_istore_n (lv' := [(3, .int x_2), (2, .int 1), (0, .ref (rF P i)), (1, .ref (rN P j))]) C dX0_buyBags_23 rfl (by decide) rfl ?_
  have L_2 : ∀ (n : Nat) (v9 g9 : Nat → Int32), (v9 (16 + 1)).toNatClampNeg < n → V pg l en (rmO 1 0 0) sg mg ag bg mt cd P D (MQ bg (QcV P D (nW P) False (cw P (va_up N j (buyB v g).1) (va_up F i (buyB v g).2) T K A w)) ag sg 0 0 (aO P)) 4 (nW P) False (cw P (va_up N j (bagL n x_2 1 v9 g9).1) (va_up F i (bagL n x_2 1 v9 g9).2) T K A w) 0 0 108 [(3, .int x_2), (2, .int 1), (0, .ref (rF P i)), (1, .ref (rN P j))] [] → V pg l en (rmO 1 0 0) sg mg ag bg mt cd P D (MQ bg (QcV P D (nW P) False (cw P (va_up N j (buyB v g).1) (va_up F i (buyB v g).2) T K A w)) ag sg 0 0 (aO P)) 4 (nW P) False (cw P (va_up N j v9) (va_up F i g9) T K A w) 0 0 24 [(3, .int x_2), (2, .int 1), (0, .ref (rF P i)), (1, .ref (rN P j))] [] := by
    intro n
    induction n with
    | zero => intro v9 g9 h9; exact absurd h9 (Nat.not_lt_zero _)
    | succ n ih =>
      intro v9 g9 h9 hk9
      refine v_aload_n C 3 dX0_buyBags_24 rfl ?_
      refine v_gNN C hj 13 (by decide) (List.mem_of_getElem? (i := 11) rfl) rfl dX0_buyBags_25 ?_
      refine v_iload_n C 1 dX0_buyBags_28 rfl ?_
      refine v_ldBk C 1 hj tn_1 in4_1 dX0_buyBags_29 ?_
      refine v_if_le (tgt := 108) C dX0_buyBags_30 (by decide) (fun h30_2 => ?_) (fun h30_2 => ?_)
      · have e9 : bagL (n + 1) x_2 1 v9 g9 = (v9, g9) := by rw [bagL, if_pos (by exact h30_2)]
        rw [e9] at hk9
        exact hk9
      · refine v_aload_n C 2 dX0_buyBags_33 rfl ?_
        refine v_gF C hi 1 (by decide) k_386 rfl dX0_buyBags_34 ?_
        refine v_iload_n C 0 dX0_buyBags_37 rfl ?_
        refine v_icmp_lt (tgt := 108) C dX0_buyBags_38 (by decide) (fun h38_2 => ?_) (fun h38_2 => ?_)
        · have e9 : bagL (n + 1) x_2 1 v9 g9 = (v9, g9) := by rw [bagL, if_neg (by exact h30_2), if_pos (by exact h38_2)]
          rw [e9] at hk9
          exact hk9
        · refine v_aload_n C 3 dX0_buyBags_41 rfl ?_
          refine v_gNN C hj 13 (by decide) (List.mem_of_getElem? (i := 11) rfl) rfl dX0_buyBags_42 ?_
          refine v_iload_n C 1 dX0_buyBags_45 rfl ?_
          refine v_dup2 C dX0_buyBags_46 rfl rfl ?_
          refine v_ldBk C 1 hj tn_1 in4_1 dX0_buyBags_47 ?_
          refine v_iconst (v := 1) C dX0_buyBags_48 rfl ?_
          refine v_isub C dX0_buyBags_49 ?_
          refine v_stBk C 1 hj tn_1 in4_1 dX0_buyBags_50 ?_
          refine v_aload_n C 3 dX0_buyBags_51 rfl ?_
          refine v_dup C dX0_buyBags_52 rfl ?_
          refine v_gNN C hj 7 (by decide) (List.mem_of_getElem? (i := 6) rfl) rfl dX0_buyBags_53 ?_
          refine v_iload_n C 0 dX0_buyBags_56 rfl ?_
          refine v_iadd C dX0_buyBags_57 ?_
          refine v_pNN C hj 7 (by decide) (List.mem_of_getElem? (i := 6) rfl) dX0_buyBags_58 ?_
          refine v_aload_n C 2 dX0_buyBags_61 rfl ?_
          refine v_dup C dX0_buyBags_62 rfl ?_
          refine v_gF C hi 1 (by decide) k_386 rfl dX0_buyBags_63 ?_
          refine v_iload_n C 0 dX0_buyBags_66 rfl ?_
          refine v_isub C dX0_buyBags_67 ?_
          refine v_pF C hi 1 (by decide) k_386 dX0_buyBags_68 ?_
          refine v_aload_n C 2 dX0_buyBags_71 rfl ?_
          refine v_dup C dX0_buyBags_72 rfl ?_
          refine v_gF C hi 3 (by decide) k_390 rfl dX0_buyBags_73 ?_
          refine v_iload_n C 0 dX0_buyBags_76 rfl ?_
          refine v_iadd C dX0_buyBags_77 ?_
          refine v_pF C hi 3 (by decide) k_390 dX0_buyBags_78 ?_
          refine v_aload_n C 2 dX0_buyBags_81 rfl ?_
          refine v_dup C dX0_buyBags_82 rfl ?_
          refine v_gF C hi 2 (by decide) k_388 rfl dX0_buyBags_83 ?_
          refine v_iconst (v := 1) C dX0_buyBags_86 rfl ?_
          refine v_iadd C dX0_buyBags_87 ?_
          refine v_pF C hi 2 (by decide) k_388 dX0_buyBags_88 ?_
          refine v_aload_n C 2 dX0_buyBags_91 rfl ?_
          refine v_dup C dX0_buyBags_92 rfl ?_
          refine v_gF C hi 5 (by decide) k_394 rfl dX0_buyBags_93 ?_
          refine v_gSN C 1 rfl (List.mem_of_getElem? (i := 23) rfl) dX0_buyBags_96 ?_
          refine v_iload_n C 1 dX0_buyBags_99 rfl ?_
          refine v_ldSk C 1 rfl 1 tn_1 in4_1 rfl dX0_buyBags_100 ?_
          refine v_iadd C dX0_buyBags_101 ?_
          refine v_pF C hi 5 (by decide) k_394 dX0_buyBags_102 ?_
          refine v_goto (tgt := 24) C dX0_buyBags_105 (by decide) ?_
          have e9 : bagL (n + 1) x_2 1 v9 g9 = bagL n x_2 1 (bag1 x_2 1 v9) (bag2 x_2 1 g9) := by rw [bagL, if_neg (by exact h30_2), if_neg (by exact h38_2)]
          rw [e9] at hk9
          refine v_eq (f' := (cw P (va_up N j (bag1 x_2 1 v9)) (va_up F i (bag2 x_2 1 g9)) T K A w)) rfl ?_
          exact ih (bag1 x_2 1 v9) (bag2 x_2 1 g9) (by rw [bag1_dec]; exact dec_lt h9 (by exact h30_2)) hk9
  refine L_2 ((q1.1 (16 + 1)).toNatClampNeg + 1) q1.1 q1.2 (Nat.lt_succ_self _) ?_
  rw [show bagL ((q1.1 (16 + 1)).toNatClampNeg + 1) x_2 1 q1.1 q1.2 = buyK 1 q1 by rw [ex_2]; rfl]
  obtain ⟨q2, hq2⟩ : ∃ q, q = buyK 1 q1 := ⟨_, rfl⟩
  rw [← hq2]
  refine v_iinc (b := 2) (lv' := [(2, .int 2), (3, .int x_2), (0, .ref (rF P i)), (1, .ref (rN P j))]) C 1 dX0_buyBags_108 rfl rfl (by decide) rfl ?_
  refine v_goto (tgt := 2) C dX0_buyBags_111 (by decide) ?_
  refine v_iload_n C 0 dX0_buyBags_2 rfl ?_
  refine v_iconst (v := 4) C dX0_buyBags_3 rfl ?_
  refine v_icmp_ge (tgt := 114) C dX0_buyBags_4 (by decide) (fun h9 => absurd h9 (by decide)) (fun _ => ?_)
  refine v_gSN C 1 rfl (List.mem_of_getElem? (i := 23) rfl) dX0_buyBags_7 ?_
  refine v_iload_n C 0 dX0_buyBags_10 rfl ?_
  refine v_ldSk C 1 rfl 2 tn_2 in4_2 rfl dX0_buyBags_11 ?_
  refine v_bipush (v := 100) C dX0_buyBags_12 rfl ?_
  refine v_aload_n C 2 dX0_buyBags_14 rfl ?_
  refine v_gF C hi 0 (by decide) k_383 rfl dX0_buyBags_15 ?_
  refine v_isub C dX0_buyBags_18 ?_
  refine v_imul C dX0_buyBags_19 ?_
  refine v_bipush (v := 100) C dX0_buyBags_20 rfl ?_
  refine v_idiv C dX0_buyBags_22 (by decide) ?_
  refine v_top (fun x_3 ex_3 => ?_)
  refine v_istore_n (lv' := [(3, .int x_3), (2, .int 2), (0, .ref (rF P i)), (1, .ref (rN P j))]) C dX0_buyBags_23 rfl (by decide) rfl ?_
  have L_3 : ∀ (n : Nat) (v9 g9 : Nat → Int32), (v9 (16 + 2)).toNatClampNeg < n → V pg l en (rmO 1 0 0) sg mg ag bg mt cd P D (MQ bg (QcV P D (nW P) False (cw P (va_up N j (buyB v g).1) (va_up F i (buyB v g).2) T K A w)) ag sg 0 0 (aO P)) 4 (nW P) False (cw P (va_up N j (bagL n x_3 2 v9 g9).1) (va_up F i (bagL n x_3 2 v9 g9).2) T K A w) 0 0 108 [(3, .int x_3), (2, .int 2), (0, .ref (rF P i)), (1, .ref (rN P j))] [] → V pg l en (rmO 1 0 0) sg mg ag bg mt cd P D (MQ bg (QcV P D (nW P) False (cw P (va_up N j (buyB v g).1) (va_up F i (buyB v g).2) T K A w)) ag sg 0 0 (aO P)) 4 (nW P) False (cw P (va_up N j v9) (va_up F i g9) T K A w) 0 0 24 [(3, .int x_3), (2, .int 2), (0, .ref (rF P i)), (1, .ref (rN P j))] [] := by
    intro n
    induction n with
    | zero => intro v9 g9 h9; exact absurd h9 (Nat.not_lt_zero _)
    | succ n ih =>
      intro v9 g9 h9 hk9
      refine v_aload_n C 3 dX0_buyBags_24 rfl ?_
      refine v_gNN C hj 13 (by decide) (List.mem_of_getElem? (i := 11) rfl) rfl dX0_buyBags_25 ?_
      refine v_iload_n C 1 dX0_buyBags_28 rfl ?_
      refine v_ldBk C 2 hj tn_2 in4_2 dX0_buyBags_29 ?_
      refine v_if_le (tgt := 108) C dX0_buyBags_30 (by decide) (fun h30_3 => ?_) (fun h30_3 => ?_)
      · have e9 : bagL (n + 1) x_3 2 v9 g9 = (v9, g9) := by rw [bagL, if_pos (by exact h30_3)]
        rw [e9] at hk9
        exact hk9
      · refine v_aload_n C 2 dX0_buyBags_33 rfl ?_
        refine v_gF C hi 1 (by decide) k_386 rfl dX0_buyBags_34 ?_
        refine v_iload_n C 0 dX0_buyBags_37 rfl ?_
        refine v_icmp_lt (tgt := 108) C dX0_buyBags_38 (by decide) (fun h38_3 => ?_) (fun h38_3 => ?_)
        · have e9 : bagL (n + 1) x_3 2 v9 g9 = (v9, g9) := by rw [bagL, if_neg (by exact h30_3), if_pos (by exact h38_3)]
          rw [e9] at hk9
          exact hk9
        · refine v_aload_n C 3 dX0_buyBags_41 rfl ?_
          refine v_gNN C hj 13 (by decide) (List.mem_of_getElem? (i := 11) rfl) rfl dX0_buyBags_42 ?_
          refine v_iload_n C 1 dX0_buyBags_45 rfl ?_
          refine v_dup2 C dX0_buyBags_46 rfl rfl ?_
          refine v_ldBk C 2 hj tn_2 in4_2 dX0_buyBags_47 ?_
          refine v_iconst (v := 1) C dX0_buyBags_48 rfl ?_
          refine v_isub C dX0_buyBags_49 ?_
          refine v_stBk C 2 hj tn_2 in4_2 dX0_buyBags_50 ?_
          refine v_aload_n C 3 dX0_buyBags_51 rfl ?_
          refine v_dup C dX0_buyBags_52 rfl ?_
          refine v_gNN C hj 7 (by decide) (List.mem_of_getElem? (i := 6) rfl) rfl dX0_buyBags_53 ?_
          refine v_iload_n C 0 dX0_buyBags_56 rfl ?_
          refine v_iadd C dX0_buyBags_57 ?_
          refine v_pNN C hj 7 (by decide) (List.mem_of_getElem? (i := 6) rfl) dX0_buyBags_58 ?_
          refine v_aload_n C 2 dX0_buyBags_61 rfl ?_
          refine v_dup C dX0_buyBags_62 rfl ?_
          refine v_gF C hi 1 (by decide) k_386 rfl dX0_buyBags_63 ?_
          refine v_iload_n C 0 dX0_buyBags_66 rfl ?_
          refine v_isub C dX0_buyBags_67 ?_
          refine v_pF C hi 1 (by decide) k_386 dX0_buyBags_68 ?_
          refine v_aload_n C 2 dX0_buyBags_71 rfl ?_
          refine v_dup C dX0_buyBags_72 rfl ?_
          refine v_gF C hi 3 (by decide) k_390 rfl dX0_buyBags_73 ?_
          refine v_iload_n C 0 dX0_buyBags_76 rfl ?_
          refine v_iadd C dX0_buyBags_77 ?_
          refine v_pF C hi 3 (by decide) k_390 dX0_buyBags_78 ?_
          refine v_aload_n C 2 dX0_buyBags_81 rfl ?_
          refine v_dup C dX0_buyBags_82 rfl ?_
          refine v_gF C hi 2 (by decide) k_388 rfl dX0_buyBags_83 ?_
          refine v_iconst (v := 1) C dX0_buyBags_86 rfl ?_
          refine v_iadd C dX0_buyBags_87 ?_
          refine v_pF C hi 2 (by decide) k_388 dX0_buyBags_88 ?_
          refine v_aload_n C 2 dX0_buyBags_91 rfl ?_
          refine v_dup C dX0_buyBags_92 rfl ?_
          refine v_gF C hi 5 (by decide) k_394 rfl dX0_buyBags_93 ?_
          refine v_gSN C 1 rfl (List.mem_of_getElem? (i := 23) rfl) dX0_buyBags_96 ?_
          refine v_iload_n C 1 dX0_buyBags_99 rfl ?_
          refine v_ldSk C 1 rfl 2 tn_2 in4_2 rfl dX0_buyBags_100 ?_
          refine v_iadd C dX0_buyBags_101 ?_
          refine v_pF C hi 5 (by decide) k_394 dX0_buyBags_102 ?_
          refine v_goto (tgt := 24) C dX0_buyBags_105 (by decide) ?_
          have e9 : bagL (n + 1) x_3 2 v9 g9 = bagL n x_3 2 (bag1 x_3 2 v9) (bag2 x_3 2 g9) := by rw [bagL, if_neg (by exact h30_3), if_neg (by exact h38_3)]
          rw [e9] at hk9
          refine v_eq (f' := (cw P (va_up N j (bag1 x_3 2 v9)) (va_up F i (bag2 x_3 2 g9)) T K A w)) rfl ?_
          exact ih (bag1 x_3 2 v9) (bag2 x_3 2 g9) (by rw [bag1_dec]; exact dec_lt h9 (by exact h30_3)) hk9
  refine L_3 ((q2.1 (16 + 2)).toNatClampNeg + 1) q2.1 q2.2 (Nat.lt_succ_self _) ?_
  rw [show bagL ((q2.1 (16 + 2)).toNatClampNeg + 1) x_3 2 q2.1 q2.2 = buyK 2 q2 by rw [ex_3]; rfl]
  obtain ⟨q3, hq3⟩ : ∃ q, q = buyK 2 q2 := ⟨_, rfl⟩
  rw [← hq3]
  refine v_iinc (b := 3) (lv' := [(2, .int 3), (3, .int x_3), (0, .ref (rF P i)), (1, .ref (rN P j))]) C 1 dX0_buyBags_108 rfl rfl (by decide) rfl ?_
  refine v_goto (tgt := 2) C dX0_buyBags_111 (by decide) ?_
  refine v_iload_n C 0 dX0_buyBags_2 rfl ?_
  refine v_iconst (v := 4) C dX0_buyBags_3 rfl ?_
  refine v_icmp_ge (tgt := 114) C dX0_buyBags_4 (by decide) (fun h9 => absurd h9 (by decide)) (fun _ => ?_)
  refine v_gSN C 1 rfl (List.mem_of_getElem? (i := 23) rfl) dX0_buyBags_7 ?_
  refine v_iload_n C 0 dX0_buyBags_10 rfl ?_
  refine v_ldSk C 1 rfl 3 tn_3 in4_3 rfl dX0_buyBags_11 ?_
  refine v_bipush (v := 100) C dX0_buyBags_12 rfl ?_
  refine v_aload_n C 2 dX0_buyBags_14 rfl ?_
  refine v_gF C hi 0 (by decide) k_383 rfl dX0_buyBags_15 ?_
  refine v_isub C dX0_buyBags_18 ?_
  refine v_imul C dX0_buyBags_19 ?_
  refine v_bipush (v := 100) C dX0_buyBags_20 rfl ?_
  refine v_idiv C dX0_buyBags_22 (by decide) ?_
  refine v_top (fun x_4 ex_4 => ?_)
  refine v_istore_n (lv' := [(3, .int x_4), (2, .int 3), (0, .ref (rF P i)), (1, .ref (rN P j))]) C dX0_buyBags_23 rfl (by decide) rfl ?_
  have L_4 : ∀ (n : Nat) (v9 g9 : Nat → Int32), (v9 (16 + 3)).toNatClampNeg < n → V pg l en (rmO 1 0 0) sg mg ag bg mt cd P D (MQ bg (QcV P D (nW P) False (cw P (va_up N j (buyB v g).1) (va_up F i (buyB v g).2) T K A w)) ag sg 0 0 (aO P)) 4 (nW P) False (cw P (va_up N j (bagL n x_4 3 v9 g9).1) (va_up F i (bagL n x_4 3 v9 g9).2) T K A w) 0 0 108 [(3, .int x_4), (2, .int 3), (0, .ref (rF P i)), (1, .ref (rN P j))] [] → V pg l en (rmO 1 0 0) sg mg ag bg mt cd P D (MQ bg (QcV P D (nW P) False (cw P (va_up N j (buyB v g).1) (va_up F i (buyB v g).2) T K A w)) ag sg 0 0 (aO P)) 4 (nW P) False (cw P (va_up N j v9) (va_up F i g9) T K A w) 0 0 24 [(3, .int x_4), (2, .int 3), (0, .ref (rF P i)), (1, .ref (rN P j))] [] := by
    intro n
    induction n with
    | zero => intro v9 g9 h9; exact absurd h9 (Nat.not_lt_zero _)
    | succ n ih =>
      intro v9 g9 h9 hk9
      refine v_aload_n C 3 dX0_buyBags_24 rfl ?_
      refine v_gNN C hj 13 (by decide) (List.mem_of_getElem? (i := 11) rfl) rfl dX0_buyBags_25 ?_
      refine v_iload_n C 1 dX0_buyBags_28 rfl ?_
      refine v_ldBk C 3 hj tn_3 in4_3 dX0_buyBags_29 ?_
      refine v_if_le (tgt := 108) C dX0_buyBags_30 (by decide) (fun h30_4 => ?_) (fun h30_4 => ?_)
      · have e9 : bagL (n + 1) x_4 3 v9 g9 = (v9, g9) := by rw [bagL, if_pos (by exact h30_4)]
        rw [e9] at hk9
        exact hk9
      · refine v_aload_n C 2 dX0_buyBags_33 rfl ?_
        refine v_gF C hi 1 (by decide) k_386 rfl dX0_buyBags_34 ?_
        refine v_iload_n C 0 dX0_buyBags_37 rfl ?_
        refine v_icmp_lt (tgt := 108) C dX0_buyBags_38 (by decide) (fun h38_4 => ?_) (fun h38_4 => ?_)
        · have e9 : bagL (n + 1) x_4 3 v9 g9 = (v9, g9) := by rw [bagL, if_neg (by exact h30_4), if_pos (by exact h38_4)]
          rw [e9] at hk9
          exact hk9
        · refine v_aload_n C 3 dX0_buyBags_41 rfl ?_
          refine v_gNN C hj 13 (by decide) (List.mem_of_getElem? (i := 11) rfl) rfl dX0_buyBags_42 ?_
          refine v_iload_n C 1 dX0_buyBags_45 rfl ?_
          refine v_dup2 C dX0_buyBags_46 rfl rfl ?_
          refine v_ldBk C 3 hj tn_3 in4_3 dX0_buyBags_47 ?_
          refine v_iconst (v := 1) C dX0_buyBags_48 rfl ?_
          refine v_isub C dX0_buyBags_49 ?_
          refine v_stBk C 3 hj tn_3 in4_3 dX0_buyBags_50 ?_
          refine v_aload_n C 3 dX0_buyBags_51 rfl ?_
          refine v_dup C dX0_buyBags_52 rfl ?_
          refine v_gNN C hj 7 (by decide) (List.mem_of_getElem? (i := 6) rfl) rfl dX0_buyBags_53 ?_
          refine v_iload_n C 0 dX0_buyBags_56 rfl ?_
          refine v_iadd C dX0_buyBags_57 ?_
          refine v_pNN C hj 7 (by decide) (List.mem_of_getElem? (i := 6) rfl) dX0_buyBags_58 ?_
          refine v_aload_n C 2 dX0_buyBags_61 rfl ?_
          refine v_dup C dX0_buyBags_62 rfl ?_
          refine v_gF C hi 1 (by decide) k_386 rfl dX0_buyBags_63 ?_
          refine v_iload_n C 0 dX0_buyBags_66 rfl ?_
          refine v_isub C dX0_buyBags_67 ?_
          refine v_pF C hi 1 (by decide) k_386 dX0_buyBags_68 ?_
          refine v_aload_n C 2 dX0_buyBags_71 rfl ?_
          refine v_dup C dX0_buyBags_72 rfl ?_
          refine v_gF C hi 3 (by decide) k_390 rfl dX0_buyBags_73 ?_
          refine v_iload_n C 0 dX0_buyBags_76 rfl ?_
          refine v_iadd C dX0_buyBags_77 ?_
          refine v_pF C hi 3 (by decide) k_390 dX0_buyBags_78 ?_
          refine v_aload_n C 2 dX0_buyBags_81 rfl ?_
          refine v_dup C dX0_buyBags_82 rfl ?_
          refine v_gF C hi 2 (by decide) k_388 rfl dX0_buyBags_83 ?_
          refine v_iconst (v := 1) C dX0_buyBags_86 rfl ?_
          refine v_iadd C dX0_buyBags_87 ?_
          refine v_pF C hi 2 (by decide) k_388 dX0_buyBags_88 ?_
          refine v_aload_n C 2 dX0_buyBags_91 rfl ?_
          refine v_dup C dX0_buyBags_92 rfl ?_
          refine v_gF C hi 5 (by decide) k_394 rfl dX0_buyBags_93 ?_
          refine v_gSN C 1 rfl (List.mem_of_getElem? (i := 23) rfl) dX0_buyBags_96 ?_
          refine v_iload_n C 1 dX0_buyBags_99 rfl ?_
          refine v_ldSk C 1 rfl 3 tn_3 in4_3 rfl dX0_buyBags_100 ?_
          refine v_iadd C dX0_buyBags_101 ?_
          refine v_pF C hi 5 (by decide) k_394 dX0_buyBags_102 ?_
          refine v_goto (tgt := 24) C dX0_buyBags_105 (by decide) ?_
          have e9 : bagL (n + 1) x_4 3 v9 g9 = bagL n x_4 3 (bag1 x_4 3 v9) (bag2 x_4 3 g9) := by rw [bagL, if_neg (by exact h30_4), if_neg (by exact h38_4)]
          rw [e9] at hk9
          refine v_eq (f' := (cw P (va_up N j (bag1 x_4 3 v9)) (va_up F i (bag2 x_4 3 g9)) T K A w)) rfl ?_
          exact ih (bag1 x_4 3 v9) (bag2 x_4 3 g9) (by rw [bag1_dec]; exact dec_lt h9 (by exact h30_4)) hk9
  refine L_4 ((q3.1 (16 + 3)).toNatClampNeg + 1) q3.1 q3.2 (Nat.lt_succ_self _) ?_
  rw [show bagL ((q3.1 (16 + 3)).toNatClampNeg + 1) x_4 3 q3.1 q3.2 = buyK 3 q3 by rw [ex_4]; rfl]
  obtain ⟨q4, hq4⟩ : ∃ q, q = buyK 3 q3 := ⟨_, rfl⟩
  rw [← hq4]
  refine v_iinc (b := 4) (lv' := [(2, .int 4), (3, .int x_4), (0, .ref (rF P i)), (1, .ref (rN P j))]) C 1 dX0_buyBags_108 rfl rfl (by decide) rfl ?_
  refine v_goto (tgt := 2) C dX0_buyBags_111 (by decide) ?_
  refine v_iload_n C 0 dX0_buyBags_2 rfl ?_
  refine v_iconst (v := 4) C dX0_buyBags_3 rfl ?_
  refine v_icmp_ge (tgt := 114) C dX0_buyBags_4 (by decide) (fun _ => ?_) (fun h9 => absurd (by decide) h9)
  exact v_vret C dX0_buyBags_114 (by rw [hq4, hq3, hq2, hq1]; rfl)
end
section
/-! THE CLASS TRADE: rows, pure functions, the nailers' and foggers' contracts over a world that is not turned to them -/
section VHeap3
variable {p : Program} {l : Launch} {e : Env} {R : Room} {s : State} {m : MethodId} {args : Array Value} {below : List Frame} {meth : Method} {c : Code} {P : L5} {D : va_G} {Q : State → Prop} {nL k z pc : Nat} {lv : List (Nat × Value)} {st : List Value} {cc : ByteArray} {ret : Option FieldType} {own : String}
variable {N F T : Nat → Nat → Int32} {K : Nat → Int32} {A : Nat → Nat → Int32} {w : Int64}
theorem v_aaNk (C : Cx p l s m args meth c P D cc nL ret own) {t : Nat} (i9 : Nat) (ht : t < 2) {i : Int32} (hi : i.toNatClampNeg = i9) (hin : vp_in i 12) (hdg : decode cc pc = .ok (.aaload, 1)) (kk : V p l e R s m args below meth c P D Q nL (nW P) False (cw P N F T K A w) k z (pc + 1) lv (.ref (rN P (12 * t + i9)) :: st)) : V p l e R s m args below meth c P D Q nL (nW P) False (cw P N F T K A w) k z pc lv (.int i :: .ref (rNA P t) :: st) := by subst hi; exact v_aaN C ht hin hdg kk
theorem v_aaFk (C : Cx p l s m args meth c P D cc nL ret own) {t : Nat} (i9 : Nat) (ht : t < 2) {i : Int32} (hi : i.toNatClampNeg = i9) (hin : vp_in i 4) (hdg : decode cc pc = .ok (.aaload, 1)) (kk : V p l e R s m args below meth c P D Q nL (nW P) False (cw P N F T K A w) k z (pc + 1) lv (.ref (rF P (4 * t + i9)) :: st)) : V p l e R s m args below meth c P D Q nL (nW P) False (cw P N F T K A w) k z pc lv (.int i :: .ref (rFA P t) :: st) := by subst hi; exact v_aaF C ht hin hdg kk
end VHeap3
section VU
variable {l : Launch} {P : L5} {D : va_G} {N F T : Nat → Nat → Int32} {K : Nat → Int32} {A : Nat → Nat → Int32} {w : Int64}
theorem u_X1_workHour {j : Nat} (hj : j < 25) (hk : vp_in (N j 1) 4) : CtI l yX1_workHour cX1_workHour 3 .int 3 0 0 P D (nW P) (nW P) False (cw P N F T K A w) (cw P (va_up N j (workH (N j)).1) F T K A w) [.ref (rN P j)] (workH (N j)).2 := by
  have h := c_X1_workHour (l := l) (P := P) (D := D) (N := N) (F := F) (T := T) (K := K) (A := A) (w := w) hj hk
  rwa [va_up_eta] at h
theorem u_X1_workHours {j : Nat} (hj : j < 25) (hk : vp_in (N j 1) 4) {h : Int32} : CtI l yX1_workHours cX1_workHours 4 .int 4 0 0 P D (nW P) (nW P) False (cw P N F T K A w) (cw P (va_up N j (wHl (fuel h 0) h 0 (N j) 0).1) F T K A w) [.ref (rN P j), .int h] (wHl (fuel h 0) h 0 (N j) 0).2 := by
  have h := c_X1_workHours (l := l) (P := P) (D := D) (N := N) (F := F) (T := T) (K := K) (A := A) (w := w) hj hk (h := h)
  rwa [va_up_eta] at h
theorem u_X1_copyFrom {j i : Nat} (hj : j < 25) (hi : i < 25) (hne : i ≠ j) : CtV l yX1_copyFrom cX1_copyFrom 3 1 0 0 P D (nW P) (nW P) False (cw P N F T K A w) (cw P (va_up N j (N i)) F T K A w) [.ref (rN P j), .ref (rN P i)] := by
  have h := c_X1_copyFrom (l := l) (P := P) (D := D) (N := N) (F := F) (T := T) (K := K) (A := A) (w := w) (v := N j) hj hi hne
  rwa [va_up_eta] at h
theorem u_X1_begin {j : Nat} (hj : j < 25) {a b d : Int32} : CtV l yX1_begin cX1_begin 4 1 0 0 P D (nW P) (nW P) False (cw P N F T K A w) (cw P (va_up N j (upd (upd (upd (N j) 0 a) 1 b) 2 d)) F T K A w) [.ref (rN P j), .int a, .int b, .int d] := by
  have h := c_X1_begin (l := l) (P := P) (D := D) (N := N) (F := F) (T := T) (K := K) (A := A) (w := w) (v := N j) hj (a := a) (b := b) (d := d)
  rwa [va_up_eta] at h
theorem u_X0_copyFrom {i j : Nat} (hi : i < 8) (hj : j < 8) (hne : j ≠ i) : CtV l yX0_copyFrom cX0_copyFrom 2 1 0 0 P D (nW P) (nW P) False (cw P N F T K A w) (cw P N (va_up F i (F j)) T K A w) [.ref (rF P i), .ref (rF P j)] := by
  have h := c_X0_copyFrom (l := l) (P := P) (D := D) (N := N) (F := F) (T := T) (K := K) (A := A) (w := w) (g := F i) hi hj hne
  rwa [va_up_eta] at h
theorem u_X0_deliver {i : Nat} (hi : i < 8) : CtV l yX0_deliver cX0_deliver 1 1 0 0 P D (nW P) (nW P) False (cw P N F T K A w) (cw P N (va_up F i (dlv (F i))) T K A w) [.ref (rF P i)] := by
  have h := c_X0_deliver (l := l) (P := P) (D := D) (N := N) (F := F) (T := T) (K := K) (A := A) (w := w) (g := F i) hi
  rwa [va_up_eta] at h
theorem u_X0_buyBags {i j : Nat} (hi : i < 8) (hj : j < 25) : CtV l yX0_buyBags cX0_buyBags 4 1 0 0 P D (nW P) (nW P) False (cw P N F T K A w) (cw P (va_up N j (buyB (N j) (F i)).1) (va_up F i (buyB (N j) (F i)).2) T K A w) [.ref (rF P i), .ref (rN P j)] := by
  have h := c_X0_buyBags (l := l) (P := P) (D := D) (N := N) (F := F) (T := T) (K := K) (A := A) (w := w) (g := F i) (v := N j) hi hj
  rwa [va_up_eta, va_up_eta] at h
end VU
def goN : Nat → Nat → Nat → Nat → (Nat → Nat → Int32) → Int32 → (Nat → Nat → Int32) × Int32
  | 0, _, _, _, N, sm => (N, sm)
  | n + 1, c, b, i, N, sm => if c ≤ i then (N, sm) else goN n c b (i + 1) (va_up N (b + i) (workH (N (b + i))).1) (sm + (workH (N (b + i))).2)
def rk1 (N F : Nat → Nat → Int32) (j i : Nat) : (Nat → Nat → Int32) × (Nat → Nat → Int32) := (va_up N j (colV (buyB (N j) (F i)).1), va_up F i (colG (buyB (N j) (F i)).1 (buyB (N j) (F i)).2))
def rkN : Nat → Nat → Nat → Nat → Nat → (Nat → Nat → Int32) → (Nat → Nat → Int32) → (Nat → Nat → Int32) × (Nat → Nat → Int32)
  | 0, _, _, _, _, N, F => (N, F)
  | n + 1, c, b, fb, i, N, F => if c ≤ i then (N, F) else rkN n c b fb (i + 1) (rk1 N F (b + i) (fb + (N (b + i) 2).toNatClampNeg)).1 (rk1 N F (b + i) (fb + (N (b + i) 2).toNatClampNeg)).2
def dl1 (F : Nat → Nat → Int32) (i : Nat) : Nat → Nat → Int32 := va_up F i (dlv (F i))
def dl4 (F : Nat → Nat → Int32) (fb : Nat) : Nat → Nat → Int32 := dl1 (dl1 (dl1 (dl1 F (fb + 0)) (fb + 1)) (fb + 2)) (fb + 3)
def weekR (c b fb : Nat) (N F : Nat → Nat → Int32) : (Nat → Nat → Int32) × (Nat → Nat → Int32) := ((rkN (c + 1) c b fb 0 N F).1, dl4 (rkN (c + 1) c b fb 0 N F).2 fb)
/-- an hour: nailers, foggers, and the good nails -/
def hourN (c b fb : Nat) (now : Int32) (N F : Nat → Nat → Int32) : (Nat → Nat → Int32) × (Nat → Nat → Int32) := if now - now / 48 * 48 = 47 then weekR c b fb (goN (c + 1) c b 0 N 0).1 F else ((goN (c + 1) c b 0 N 0).1, F)
def hourG (c b : Nat) (N : Nat → Nat → Int32) : Int32 := (goN (c + 1) c b 0 N 0).2
def hourT (T : Nat → Nat → Int32) (t : Nat) : Nat → Nat → Int32 := va_up T t (upd (T t) 0 (T t 0 + 1))
def goB : Nat → Int32 → Int32 → Nat → Nat → (Nat → Nat → Int32) → (Nat → Nat → Int32) → (Nat → Nat → Int32) → Int32 → (Nat → Nat → Int32) × (Nat → Nat → Int32) × (Nat → Nat → Int32) × Int32
  | 0, _, _, _, _, N, F, T, sm => (N, F, T, sm)
  | n + 1, h, i, c, t, N, F, T, sm => if h ≤ i then (N, F, T, sm) else goB n h (i + 1) c t (hourN c (12 * t) (4 * t) (T t 0) N F).1 (hourN c (12 * t) (4 * t) (T t 0) N F).2 (hourT T t) (sm + hourG c (12 * t) N)
def cpN : Nat → Nat → Nat → Nat → Nat → (Nat → Nat → Int32) → Nat → Nat → Int32
  | 0, _, _, _, _, N => N
  | n + 1, c, b, d, i, N => if c ≤ i then N else cpN n c b d (i + 1) (va_up N (b + i) (N (d + i)))
def cp1 (F : Nat → Nat → Int32) (i j : Nat) : Nat → Nat → Int32 := va_up F i (F j)
def cp4 (F : Nat → Nat → Int32) (b d : Nat) : Nat → Nat → Int32 := cp1 (cp1 (cp1 (cp1 F (b + 0) (d + 0)) (b + 1) (d + 1)) (b + 2) (d + 2)) (b + 3) (d + 3)
def shS : Nat → Nat → Nat → Nat → Nat → (Nat → Nat → Int32) → Int32 → Int32
  | 0, _, _, _, _, _, sm => sm
  | n + 1, k, c, b, i, N, sm => if c ≤ i then sm else shS n k c b (i + 1) N (sm + share (N (b + i)) k)
def wkF : Nat → Int32 → Nat → Nat → Nat → (Nat → Nat → Int32) → Int32 → Int32
  | 0, _, _, _, _, _, sm => sm
  | n + 1, q, c, b, i, N, sm => if c ≤ i then sm else wkF n q c b (i + 1) N (if N (b + i) 2 = q then sm + 1 else sm)
def boughtF (F : Nat → Nat → Int32) (fb : Nat) : Int32 := 0 + F (fb + 0) 2 + F (fb + 1) 2 + F (fb + 2) 2 + F (fb + 3) 2
def totN (N F T : Nat → Nat → Int32) (t c k : Nat) : Int32 := if k = 0 then T t 0 else if k = 1 then T t 1 else if k = 6 then boughtF F (4 * t) else shS (c + 1) k c (12 * t) 0 N 0
def fogN (N F : Nat → Nat → Int32) (t c : Nat) (q : Int32) (k : Nat) : Int32 :=
  if k = 0 then F (4 * t + q.toNatClampNeg) 0 else if k = 1 then F (4 * t + q.toNatClampNeg) 1 else if k = 2 then wkF (c + 1) q c (12 * t) 0 N 0 else if k = 3 then F (4 * t + q.toNatClampNeg) 2 else if k = 4 then F (4 * t + q.toNatClampNeg) 3 else F (4 * t + q.toNatClampNeg) 4 - F (4 * t + q.toNatClampNeg) 3
/-- kinds and foggers of the nailers -/
def KF (N : Nat → Nat → Int32) (b c : Nat) : Prop := ∀ k, k < c → vp_in (N (b + k) 1) 4 ∧ vp_in (N (b + k) 2) 4
theorem leC {a : Int32} {c i : Nat} (hc : a = nI c) (h12 : c ≤ 12) (hi : i ≤ c) : a ≤ nI i ↔ c ≤ i := by
  rw [hc]
  exact nI_leI (by omega) (by omega)
theorem tend_2 (v : Nat → Int32) : tend v 2 = v 2 := by unfold tend; split <;> rfl
theorem hlp_2 : ∀ (n : Nat) (most : Int32) (v : Nat → Int32) (hd : Int32), (hlp n most v hd).1 2 = v 2
  | 0, _, _, _ => rfl
  | n + 1, most, v, hd => by
    unfold hlp
    split
    · rfl
    · split
      · rfl
      · rw [hlp_2 n]; rfl
theorem head_2 (v : Nat → Int32) (a : Int32) : (head v a).1 2 = v 2 := by unfold head; rw [hlp_2]; rfl
theorem store_2 (v : Nat → Int32) (a : Int32) : store v a 2 = v 2 := by
  unfold store
  rw [upd_ge (by omega)]
  unfold sto3
  rw [upd_ge (by omega)]
  unfold sto2
  rw [upd_ge (by omega)]
  rfl
theorem workH_2 (v : Nat → Int32) : (workH v).1 2 = v 2 := by
  unfold workH
  split
  · simp only [workB, store_2]
    rw [upd_ge (by omega), head_2, tend_2]
  · exact tend_2 v
theorem bagL_k {k t : Nat} (hk : k < 3) : ∀ (n : Nat) (pr : Int32) (v g : Nat → Int32), (bagL n pr t v g).1 k = v k
  | 0, _, _, _ => rfl
  | n + 1, pr, v, g => by
    unfold bagL
    split
    · rfl
    · split
      · rfl
      · rw [bagL_k hk n]
        unfold bag1
        rw [upd_ge (by omega), upd_ge (by omega)]
theorem buyB_k {k : Nat} (hk : k < 3) (v g : Nat → Int32) : (buyB v g).1 k = v k := by
  unfold buyB buyK
  rw [bagL_k hk, bagL_k hk, bagL_k hk, bagL_k hk]
theorem colV_k {k : Nat} (hk : k < 3) (v : Nat → Int32) : colV v k = v k := by
  unfold colV
  rw [upd_ge (by omega), upd_ge (by omega)]
theorem KF_up {N : Nat → Nat → Int32} {b c j : Nat} {v : Nat → Int32} (h : KF N b c) (h1 : v 1 = N j 1) (h2 : v 2 = N j 2) : KF (va_up N j v) b c := by
  intro k hk
  by_cases hj : b + k = j
  · rw [hj, va_up_self, h1, h2, ← hj]
    exact h k hk
  · rw [va_up_ne _ _ hj]
    exact h k hk
theorem KF_goN {b c : Nat} : ∀ (n i : Nat) (N : Nat → Nat → Int32) (sm : Int32), KF N b c → KF (goN n c b i N sm).1 b c
  | 0, _, _, _, h => h
  | n + 1, i, N, sm, h => by
    unfold goN
    split
    · exact h
    · exact KF_goN n _ _ _ (KF_up h (workH_1 _) (workH_2 _))
theorem KF_rkN {b c fb : Nat} : ∀ (n i : Nat) (N F : Nat → Nat → Int32), KF N b c → KF (rkN n c b fb i N F).1 b c
  | 0, _, _, _, h => h
  | n + 1, i, N, F, h => by
    unfold rkN
    split
    · exact h
    · refine KF_rkN n _ _ _ (KF_up h ?_ ?_)
      · rw [colV_k (by omega), buyB_k (by omega)]
      · rw [colV_k (by omega), buyB_k (by omega)]
theorem KF_hour {b c fb : Nat} {now : Int32} {N F : Nat → Nat → Int32} (h : KF N b c) : KF (hourN c b fb now N F).1 b c := by
  unfold hourN
  split
  · exact KF_rkN _ _ _ _ (KF_goN _ _ _ _ h)
  · exact KF_goN _ _ _ _ h
end
section
/-! THE CLASS TRADE: contracts and walks -/
theorem pk_lt4 {a : Int32} (h : vp_in a 4) : a.toNatClampNeg < 4 := Nat.not_le.mp fun q => h (Or.inr q)
set_option maxHeartbeats 4000000 in
set_option maxRecDepth 100000 in
theorem c_X2_reckonWeek {l : Launch} {P : L5} {D : va_G} {N F T : Nat → Nat → Int32} {K : Nat → Int32} {A : Nat → Nat → Int32} {w : Int64} {t : Nat} (ht : t < 2) {c : Nat} (hc : T t 1 = nI c) (h12 : c ≤ 12) (hKF : KF N (12 * t) c) : CtV l yX2_reckonWeek cX2_reckonWeek 3 3 0 0 P D (nW P) (nW P) False (cw P N F T K A w) (cw P (weekR c (12 * t) (4 * t) N F).1 (weekR c (12 * t) (4 * t) N F).2 T K A w) [.ref (rT P t)] := by
  refine mk_Met pl_X2 [(0, .ref (rT P t))] rfl (Nat.le_of_ble_eq_true rfl) ?_
  intro pg en sg mg ag bg mt cd C
  refine v_iconst (v := 0) C dX2_reckonWeek_0 rfl ?_
  refine v_istore_n (lv' := [(1, .int 0), (0, .ref (rT P t))]) C dX2_reckonWeek_1 rfl (by decide) rfl ?_
  have L_1 : ∀ (n : Nat) (i : Nat) (N9 F9 : Nat → Nat → Int32), i ≤ c → c < i + n → KF N9 (12 * t) c → V pg l en (rmO 3 0 0) sg mg ag bg mt cd P D (MQ bg (QcV P D (nW P) False (cw P (weekR c (12 * t) (4 * t) N F).1 (weekR c (12 * t) (4 * t) N F).2 T K A w)) ag sg 0 0 (aO P)) 3 (nW P) False (cw P (rkN n c (12 * t) (4 * t) i N9 F9).1 (rkN n c (12 * t) (4 * t) i N9 F9).2 T K A w) 0 0 51 [(0, .ref (rT P t))] [] → V pg l en (rmO 3 0 0) sg mg ag bg mt cd P D (MQ bg (QcV P D (nW P) False (cw P (weekR c (12 * t) (4 * t) N F).1 (weekR c (12 * t) (4 * t) N F).2 T K A w)) ag sg 0 0 (aO P)) 3 (nW P) False (cw P N9 F9 T K A w) 0 0 2 [(1, .int (nI i)), (0, .ref (rT P t))] [] := by
    intro n
    induction n with
    | zero => intro i N9 F9 h1 h2; omega
    | succ n ih =>
      intro i N9 F9 h1 h2 hK9 hk9
      refine v_iload_n C 0 dX2_reckonWeek_2 rfl ?_
      refine v_aload_n C 1 dX2_reckonWeek_3 rfl ?_
      refine v_gTu C ht 1 (by decide) k_409 rfl dX2_reckonWeek_4 ?_
      refine v_icmp_ge (tgt := 51) C dX2_reckonWeek_7 (by decide) (fun h7_1 => ?_) (fun h7_1 => ?_)
      · refine v_lv [1] rfl ?_
        have hic : c ≤ i := (leC hc h12 h1).mp h7_1
        have e9 : rkN (n + 1) c (12 * t) (4 * t) i N9 F9 = (N9, F9) := by rw [rkN, if_pos hic]
        rw [e9] at hk9
        exact hk9
      · have hic : i < c := Nat.not_le.mp (fun q => h7_1 ((leC hc h12 h1).mpr q))
        have h4 := (pk_lt4 (hK9 i hic).2)
        refine v_aload_n C 1 dX2_reckonWeek_10 rfl ?_
        refine v_gTu C ht 3 (by decide) k_413 rfl dX2_reckonWeek_11 ?_
        refine v_aload_n C 1 dX2_reckonWeek_14 rfl ?_
        refine v_gTu C ht 2 (by decide) k_411 rfl dX2_reckonWeek_15 ?_
        refine v_iload_n C 0 dX2_reckonWeek_18 rfl ?_
        refine v_aaNk C i ht (nI_clamp (by omega)) (vp_in_nI (by omega) (by omega)) dX2_reckonWeek_19 ?_
        refine v_gNuN C (by omega) 2 (by decide) (List.mem_of_getElem? (i := 1) rfl) rfl dX2_reckonWeek_20 ?_
        refine v_aaFk C ((N9 (12 * t + i) 2).toNatClampNeg) ht rfl (hK9 i hic).2 dX2_reckonWeek_23 ?_
        refine v_astore_n (lv' := [(2, .ref (rF P (4 * t + ((N9 (12 * t + i) 2).toNatClampNeg)))), (1, .int (nI i)), (0, .ref (rT P t))]) C dX2_reckonWeek_24 rfl (by decide) rfl ?_
        refine v_aload_n C 0 dX2_reckonWeek_25 rfl ?_
        refine v_aload_n C 2 dX2_reckonWeek_26 rfl ?_
        refine v_gTu C ht 2 (by decide) k_411 rfl dX2_reckonWeek_27 ?_
        refine v_iload_n C 1 dX2_reckonWeek_30 rfl ?_
        refine v_aaNk C i ht (nI_clamp (by omega)) (vp_in_nI (by omega) (by omega)) dX2_reckonWeek_31 ?_
        refine go_V (run_VN C (u_X0_buyBags (by omega) (by omega)) k_235 k_4 (List.mem_of_getElem? (i := 12) rfl) k_233 ks_17 dd_X0_buyBags ⟨Nat.le_of_ble_eq_true rfl, Nat.le_of_ble_eq_true rfl⟩ (rcF (by omega)) rfl (Nat.le_of_ble_eq_true rfl) dX2_reckonWeek_32 ⟨Nat.le_of_ble_eq_true rfl, Nat.le_of_ble_eq_true rfl⟩) ?_
        refine v_aload_n C 0 dX2_reckonWeek_35 rfl ?_
        refine v_aload_n C 2 dX2_reckonWeek_36 rfl ?_
        refine v_gTu C ht 2 (by decide) k_411 rfl dX2_reckonWeek_37 ?_
        refine v_iload_n C 1 dX2_reckonWeek_40 rfl ?_
        refine v_aaNk C i ht (nI_clamp (by omega)) (vp_in_nI (by omega) (by omega)) dX2_reckonWeek_41 ?_
        refine go_V (run_VN C (c_X0_collectDebt (by omega) (by omega)) k_241 k_4 (List.mem_of_getElem? (i := 13) rfl) k_240 ks_18 dd_X0_collectDebt ⟨Nat.le_of_ble_eq_true rfl, Nat.le_of_ble_eq_true rfl⟩ (rcF (by omega)) rfl (Nat.le_of_ble_eq_true rfl) dX2_reckonWeek_42 ⟨Nat.le_of_ble_eq_true rfl, Nat.le_of_ble_eq_true rfl⟩) ?_
        refine v_iinc (b := (nI (i + 1))) (lv' := [(1, .int (nI (i + 1))), (2, .ref (rF P (4 * t + ((N9 (12 * t + i) 2).toNatClampNeg)))), (0, .ref (rT P t))]) C 1 dX2_reckonWeek_45 rfl (nI_1 _) (by decide) rfl ?_
        refine v_goto (tgt := 2) C dX2_reckonWeek_48 (by decide) ?_
        refine v_lv [0, 2] rfl ?_
        have e9 : rkN (n + 1) c (12 * t) (4 * t) i N9 F9 = rkN n c (12 * t) (4 * t) (i + 1) (rk1 N9 F9 (12 * t + i) (4 * t + (N9 (12 * t + i) 2).toNatClampNeg)).1 (rk1 N9 F9 (12 * t + i) (4 * t + (N9 (12 * t + i) 2).toNatClampNeg)).2 := by rw [rkN, if_neg (by omega)]
        rw [e9] at hk9
        exact ih _ _ _ (by omega) (by omega) (KF_up hK9 (by rw [colV_k (by omega), buyB_k (by omega)]) (by rw [colV_k (by omega), buyB_k (by omega)])) hk9
  refine L_1 (c + 1) 0 N F (by omega) (by omega) hKF ?_
  refine v_iconst (v := 0) C dX2_reckonWeek_51 rfl ?_
  refine v_istore_n (lv' := [(1, .int 0), (0, .ref (rT P t))]) C dX2_reckonWeek_52 rfl (by decide) rfl ?_
  refine v_iload_n C 0 dX2_reckonWeek_53 rfl ?_
  refine v_iconst (v := 4) C dX2_reckonWeek_54 rfl ?_
  refine v_icmp_ge (tgt := 73) C dX2_reckonWeek_55 (by decide) (fun h9 => absurd h9 (by decide)) (fun _ => ?_)
  refine v_aload_n C 1 dX2_reckonWeek_58 rfl ?_
  refine v_gTu C ht 3 (by decide) k_413 rfl dX2_reckonWeek_59 ?_
  refine v_iload_n C 0 dX2_reckonWeek_62 rfl ?_
  refine v_aaFk C 0 ht tn_0 in4_0 dX2_reckonWeek_63 ?_
  refine go_V (run_VN C (u_X0_deliver (by omega)) k_246 k_4 (List.mem_of_getElem? (i := 14) rfl) k_245 ks_19 dd_X0_deliver ⟨Nat.le_of_ble_eq_true rfl, Nat.le_of_ble_eq_true rfl⟩ (rcF (by omega)) rfl (Nat.le_of_ble_eq_true rfl) dX2_reckonWeek_64 ⟨Nat.le_of_ble_eq_true rfl, Nat.le_of_ble_eq_true rfl⟩) ?_
  refine v_iinc (b := 1) (lv' := [(1, .int 1), (0, .ref (rT P t))]) C 0 dX2_reckonWeek_67 rfl rfl (by decide) rfl ?_
  refine v_goto (tgt := 53) C dX2_reckonWeek_70 (by decide) ?_
  refine v_iload_n C 0 dX2_reckonWeek_53 rfl ?_
  refine v_iconst (v := 4) C dX2_reckonWeek_54 rfl ?_
  refine v_icmp_ge (tgt := 73) C dX2_reckonWeek_55 (by decide) (fun h9 => absurd h9 (by decide)) (fun _ => ?_)
  refine v_aload_n C 1 dX2_reckonWeek_58 rfl ?_
  refine v_gTu C ht 3 (by decide) k_413 rfl dX2_reckonWeek_59 ?_
  refine v_iload_n C 0 dX2_reckonWeek_62 rfl ?_
  refine v_aaFk C 1 ht tn_1 in4_1 dX2_reckonWeek_63 ?_
  refine go_V (run_VN C (u_X0_deliver (by omega)) k_246 k_4 (List.mem_of_getElem? (i := 14) rfl) k_245 ks_19 dd_X0_deliver ⟨Nat.le_of_ble_eq_true rfl, Nat.le_of_ble_eq_true rfl⟩ (rcF (by omega)) rfl (Nat.le_of_ble_eq_true rfl) dX2_reckonWeek_64 ⟨Nat.le_of_ble_eq_true rfl, Nat.le_of_ble_eq_true rfl⟩) ?_
  refine v_iinc (b := 2) (lv' := [(1, .int 2), (0, .ref (rT P t))]) C 0 dX2_reckonWeek_67 rfl rfl (by decide) rfl ?_
  refine v_goto (tgt := 53) C dX2_reckonWeek_70 (by decide) ?_
  refine v_iload_n C 0 dX2_reckonWeek_53 rfl ?_
  refine v_iconst (v := 4) C dX2_reckonWeek_54 rfl ?_
  refine v_icmp_ge (tgt := 73) C dX2_reckonWeek_55 (by decide) (fun h9 => absurd h9 (by decide)) (fun _ => ?_)
  refine v_aload_n C 1 dX2_reckonWeek_58 rfl ?_
  refine v_gTu C ht 3 (by decide) k_413 rfl dX2_reckonWeek_59 ?_
  refine v_iload_n C 0 dX2_reckonWeek_62 rfl ?_
  refine v_aaFk C 2 ht tn_2 in4_2 dX2_reckonWeek_63 ?_
  refine go_V (run_VN C (u_X0_deliver (by omega)) k_246 k_4 (List.mem_of_getElem? (i := 14) rfl) k_245 ks_19 dd_X0_deliver ⟨Nat.le_of_ble_eq_true rfl, Nat.le_of_ble_eq_true rfl⟩ (rcF (by omega)) rfl (Nat.le_of_ble_eq_true rfl) dX2_reckonWeek_64 ⟨Nat.le_of_ble_eq_true rfl, Nat.le_of_ble_eq_true rfl⟩) ?_
  refine v_iinc (b := 3) (lv' := [(1, .int 3), (0, .ref (rT P t))]) C 0 dX2_reckonWeek_67 rfl rfl (by decide) rfl ?_
  refine v_goto (tgt := 53) C dX2_reckonWeek_70 (by decide) ?_
  refine v_iload_n C 0 dX2_reckonWeek_53 rfl ?_
  refine v_iconst (v := 4) C dX2_reckonWeek_54 rfl ?_
  refine v_icmp_ge (tgt := 73) C dX2_reckonWeek_55 (by decide) (fun h9 => absurd h9 (by decide)) (fun _ => ?_)
  refine v_aload_n C 1 dX2_reckonWeek_58 rfl ?_
  refine v_gTu C ht 3 (by decide) k_413 rfl dX2_reckonWeek_59 ?_
  refine v_iload_n C 0 dX2_reckonWeek_62 rfl ?_
  refine v_aaFk C 3 ht tn_3 in4_3 dX2_reckonWeek_63 ?_
  refine go_V (run_VN C (u_X0_deliver (by omega)) k_246 k_4 (List.mem_of_getElem? (i := 14) rfl) k_245 ks_19 dd_X0_deliver ⟨Nat.le_of_ble_eq_true rfl, Nat.le_of_ble_eq_true rfl⟩ (rcF (by omega)) rfl (Nat.le_of_ble_eq_true rfl) dX2_reckonWeek_64 ⟨Nat.le_of_ble_eq_true rfl, Nat.le_of_ble_eq_true rfl⟩) ?_
  refine v_iinc (b := 4) (lv' := [(1, .int 4), (0, .ref (rT P t))]) C 0 dX2_reckonWeek_67 rfl rfl (by decide) rfl ?_
  refine v_goto (tgt := 53) C dX2_reckonWeek_70 (by decide) ?_
  refine v_iload_n C 0 dX2_reckonWeek_53 rfl ?_
  refine v_iconst (v := 4) C dX2_reckonWeek_54 rfl ?_
  refine v_icmp_ge (tgt := 73) C dX2_reckonWeek_55 (by decide) (fun _ => ?_) (fun h9 => absurd (by decide) h9)
  exact v_vret C dX2_reckonWeek_73 rfl
set_option maxHeartbeats 4000000 in
set_option maxRecDepth 100000 in
theorem c_X2_goByOne {l : Launch} {P : L5} {D : va_G} {N F T : Nat → Nat → Int32} {K : Nat → Int32} {A : Nat → Nat → Int32} {w : Int64} {t : Nat} (ht : t < 2) {c : Nat} (hc : T t 1 = nI c) (h12 : c ≤ 12) (hKF : KF N (12 * t) c) : CtI l yX2_goByOne cX2_goByOne 3 .int 4 0 0 P D (nW P) (nW P) False (cw P N F T K A w) (cw P (hourN c (12 * t) (4 * t) (T t 0) N F).1 (hourN c (12 * t) (4 * t) (T t 0) N F).2 (hourT T t) K A w) [.ref (rT P t)] (hourG c (12 * t) N) := by
  refine mk_Met pl_X2 [(0, .ref (rT P t))] rfl (Nat.le_of_ble_eq_true rfl) ?_
  intro pg en sg mg ag bg mt cd C
  refine v_iconst (v := 0) C dX2_goByOne_0 rfl ?_
  refine v_istore_n (lv' := [(1, .int 0), (0, .ref (rT P t))]) C dX2_goByOne_1 rfl (by decide) rfl ?_
  refine v_iconst (v := 0) C dX2_goByOne_2 rfl ?_
  refine v_istore_n (lv' := [(2, .int 0), (1, .int 0), (0, .ref (rT P t))]) C dX2_goByOne_3 rfl (by decide) rfl ?_
  have L_1 : ∀ (n : Nat) (i : Nat) (N9 : Nat → Nat → Int32) (sm : Int32), i ≤ c → c < i + n → KF N9 (12 * t) c → V pg l en (rmO 4 0 0) sg mg ag bg mt cd P D (MQ bg (QcI P D (nW P) False (cw P (hourN c (12 * t) (4 * t) (T t 0) N F).1 (hourN c (12 * t) (4 * t) (T t 0) N F).2 (hourT T t) K A w) (hourG c (12 * t) N)) ag sg 0 0 (aO P)) 3 (nW P) False (cw P (goN n c (12 * t) i N9 sm).1 F T K A w) 0 0 30 [(1, .int ((goN n c (12 * t) i N9 sm).2)), (0, .ref (rT P t))] [] → V pg l en (rmO 4 0 0) sg mg ag bg mt cd P D (MQ bg (QcI P D (nW P) False (cw P (hourN c (12 * t) (4 * t) (T t 0) N F).1 (hourN c (12 * t) (4 * t) (T t 0) N F).2 (hourT T t) K A w) (hourG c (12 * t) N)) ag sg 0 0 (aO P)) 3 (nW P) False (cw P N9 F T K A w) 0 0 4 [(2, .int (nI i)), (1, .int sm), (0, .ref (rT P t))] [] := by
    intro n
    induction n with
    | zero => intro i N9 sm h1 h2; omega
    | succ n ih =>
      intro i N9 sm h1 h2 hK9 hk9
      refine v_iload_n C 0 dX2_goByOne_4 rfl ?_
      refine v_aload_n C 2 dX2_goByOne_5 rfl ?_
      refine v_gTu C ht 1 (by decide) k_409 rfl dX2_goByOne_6 ?_
      refine v_icmp_ge (tgt := 30) C dX2_goByOne_9 (by decide) (fun h9_1 => ?_) (fun h9_1 => ?_)
      · refine v_lv [1, 2] rfl ?_
        have hic : c ≤ i := (leC hc h12 h1).mp h9_1
        have e9 : goN (n + 1) c (12 * t) i N9 sm = (N9, sm) := by rw [goN, if_pos hic]
        rw [e9] at hk9
        exact hk9
      · have hic : i < c := Nat.not_le.mp (fun q => h9_1 ((leC hc h12 h1).mpr q))
        refine v_iload_n C 1 dX2_goByOne_12 rfl ?_
        refine v_aload_n C 2 dX2_goByOne_13 rfl ?_
        refine v_gTu C ht 2 (by decide) k_411 rfl dX2_goByOne_14 ?_
        refine v_iload_n C 0 dX2_goByOne_17 rfl ?_
        refine v_aaNk C i ht (nI_clamp (by omega)) (vp_in_nI (by omega) (by omega)) dX2_goByOne_18 ?_
        refine go_I (run_VN C (u_X1_workHour (by omega) (hK9 i hic).1) k_202 k_3 (List.mem_of_getElem? (i := 11) rfl) k_201 ks_11 dd_X1_workHour ⟨Nat.le_of_ble_eq_true rfl, Nat.le_of_ble_eq_true rfl⟩ (rcN (by omega)) rfl (Nat.le_of_ble_eq_true rfl) dX2_goByOne_19 ⟨Nat.le_of_ble_eq_true rfl, Nat.le_of_ble_eq_true rfl⟩) ?_
        refine v_iadd C dX2_goByOne_22 ?_
        refine v_top (fun x_1 ex_1 => ?_)
        refine v_istore_n (lv' := [(1, .int x_1), (2, .int (nI i)), (0, .ref (rT P t))]) C dX2_goByOne_23 rfl (by decide) rfl ?_
        refine v_iinc (b := (nI (i + 1))) (lv' := [(2, .int (nI (i + 1))), (1, .int x_1), (0, .ref (rT P t))]) C 1 dX2_goByOne_24 rfl (nI_1 _) (by decide) rfl ?_
        refine v_goto (tgt := 4) C dX2_goByOne_27 (by decide) ?_
        have e9 : goN (n + 1) c (12 * t) i N9 sm = goN n c (12 * t) (i + 1) (va_up N9 (12 * t + i) (workH (N9 (12 * t + i))).1) (sm + (workH (N9 (12 * t + i))).2) := by rw [goN, if_neg (by omega)]
        rw [e9] at hk9
        subst ex_1
        exact ih _ _ _ (by omega) (by omega) (KF_up hK9 (workH_1 _) (workH_2 _)) hk9
  refine L_1 (c + 1) 0 N 0 (by omega) (by omega) hKF ?_
  refine v_aload_n C 1 dX2_goByOne_30 rfl ?_
  refine v_gTu C ht 0 (by decide) k_408 rfl dX2_goByOne_31 ?_
  refine v_bipush (v := 48) C dX2_goByOne_34 rfl ?_
  refine v_irem C dX2_goByOne_36 (by decide) ?_
  refine v_bipush (v := 47) C dX2_goByOne_37 rfl ?_
  refine v_icmp_ne (tgt := 46) C dX2_goByOne_39 (by decide) (fun h39_1 => ?_) (fun h39_1 => ?_)
  · refine v_eq (f' := (cw P (goN (c + 1) c (12 * t) 0 N 0).1 F (va_up T t (T t)) K A w)) (by rw [va_up_eta]) ?_
    refine v_aload_n C 1 dX2_goByOne_46 rfl ?_
    refine v_dup C dX2_goByOne_47 rfl ?_
    refine v_gT C ht 0 (by decide) k_408 rfl dX2_goByOne_48 ?_
    refine v_iconst (v := 1) C dX2_goByOne_51 rfl ?_
    refine v_iadd C dX2_goByOne_52 ?_
    refine v_pT C ht 0 (by decide) k_408 dX2_goByOne_53 ?_
    refine v_iload_n C 0 dX2_goByOne_56 rfl ?_
    exact v_iret C dX2_goByOne_57 (by rw [hourN, if_neg (by exact h39_1)]; rfl) rfl
  · refine v_aload_n C 1 dX2_goByOne_42 rfl ?_
    refine go_V (run_V C (c_X2_reckonWeek ht hc h12 (KF_goN _ _ _ _ hKF)) k_230 k_2 k_227 k_229 ks_16 dd_X2_reckonWeek ⟨Nat.le_of_ble_eq_true rfl, Nat.le_of_ble_eq_true rfl⟩ (rcT ht) rfl (Nat.le_of_ble_eq_true rfl) dX2_goByOne_43 ⟨Nat.le_of_ble_eq_true rfl, Nat.le_of_ble_eq_true rfl⟩) ?_
    refine v_eq (f' := (cw P (weekR c (12 * t) (4 * t) (goN (c + 1) c (12 * t) 0 N 0).1 F).1 (weekR c (12 * t) (4 * t) (goN (c + 1) c (12 * t) 0 N 0).1 F).2 (va_up T t (T t)) K A w)) (by rw [va_up_eta]) ?_
    refine v_aload_n C 1 dX2_goByOne_46 rfl ?_
    refine v_dup C dX2_goByOne_47 rfl ?_
    refine v_gT C ht 0 (by decide) k_408 rfl dX2_goByOne_48 ?_
    refine v_iconst (v := 1) C dX2_goByOne_51 rfl ?_
    refine v_iadd C dX2_goByOne_52 ?_
    refine v_pT C ht 0 (by decide) k_408 dX2_goByOne_53 ?_
    refine v_iload_n C 0 dX2_goByOne_56 rfl ?_
    exact v_iret C dX2_goByOne_57 (by rw [hourN, if_pos (by exact h39_1)]; rfl) rfl
set_option maxHeartbeats 4000000 in
set_option maxRecDepth 100000 in
theorem c_X2_goBy {l : Launch} {P : L5} {D : va_G} {N F T : Nat → Nat → Int32} {K : Nat → Int32} {A : Nat → Nat → Int32} {w : Int64} {t : Nat} (ht : t < 2) {c : Nat} (hc : T t 1 = nI c) (h12 : c ≤ 12) (hKF : KF N (12 * t) c) {h : Int32} : CtI l yX2_goBy cX2_goBy 4 .int 5 0 0 P D (nW P) (nW P) False (cw P N F T K A w) (cw P (goB (fuel h 0) h 0 c t N F T 0).1 (goB (fuel h 0) h 0 c t N F T 0).2.1 (goB (fuel h 0) h 0 c t N F T 0).2.2.1 K A w) [.ref (rT P t), .int h] (goB (fuel h 0) h 0 c t N F T 0).2.2.2 := by
  refine mk_Met pl_X2 [(0, .ref (rT P t)), (1, .int h)] rfl (Nat.le_of_ble_eq_true rfl) ?_
  intro pg en sg mg ag bg mt cd C
  refine v_iconst (v := 0) C dX2_goBy_0 rfl ?_
  refine v_istore_n (lv' := [(2, .int 0), (0, .ref (rT P t)), (1, .int h)]) C dX2_goBy_1 rfl (by decide) rfl ?_
  refine v_iconst (v := 0) C dX2_goBy_2 rfl ?_
  refine v_istore_n (lv' := [(3, .int 0), (2, .int 0), (0, .ref (rT P t)), (1, .int h)]) C dX2_goBy_3 rfl (by decide) rfl ?_
  have L_1 : ∀ (n : Nat) (i : Int32) (N9 F9 T9 : Nat → Nat → Int32) (sm : Int32), fuel h i ≤ n → T9 t 1 = nI c → KF N9 (12 * t) c → V pg l en (rmO 5 0 0) sg mg ag bg mt cd P D (MQ bg (QcI P D (nW P) False (cw P (goB (fuel h 0) h 0 c t N F T 0).1 (goB (fuel h 0) h 0 c t N F T 0).2.1 (goB (fuel h 0) h 0 c t N F T 0).2.2.1 K A w) (goB (fuel h 0) h 0 c t N F T 0).2.2.2) ag sg 0 0 (aO P)) 4 (nW P) False (cw P (goB n h i c t N9 F9 T9 sm).1 (goB n h i c t N9 F9 T9 sm).2.1 (goB n h i c t N9 F9 T9 sm).2.2.1 K A w) 0 0 22 [(2, .int ((goB n h i c t N9 F9 T9 sm).2.2.2))] [] → V pg l en (rmO 5 0 0) sg mg ag bg mt cd P D (MQ bg (QcI P D (nW P) False (cw P (goB (fuel h 0) h 0 c t N F T 0).1 (goB (fuel h 0) h 0 c t N F T 0).2.1 (goB (fuel h 0) h 0 c t N F T 0).2.2.1 K A w) (goB (fuel h 0) h 0 c t N F T 0).2.2.2) ag sg 0 0 (aO P)) 4 (nW P) False (cw P N9 F9 T9 K A w) 0 0 4 [(3, .int i), (2, .int sm), (0, .ref (rT P t)), (1, .int h)] [] := by
    intro n
    induction n with
    | zero => intro i N9 F9 T9 sm h9; exact absurd h9 (by unfold fuel; omega)
    | succ n ih =>
      intro i N9 F9 T9 sm h9 hc9 hK9 hk9
      refine v_iload_n C 0 dX2_goBy_4 rfl ?_
      refine v_iload_n C 3 dX2_goBy_5 rfl ?_
      refine v_icmp_ge (tgt := 22) C dX2_goBy_6 (by decide) (fun h6_1 => ?_) (fun h6_1 => ?_)
      · refine v_lv [1] rfl ?_
        have e9 : goB (n + 1) h i c t N9 F9 T9 sm = (N9, F9, T9, sm) := by rw [goB, if_pos h6_1]
        rw [e9] at hk9
        exact hk9
      · refine v_iload_n C 1 dX2_goBy_9 rfl ?_
        refine v_aload_n C 2 dX2_goBy_10 rfl ?_
        refine go_I (run_V C (c_X2_goByOne ht hc9 h12 hK9) k_198 k_2 k_195 k_197 ks_10 dd_X2_goByOne ⟨Nat.le_of_ble_eq_true rfl, Nat.le_of_ble_eq_true rfl⟩ (rcT ht) rfl (Nat.le_of_ble_eq_true rfl) dX2_goBy_11 ⟨Nat.le_of_ble_eq_true rfl, Nat.le_of_ble_eq_true rfl⟩) ?_
        refine v_iadd C dX2_goBy_14 ?_
        refine v_top (fun x_1 ex_1 => ?_)
        refine v_istore_n (lv' := [(2, .int x_1), (3, .int i), (0, .ref (rT P t)), (1, .int h)]) C dX2_goBy_15 rfl (by decide) rfl ?_
        obtain ⟨x_2, ex_2⟩ : ∃ y : Int32, y = i + 1 := ⟨_, rfl⟩
        refine v_iinc (b := x_2) (lv' := [(3, .int x_2), (2, .int x_1), (0, .ref (rT P t)), (1, .int h)]) C 1 dX2_goBy_16 rfl (by rw [ex_2]; rfl) (by decide) rfl ?_
        refine v_goto (tgt := 4) C dX2_goBy_19 (by decide) ?_
        have e9 : goB (n + 1) h i c t N9 F9 T9 sm = goB n h (i + 1) c t (hourN c (12 * t) (4 * t) (T9 t 0) N9 F9).1 (hourN c (12 * t) (4 * t) (T9 t 0) N9 F9).2 (hourT T9 t) (sm + hourG c (12 * t) N9) := by rw [goB, if_neg h6_1]
        rw [e9] at hk9
        subst ex_1 ex_2
        exact ih _ _ _ _ _ (fuel_step h9 h6_1) (by unfold hourT; rw [va_up_self]; exact hc9) (KF_hour hK9) hk9
  refine L_1 (fuel h 0) 0 N F T 0 (Nat.le_refl _) hc hKF ?_
  refine v_iload_n C 0 dX2_goBy_22 rfl ?_
  exact v_iret C dX2_goBy_23 rfl rfl
set_option maxHeartbeats 4000000 in
set_option maxRecDepth 100000 in
theorem c_X2_warehouseBags {l : Launch} {P : L5} {D : va_G} {N F T : Nat → Nat → Int32} {K : Nat → Int32} {A : Nat → Nat → Int32} {w : Int64} {t : Nat} (ht : t < 2) : CtI l yX2_warehouseBags cX2_warehouseBags 3 .int 1 0 0 P D (nW P) (nW P) False (cw P N F T K A w) (cw P N F T K A w) [.ref (rT P t)] (boughtF F (4 * t)) := by
  refine mk_Met pl_X2 [(0, .ref (rT P t))] rfl (Nat.le_of_ble_eq_true rfl) ?_
  intro pg en sg mg ag bg mt cd C
  refine v_iconst (v := 0) C dX2_warehouseBags_0 rfl ?_
  refine v_istore_n (lv' := [(1, .int 0), (0, .ref (rT P t))]) C dX2_warehouseBags_1 rfl (by decide) rfl ?_
  refine v_iconst (v := 0) C dX2_warehouseBags_2 rfl ?_
  refine v_istore_n (lv' := [(2, .int 0), (1, .int 0), (0, .ref (rT P t))]) C dX2_warehouseBags_3 rfl (by decide) rfl ?_
  refine v_iload_n C 0 dX2_warehouseBags_4 rfl ?_
  refine v_iconst (v := 4) C dX2_warehouseBags_5 rfl ?_
  refine v_icmp_ge (tgt := 27) C dX2_warehouseBags_6 (by decide) (fun h9 => absurd h9 (by decide)) (fun _ => ?_)
  refine v_iload_n C 1 dX2_warehouseBags_9 rfl ?_
  refine v_aload_n C 2 dX2_warehouseBags_10 rfl ?_
  refine v_gTu C ht 3 (by decide) k_413 rfl dX2_warehouseBags_11 ?_
  refine v_iload_n C 0 dX2_warehouseBags_14 rfl ?_
  refine v_aaFk C 0 ht tn_0 in4_0 dX2_warehouseBags_15 ?_
  refine v_gFuN C (by omega) 2 (by decide) (List.mem_of_getElem? (i := 16) rfl) rfl dX2_warehouseBags_16 ?_
  refine v_iadd C dX2_warehouseBags_19 ?_
  refine v_top (fun x_1 ex_1 => ?_)
  refine v_istore_n (lv' := [(1, .int x_1), (2, .int 0), (0, .ref (rT P t))]) C dX2_warehouseBags_20 rfl (by decide) rfl ?_
  refine v_iinc (b := 1) (lv' := [(2, .int 1), (1, .int x_1), (0, .ref (rT P t))]) C 1 dX2_warehouseBags_21 rfl rfl (by decide) rfl ?_
  refine v_goto (tgt := 4) C dX2_warehouseBags_24 (by decide) ?_
  refine v_iload_n C 0 dX2_warehouseBags_4 rfl ?_
  refine v_iconst (v := 4) C dX2_warehouseBags_5 rfl ?_
  refine v_icmp_ge (tgt := 27) C dX2_warehouseBags_6 (by decide) (fun h9 => absurd h9 (by decide)) (fun _ => ?_)
  refine v_iload_n C 1 dX2_warehouseBags_9 rfl ?_
  refine v_aload_n C 2 dX2_warehouseBags_10 rfl ?_
  refine v_gTu C ht 3 (by decide) k_413 rfl dX2_warehouseBags_11 ?_
  refine v_iload_n C 0 dX2_warehouseBags_14 rfl ?_
  refine v_aaFk C 1 ht tn_1 in4_1 dX2_warehouseBags_15 ?_
  refine v_gFuN C (by omega) 2 (by decide) (List.mem_of_getElem? (i := 16) rfl) rfl dX2_warehouseBags_16 ?_
  refine v_iadd C dX2_warehouseBags_19 ?_
  refine v_top (fun x_2 ex_2 => ?_)
  refine v_istore_n (lv' := [(1, .int x_2), (2, .int 1), (0, .ref (rT P t))]) C dX2_warehouseBags_20 rfl (by decide) rfl ?_
  refine v_iinc (b := 2) (lv' := [(2, .int 2), (1, .int x_2), (0, .ref (rT P t))]) C 1 dX2_warehouseBags_21 rfl rfl (by decide) rfl ?_
  refine v_goto (tgt := 4) C dX2_warehouseBags_24 (by decide) ?_
  refine v_iload_n C 0 dX2_warehouseBags_4 rfl ?_
  refine v_iconst (v := 4) C dX2_warehouseBags_5 rfl ?_
  refine v_icmp_ge (tgt := 27) C dX2_warehouseBags_6 (by decide) (fun h9 => absurd h9 (by decide)) (fun _ => ?_)
  refine v_iload_n C 1 dX2_warehouseBags_9 rfl ?_
  refine v_aload_n C 2 dX2_warehouseBags_10 rfl ?_
  refine v_gTu C ht 3 (by decide) k_413 rfl dX2_warehouseBags_11 ?_
  refine v_iload_n C 0 dX2_warehouseBags_14 rfl ?_
  refine v_aaFk C 2 ht tn_2 in4_2 dX2_warehouseBags_15 ?_
  refine v_gFuN C (by omega) 2 (by decide) (List.mem_of_getElem? (i := 16) rfl) rfl dX2_warehouseBags_16 ?_
  refine v_iadd C dX2_warehouseBags_19 ?_
  refine v_top (fun x_3 ex_3 => ?_)
  refine v_istore_n (lv' := [(1, .int x_3), (2, .int 2), (0, .ref (rT P t))]) C dX2_warehouseBags_20 rfl (by decide) rfl ?_
  refine v_iinc (b := 3) (lv' := [(2, .int 3), (1, .int x_3), (0, .ref (rT P t))]) C 1 dX2_warehouseBags_21 rfl rfl (by decide) rfl ?_
  refine v_goto (tgt := 4) C dX2_warehouseBags_24 (by decide) ?_
  refine v_iload_n C 0 dX2_warehouseBags_4 rfl ?_
  refine v_iconst (v := 4) C dX2_warehouseBags_5 rfl ?_
  refine v_icmp_ge (tgt := 27) C dX2_warehouseBags_6 (by decide) (fun h9 => absurd h9 (by decide)) (fun _ => ?_)
  refine v_iload_n C 1 dX2_warehouseBags_9 rfl ?_
  refine v_aload_n C 2 dX2_warehouseBags_10 rfl ?_
  refine v_gTu C ht 3 (by decide) k_413 rfl dX2_warehouseBags_11 ?_
  refine v_iload_n C 0 dX2_warehouseBags_14 rfl ?_
  refine v_aaFk C 3 ht tn_3 in4_3 dX2_warehouseBags_15 ?_
  refine v_gFuN C (by omega) 2 (by decide) (List.mem_of_getElem? (i := 16) rfl) rfl dX2_warehouseBags_16 ?_
  refine v_iadd C dX2_warehouseBags_19 ?_
  refine v_top (fun x_4 ex_4 => ?_)
  refine v_istore_n (lv' := [(1, .int x_4), (2, .int 3), (0, .ref (rT P t))]) C dX2_warehouseBags_20 rfl (by decide) rfl ?_
  refine v_iinc (b := 4) (lv' := [(2, .int 4), (1, .int x_4), (0, .ref (rT P t))]) C 1 dX2_warehouseBags_21 rfl rfl (by decide) rfl ?_
  refine v_goto (tgt := 4) C dX2_warehouseBags_24 (by decide) ?_
  refine v_iload_n C 0 dX2_warehouseBags_4 rfl ?_
  refine v_iconst (v := 4) C dX2_warehouseBags_5 rfl ?_
  refine v_icmp_ge (tgt := 27) C dX2_warehouseBags_6 (by decide) (fun _ => ?_) (fun h9 => absurd (by decide) h9)
  refine v_iload_n C 1 dX2_warehouseBags_27 rfl ?_
  exact v_iret C dX2_warehouseBags_28 rfl (by subst ex_1 ex_2 ex_3 ex_4; rfl)
set_option maxHeartbeats 4000000 in
set_option maxRecDepth 100000 in
theorem c_X2_sumOfShares_2 {l : Launch} {P : L5} {D : va_G} {N F T : Nat → Nat → Int32} {K : Nat → Int32} {A : Nat → Nat → Int32} {w : Int64} {t : Nat} (ht : t < 2) {c : Nat} (hc : T t 1 = nI c) (h12 : c ≤ 12) : CtI l yX2_sumOfShares cX2_sumOfShares 4 .int 3 0 0 P D (nW P) (nW P) False (cw P N F T K A w) (cw P N F T K A w) [.ref (rT P t), .int 2] (shS (c + 1) 2 c (12 * t) 0 N 0) := by
  refine mk_Met pl_X2 [(0, .ref (rT P t)), (1, .int 2)] rfl (Nat.le_of_ble_eq_true rfl) ?_
  intro pg en sg mg ag bg mt cd C
  refine v_iconst (v := 0) C dX2_sumOfShares_0 rfl ?_
  refine v_istore_n (lv' := [(2, .int 0), (0, .ref (rT P t)), (1, .int 2)]) C dX2_sumOfShares_1 rfl (by decide) rfl ?_
  refine v_iconst (v := 0) C dX2_sumOfShares_2 rfl ?_
  refine v_istore_n (lv' := [(3, .int 0), (2, .int 0), (0, .ref (rT P t)), (1, .int 2)]) C dX2_sumOfShares_3 rfl (by decide) rfl ?_
  have L_1 : ∀ (n : Nat) (i : Nat) (sm : Int32), i ≤ c → c < i + n → V pg l en (rmO 3 0 0) sg mg ag bg mt cd P D (MQ bg (QcI P D (nW P) False (cw P N F T K A w) (shS (c + 1) 2 c (12 * t) 0 N 0)) ag sg 0 0 (aO P)) 4 (nW P) False (cw P N F T K A w) 0 0 31 [(2, .int (shS n 2 c (12 * t) i N sm))] [] → V pg l en (rmO 3 0 0) sg mg ag bg mt cd P D (MQ bg (QcI P D (nW P) False (cw P N F T K A w) (shS (c + 1) 2 c (12 * t) 0 N 0)) ag sg 0 0 (aO P)) 4 (nW P) False (cw P N F T K A w) 0 0 4 [(3, .int (nI i)), (2, .int sm), (0, .ref (rT P t)), (1, .int 2)] [] := by
    intro n
    induction n with
    | zero => intro i sm h1 h2; omega
    | succ n ih =>
      intro i sm h1 h2 hk9
      refine v_iload_n C 0 dX2_sumOfShares_4 rfl ?_
      refine v_aload_n C 2 dX2_sumOfShares_5 rfl ?_
      refine v_gTu C ht 1 (by decide) k_409 rfl dX2_sumOfShares_6 ?_
      refine v_icmp_ge (tgt := 31) C dX2_sumOfShares_9 (by decide) (fun h9_1 => ?_) (fun h9_1 => ?_)
      · refine v_lv [1] rfl ?_
        have hic : c ≤ i := (leC hc h12 h1).mp h9_1
        have e9 : shS (n + 1) 2 c (12 * t) i N sm = sm := by rw [shS, if_pos hic]
        rw [e9] at hk9
        exact hk9
      · have hic : i < c := Nat.not_le.mp (fun q => h9_1 ((leC hc h12 h1).mpr q))
        refine v_iload_n C 1 dX2_sumOfShares_12 rfl ?_
        refine v_aload_n C 2 dX2_sumOfShares_13 rfl ?_
        refine v_gTu C ht 2 (by decide) k_411 rfl dX2_sumOfShares_14 ?_
        refine v_iload_n C 0 dX2_sumOfShares_17 rfl ?_
        refine v_aaNk C i ht (nI_clamp (by omega)) (vp_in_nI (by omega) (by omega)) dX2_sumOfShares_18 ?_
        refine v_iload_n C 3 dX2_sumOfShares_19 rfl ?_
        refine go_I (run_VN C (c_X1_shareOfTotal_2 (by omega)) k_183 k_3 (List.mem_of_getElem? (i := 5) rfl) k_182 ks_8 dd_X1_shareOfTotal ⟨Nat.le_of_ble_eq_true rfl, Nat.le_of_ble_eq_true rfl⟩ (rcN (by omega)) rfl (Nat.le_of_ble_eq_true rfl) dX2_sumOfShares_20 ⟨Nat.le_of_ble_eq_true rfl, Nat.le_of_ble_eq_true rfl⟩) ?_
        refine v_iadd C dX2_sumOfShares_23 ?_
        refine v_top (fun x_1 ex_1 => ?_)
        refine v_istore_n (lv' := [(2, .int x_1), (3, .int (nI i)), (0, .ref (rT P t)), (1, .int 2)]) C dX2_sumOfShares_24 rfl (by decide) rfl ?_
        refine v_iinc (b := (nI (i + 1))) (lv' := [(3, .int (nI (i + 1))), (2, .int x_1), (0, .ref (rT P t)), (1, .int 2)]) C 1 dX2_sumOfShares_25 rfl (nI_1 _) (by decide) rfl ?_
        refine v_goto (tgt := 4) C dX2_sumOfShares_28 (by decide) ?_
        have e9 : shS (n + 1) 2 c (12 * t) i N sm = shS n 2 c (12 * t) (i + 1) N (sm + share (N (12 * t + i)) 2) := by rw [shS, if_neg (by omega)]
        rw [e9] at hk9
        subst ex_1
        exact ih _ _ (by omega) (by omega) hk9
  refine L_1 (c + 1) 0 0 (by omega) (by omega) ?_
  refine v_iload_n C 0 dX2_sumOfShares_31 rfl ?_
  exact v_iret C dX2_sumOfShares_32 rfl rfl
set_option maxHeartbeats 4000000 in
set_option maxRecDepth 100000 in
theorem c_X2_sumOfShares_3 {l : Launch} {P : L5} {D : va_G} {N F T : Nat → Nat → Int32} {K : Nat → Int32} {A : Nat → Nat → Int32} {w : Int64} {t : Nat} (ht : t < 2) {c : Nat} (hc : T t 1 = nI c) (h12 : c ≤ 12) : CtI l yX2_sumOfShares cX2_sumOfShares 4 .int 3 0 0 P D (nW P) (nW P) False (cw P N F T K A w) (cw P N F T K A w) [.ref (rT P t), .int 3] (shS (c + 1) 3 c (12 * t) 0 N 0) := by
  refine mk_Met pl_X2 [(0, .ref (rT P t)), (1, .int 3)] rfl (Nat.le_of_ble_eq_true rfl) ?_
  intro pg en sg mg ag bg mt cd C
  refine v_iconst (v := 0) C dX2_sumOfShares_0 rfl ?_
  refine v_istore_n (lv' := [(2, .int 0), (0, .ref (rT P t)), (1, .int 3)]) C dX2_sumOfShares_1 rfl (by decide) rfl ?_
  refine v_iconst (v := 0) C dX2_sumOfShares_2 rfl ?_
  refine v_istore_n (lv' := [(3, .int 0), (2, .int 0), (0, .ref (rT P t)), (1, .int 3)]) C dX2_sumOfShares_3 rfl (by decide) rfl ?_
  have L_1 : ∀ (n : Nat) (i : Nat) (sm : Int32), i ≤ c → c < i + n → V pg l en (rmO 3 0 0) sg mg ag bg mt cd P D (MQ bg (QcI P D (nW P) False (cw P N F T K A w) (shS (c + 1) 3 c (12 * t) 0 N 0)) ag sg 0 0 (aO P)) 4 (nW P) False (cw P N F T K A w) 0 0 31 [(2, .int (shS n 3 c (12 * t) i N sm))] [] → V pg l en (rmO 3 0 0) sg mg ag bg mt cd P D (MQ bg (QcI P D (nW P) False (cw P N F T K A w) (shS (c + 1) 3 c (12 * t) 0 N 0)) ag sg 0 0 (aO P)) 4 (nW P) False (cw P N F T K A w) 0 0 4 [(3, .int (nI i)), (2, .int sm), (0, .ref (rT P t)), (1, .int 3)] [] := by
    intro n
    induction n with
    | zero => intro i sm h1 h2; omega
    | succ n ih =>
      intro i sm h1 h2 hk9
      refine v_iload_n C 0 dX2_sumOfShares_4 rfl ?_
      refine v_aload_n C 2 dX2_sumOfShares_5 rfl ?_
      refine v_gTu C ht 1 (by decide) k_409 rfl dX2_sumOfShares_6 ?_
      refine v_icmp_ge (tgt := 31) C dX2_sumOfShares_9 (by decide) (fun h9_1 => ?_) (fun h9_1 => ?_)
      · refine v_lv [1] rfl ?_
        have hic : c ≤ i := (leC hc h12 h1).mp h9_1
        have e9 : shS (n + 1) 3 c (12 * t) i N sm = sm := by rw [shS, if_pos hic]
        rw [e9] at hk9
        exact hk9
      · have hic : i < c := Nat.not_le.mp (fun q => h9_1 ((leC hc h12 h1).mpr q))
        refine v_iload_n C 1 dX2_sumOfShares_12 rfl ?_
        refine v_aload_n C 2 dX2_sumOfShares_13 rfl ?_
        refine v_gTu C ht 2 (by decide) k_411 rfl dX2_sumOfShares_14 ?_
        refine v_iload_n C 0 dX2_sumOfShares_17 rfl ?_
        refine v_aaNk C i ht (nI_clamp (by omega)) (vp_in_nI (by omega) (by omega)) dX2_sumOfShares_18 ?_
        refine v_iload_n C 3 dX2_sumOfShares_19 rfl ?_
        refine go_I (run_VN C (c_X1_shareOfTotal_3 (by omega)) k_183 k_3 (List.mem_of_getElem? (i := 5) rfl) k_182 ks_8 dd_X1_shareOfTotal ⟨Nat.le_of_ble_eq_true rfl, Nat.le_of_ble_eq_true rfl⟩ (rcN (by omega)) rfl (Nat.le_of_ble_eq_true rfl) dX2_sumOfShares_20 ⟨Nat.le_of_ble_eq_true rfl, Nat.le_of_ble_eq_true rfl⟩) ?_
        refine v_iadd C dX2_sumOfShares_23 ?_
        refine v_top (fun x_1 ex_1 => ?_)
        refine v_istore_n (lv' := [(2, .int x_1), (3, .int (nI i)), (0, .ref (rT P t)), (1, .int 3)]) C dX2_sumOfShares_24 rfl (by decide) rfl ?_
        refine v_iinc (b := (nI (i + 1))) (lv' := [(3, .int (nI (i + 1))), (2, .int x_1), (0, .ref (rT P t)), (1, .int 3)]) C 1 dX2_sumOfShares_25 rfl (nI_1 _) (by decide) rfl ?_
        refine v_goto (tgt := 4) C dX2_sumOfShares_28 (by decide) ?_
        have e9 : shS (n + 1) 3 c (12 * t) i N sm = shS n 3 c (12 * t) (i + 1) N (sm + share (N (12 * t + i)) 3) := by rw [shS, if_neg (by omega)]
        rw [e9] at hk9
        subst ex_1
        exact ih _ _ (by omega) (by omega) hk9
  refine L_1 (c + 1) 0 0 (by omega) (by omega) ?_
  refine v_iload_n C 0 dX2_sumOfShares_31 rfl ?_
  exact v_iret C dX2_sumOfShares_32 rfl rfl
set_option maxHeartbeats 4000000 in
set_option maxRecDepth 100000 in
theorem c_X2_sumOfShares_4 {l : Launch} {P : L5} {D : va_G} {N F T : Nat → Nat → Int32} {K : Nat → Int32} {A : Nat → Nat → Int32} {w : Int64} {t : Nat} (ht : t < 2) {c : Nat} (hc : T t 1 = nI c) (h12 : c ≤ 12) : CtI l yX2_sumOfShares cX2_sumOfShares 4 .int 3 0 0 P D (nW P) (nW P) False (cw P N F T K A w) (cw P N F T K A w) [.ref (rT P t), .int 4] (shS (c + 1) 4 c (12 * t) 0 N 0) := by
  refine mk_Met pl_X2 [(0, .ref (rT P t)), (1, .int 4)] rfl (Nat.le_of_ble_eq_true rfl) ?_
  intro pg en sg mg ag bg mt cd C
  refine v_iconst (v := 0) C dX2_sumOfShares_0 rfl ?_
  refine v_istore_n (lv' := [(2, .int 0), (0, .ref (rT P t)), (1, .int 4)]) C dX2_sumOfShares_1 rfl (by decide) rfl ?_
  refine v_iconst (v := 0) C dX2_sumOfShares_2 rfl ?_
  refine v_istore_n (lv' := [(3, .int 0), (2, .int 0), (0, .ref (rT P t)), (1, .int 4)]) C dX2_sumOfShares_3 rfl (by decide) rfl ?_
  have L_1 : ∀ (n : Nat) (i : Nat) (sm : Int32), i ≤ c → c < i + n → V pg l en (rmO 3 0 0) sg mg ag bg mt cd P D (MQ bg (QcI P D (nW P) False (cw P N F T K A w) (shS (c + 1) 4 c (12 * t) 0 N 0)) ag sg 0 0 (aO P)) 4 (nW P) False (cw P N F T K A w) 0 0 31 [(2, .int (shS n 4 c (12 * t) i N sm))] [] → V pg l en (rmO 3 0 0) sg mg ag bg mt cd P D (MQ bg (QcI P D (nW P) False (cw P N F T K A w) (shS (c + 1) 4 c (12 * t) 0 N 0)) ag sg 0 0 (aO P)) 4 (nW P) False (cw P N F T K A w) 0 0 4 [(3, .int (nI i)), (2, .int sm), (0, .ref (rT P t)), (1, .int 4)] [] := by
    intro n
    induction n with
    | zero => intro i sm h1 h2; omega
    | succ n ih =>
      intro i sm h1 h2 hk9
      refine v_iload_n C 0 dX2_sumOfShares_4 rfl ?_
      refine v_aload_n C 2 dX2_sumOfShares_5 rfl ?_
      refine v_gTu C ht 1 (by decide) k_409 rfl dX2_sumOfShares_6 ?_
      refine v_icmp_ge (tgt := 31) C dX2_sumOfShares_9 (by decide) (fun h9_1 => ?_) (fun h9_1 => ?_)
      · refine v_lv [1] rfl ?_
        have hic : c ≤ i := (leC hc h12 h1).mp h9_1
        have e9 : shS (n + 1) 4 c (12 * t) i N sm = sm := by rw [shS, if_pos hic]
        rw [e9] at hk9
        exact hk9
      · have hic : i < c := Nat.not_le.mp (fun q => h9_1 ((leC hc h12 h1).mpr q))
        refine v_iload_n C 1 dX2_sumOfShares_12 rfl ?_
        refine v_aload_n C 2 dX2_sumOfShares_13 rfl ?_
        refine v_gTu C ht 2 (by decide) k_411 rfl dX2_sumOfShares_14 ?_
        refine v_iload_n C 0 dX2_sumOfShares_17 rfl ?_
        refine v_aaNk C i ht (nI_clamp (by omega)) (vp_in_nI (by omega) (by omega)) dX2_sumOfShares_18 ?_
        refine v_iload_n C 3 dX2_sumOfShares_19 rfl ?_
        refine go_I (run_VN C (c_X1_shareOfTotal_4 (by omega)) k_183 k_3 (List.mem_of_getElem? (i := 5) rfl) k_182 ks_8 dd_X1_shareOfTotal ⟨Nat.le_of_ble_eq_true rfl, Nat.le_of_ble_eq_true rfl⟩ (rcN (by omega)) rfl (Nat.le_of_ble_eq_true rfl) dX2_sumOfShares_20 ⟨Nat.le_of_ble_eq_true rfl, Nat.le_of_ble_eq_true rfl⟩) ?_
        refine v_iadd C dX2_sumOfShares_23 ?_
        refine v_top (fun x_1 ex_1 => ?_)
        refine v_istore_n (lv' := [(2, .int x_1), (3, .int (nI i)), (0, .ref (rT P t)), (1, .int 4)]) C dX2_sumOfShares_24 rfl (by decide) rfl ?_
        refine v_iinc (b := (nI (i + 1))) (lv' := [(3, .int (nI (i + 1))), (2, .int x_1), (0, .ref (rT P t)), (1, .int 4)]) C 1 dX2_sumOfShares_25 rfl (nI_1 _) (by decide) rfl ?_
        refine v_goto (tgt := 4) C dX2_sumOfShares_28 (by decide) ?_
        have e9 : shS (n + 1) 4 c (12 * t) i N sm = shS n 4 c (12 * t) (i + 1) N (sm + share (N (12 * t + i)) 4) := by rw [shS, if_neg (by omega)]
        rw [e9] at hk9
        subst ex_1
        exact ih _ _ (by omega) (by omega) hk9
  refine L_1 (c + 1) 0 0 (by omega) (by omega) ?_
  refine v_iload_n C 0 dX2_sumOfShares_31 rfl ?_
  exact v_iret C dX2_sumOfShares_32 rfl rfl
set_option maxHeartbeats 4000000 in
set_option maxRecDepth 100000 in
theorem c_X2_sumOfShares_5 {l : Launch} {P : L5} {D : va_G} {N F T : Nat → Nat → Int32} {K : Nat → Int32} {A : Nat → Nat → Int32} {w : Int64} {t : Nat} (ht : t < 2) {c : Nat} (hc : T t 1 = nI c) (h12 : c ≤ 12) : CtI l yX2_sumOfShares cX2_sumOfShares 4 .int 3 0 0 P D (nW P) (nW P) False (cw P N F T K A w) (cw P N F T K A w) [.ref (rT P t), .int 5] (shS (c + 1) 5 c (12 * t) 0 N 0) := by
  refine mk_Met pl_X2 [(0, .ref (rT P t)), (1, .int 5)] rfl (Nat.le_of_ble_eq_true rfl) ?_
  intro pg en sg mg ag bg mt cd C
  refine v_iconst (v := 0) C dX2_sumOfShares_0 rfl ?_
  refine v_istore_n (lv' := [(2, .int 0), (0, .ref (rT P t)), (1, .int 5)]) C dX2_sumOfShares_1 rfl (by decide) rfl ?_
  refine v_iconst (v := 0) C dX2_sumOfShares_2 rfl ?_
  refine v_istore_n (lv' := [(3, .int 0), (2, .int 0), (0, .ref (rT P t)), (1, .int 5)]) C dX2_sumOfShares_3 rfl (by decide) rfl ?_
  have L_1 : ∀ (n : Nat) (i : Nat) (sm : Int32), i ≤ c → c < i + n → V pg l en (rmO 3 0 0) sg mg ag bg mt cd P D (MQ bg (QcI P D (nW P) False (cw P N F T K A w) (shS (c + 1) 5 c (12 * t) 0 N 0)) ag sg 0 0 (aO P)) 4 (nW P) False (cw P N F T K A w) 0 0 31 [(2, .int (shS n 5 c (12 * t) i N sm))] [] → V pg l en (rmO 3 0 0) sg mg ag bg mt cd P D (MQ bg (QcI P D (nW P) False (cw P N F T K A w) (shS (c + 1) 5 c (12 * t) 0 N 0)) ag sg 0 0 (aO P)) 4 (nW P) False (cw P N F T K A w) 0 0 4 [(3, .int (nI i)), (2, .int sm), (0, .ref (rT P t)), (1, .int 5)] [] := by
    intro n
    induction n with
    | zero => intro i sm h1 h2; omega
    | succ n ih =>
      intro i sm h1 h2 hk9
      refine v_iload_n C 0 dX2_sumOfShares_4 rfl ?_
      refine v_aload_n C 2 dX2_sumOfShares_5 rfl ?_
      refine v_gTu C ht 1 (by decide) k_409 rfl dX2_sumOfShares_6 ?_
      refine v_icmp_ge (tgt := 31) C dX2_sumOfShares_9 (by decide) (fun h9_1 => ?_) (fun h9_1 => ?_)
      · refine v_lv [1] rfl ?_
        have hic : c ≤ i := (leC hc h12 h1).mp h9_1
        have e9 : shS (n + 1) 5 c (12 * t) i N sm = sm := by rw [shS, if_pos hic]
        rw [e9] at hk9
        exact hk9
      · have hic : i < c := Nat.not_le.mp (fun q => h9_1 ((leC hc h12 h1).mpr q))
        refine v_iload_n C 1 dX2_sumOfShares_12 rfl ?_
        refine v_aload_n C 2 dX2_sumOfShares_13 rfl ?_
        refine v_gTu C ht 2 (by decide) k_411 rfl dX2_sumOfShares_14 ?_
        refine v_iload_n C 0 dX2_sumOfShares_17 rfl ?_
        refine v_aaNk C i ht (nI_clamp (by omega)) (vp_in_nI (by omega) (by omega)) dX2_sumOfShares_18 ?_
        refine v_iload_n C 3 dX2_sumOfShares_19 rfl ?_
        refine go_I (run_VN C (c_X1_shareOfTotal_5 (by omega)) k_183 k_3 (List.mem_of_getElem? (i := 5) rfl) k_182 ks_8 dd_X1_shareOfTotal ⟨Nat.le_of_ble_eq_true rfl, Nat.le_of_ble_eq_true rfl⟩ (rcN (by omega)) rfl (Nat.le_of_ble_eq_true rfl) dX2_sumOfShares_20 ⟨Nat.le_of_ble_eq_true rfl, Nat.le_of_ble_eq_true rfl⟩) ?_
        refine v_iadd C dX2_sumOfShares_23 ?_
        refine v_top (fun x_1 ex_1 => ?_)
        refine v_istore_n (lv' := [(2, .int x_1), (3, .int (nI i)), (0, .ref (rT P t)), (1, .int 5)]) C dX2_sumOfShares_24 rfl (by decide) rfl ?_
        refine v_iinc (b := (nI (i + 1))) (lv' := [(3, .int (nI (i + 1))), (2, .int x_1), (0, .ref (rT P t)), (1, .int 5)]) C 1 dX2_sumOfShares_25 rfl (nI_1 _) (by decide) rfl ?_
        refine v_goto (tgt := 4) C dX2_sumOfShares_28 (by decide) ?_
        have e9 : shS (n + 1) 5 c (12 * t) i N sm = shS n 5 c (12 * t) (i + 1) N (sm + share (N (12 * t + i)) 5) := by rw [shS, if_neg (by omega)]
        rw [e9] at hk9
        subst ex_1
        exact ih _ _ (by omega) (by omega) hk9
  refine L_1 (c + 1) 0 0 (by omega) (by omega) ?_
  refine v_iload_n C 0 dX2_sumOfShares_31 rfl ?_
  exact v_iret C dX2_sumOfShares_32 rfl rfl
set_option maxHeartbeats 4000000 in
set_option maxRecDepth 100000 in
theorem c_X2_sumOfShares_7 {l : Launch} {P : L5} {D : va_G} {N F T : Nat → Nat → Int32} {K : Nat → Int32} {A : Nat → Nat → Int32} {w : Int64} {t : Nat} (ht : t < 2) {c : Nat} (hc : T t 1 = nI c) (h12 : c ≤ 12) : CtI l yX2_sumOfShares cX2_sumOfShares 4 .int 3 0 0 P D (nW P) (nW P) False (cw P N F T K A w) (cw P N F T K A w) [.ref (rT P t), .int 7] (shS (c + 1) 7 c (12 * t) 0 N 0) := by
  refine mk_Met pl_X2 [(0, .ref (rT P t)), (1, .int 7)] rfl (Nat.le_of_ble_eq_true rfl) ?_
  intro pg en sg mg ag bg mt cd C
  refine v_iconst (v := 0) C dX2_sumOfShares_0 rfl ?_
  refine v_istore_n (lv' := [(2, .int 0), (0, .ref (rT P t)), (1, .int 7)]) C dX2_sumOfShares_1 rfl (by decide) rfl ?_
  refine v_iconst (v := 0) C dX2_sumOfShares_2 rfl ?_
  refine v_istore_n (lv' := [(3, .int 0), (2, .int 0), (0, .ref (rT P t)), (1, .int 7)]) C dX2_sumOfShares_3 rfl (by decide) rfl ?_
  have L_1 : ∀ (n : Nat) (i : Nat) (sm : Int32), i ≤ c → c < i + n → V pg l en (rmO 3 0 0) sg mg ag bg mt cd P D (MQ bg (QcI P D (nW P) False (cw P N F T K A w) (shS (c + 1) 7 c (12 * t) 0 N 0)) ag sg 0 0 (aO P)) 4 (nW P) False (cw P N F T K A w) 0 0 31 [(2, .int (shS n 7 c (12 * t) i N sm))] [] → V pg l en (rmO 3 0 0) sg mg ag bg mt cd P D (MQ bg (QcI P D (nW P) False (cw P N F T K A w) (shS (c + 1) 7 c (12 * t) 0 N 0)) ag sg 0 0 (aO P)) 4 (nW P) False (cw P N F T K A w) 0 0 4 [(3, .int (nI i)), (2, .int sm), (0, .ref (rT P t)), (1, .int 7)] [] := by
    intro n
    induction n with
    | zero => intro i sm h1 h2; omega
    | succ n ih =>
      intro i sm h1 h2 hk9
      refine v_iload_n C 0 dX2_sumOfShares_4 rfl ?_
      refine v_aload_n C 2 dX2_sumOfShares_5 rfl ?_
      refine v_gTu C ht 1 (by decide) k_409 rfl dX2_sumOfShares_6 ?_
      refine v_icmp_ge (tgt := 31) C dX2_sumOfShares_9 (by decide) (fun h9_1 => ?_) (fun h9_1 => ?_)
      · refine v_lv [1] rfl ?_
        have hic : c ≤ i := (leC hc h12 h1).mp h9_1
        have e9 : shS (n + 1) 7 c (12 * t) i N sm = sm := by rw [shS, if_pos hic]
        rw [e9] at hk9
        exact hk9
      · have hic : i < c := Nat.not_le.mp (fun q => h9_1 ((leC hc h12 h1).mpr q))
        refine v_iload_n C 1 dX2_sumOfShares_12 rfl ?_
        refine v_aload_n C 2 dX2_sumOfShares_13 rfl ?_
        refine v_gTu C ht 2 (by decide) k_411 rfl dX2_sumOfShares_14 ?_
        refine v_iload_n C 0 dX2_sumOfShares_17 rfl ?_
        refine v_aaNk C i ht (nI_clamp (by omega)) (vp_in_nI (by omega) (by omega)) dX2_sumOfShares_18 ?_
        refine v_iload_n C 3 dX2_sumOfShares_19 rfl ?_
        refine go_I (run_VN C (c_X1_shareOfTotal_7 (by omega)) k_183 k_3 (List.mem_of_getElem? (i := 5) rfl) k_182 ks_8 dd_X1_shareOfTotal ⟨Nat.le_of_ble_eq_true rfl, Nat.le_of_ble_eq_true rfl⟩ (rcN (by omega)) rfl (Nat.le_of_ble_eq_true rfl) dX2_sumOfShares_20 ⟨Nat.le_of_ble_eq_true rfl, Nat.le_of_ble_eq_true rfl⟩) ?_
        refine v_iadd C dX2_sumOfShares_23 ?_
        refine v_top (fun x_1 ex_1 => ?_)
        refine v_istore_n (lv' := [(2, .int x_1), (3, .int (nI i)), (0, .ref (rT P t)), (1, .int 7)]) C dX2_sumOfShares_24 rfl (by decide) rfl ?_
        refine v_iinc (b := (nI (i + 1))) (lv' := [(3, .int (nI (i + 1))), (2, .int x_1), (0, .ref (rT P t)), (1, .int 7)]) C 1 dX2_sumOfShares_25 rfl (nI_1 _) (by decide) rfl ?_
        refine v_goto (tgt := 4) C dX2_sumOfShares_28 (by decide) ?_
        have e9 : shS (n + 1) 7 c (12 * t) i N sm = shS n 7 c (12 * t) (i + 1) N (sm + share (N (12 * t + i)) 7) := by rw [shS, if_neg (by omega)]
        rw [e9] at hk9
        subst ex_1
        exact ih _ _ (by omega) (by omega) hk9
  refine L_1 (c + 1) 0 0 (by omega) (by omega) ?_
  refine v_iload_n C 0 dX2_sumOfShares_31 rfl ?_
  exact v_iret C dX2_sumOfShares_32 rfl rfl
set_option maxHeartbeats 4000000 in
set_option maxRecDepth 100000 in
theorem c_X2_sumOfShares_8 {l : Launch} {P : L5} {D : va_G} {N F T : Nat → Nat → Int32} {K : Nat → Int32} {A : Nat → Nat → Int32} {w : Int64} {t : Nat} (ht : t < 2) {c : Nat} (hc : T t 1 = nI c) (h12 : c ≤ 12) : CtI l yX2_sumOfShares cX2_sumOfShares 4 .int 3 0 0 P D (nW P) (nW P) False (cw P N F T K A w) (cw P N F T K A w) [.ref (rT P t), .int 8] (shS (c + 1) 8 c (12 * t) 0 N 0) := by
  refine mk_Met pl_X2 [(0, .ref (rT P t)), (1, .int 8)] rfl (Nat.le_of_ble_eq_true rfl) ?_
  intro pg en sg mg ag bg mt cd C
  refine v_iconst (v := 0) C dX2_sumOfShares_0 rfl ?_
  refine v_istore_n (lv' := [(2, .int 0), (0, .ref (rT P t)), (1, .int 8)]) C dX2_sumOfShares_1 rfl (by decide) rfl ?_
  refine v_iconst (v := 0) C dX2_sumOfShares_2 rfl ?_
  refine v_istore_n (lv' := [(3, .int 0), (2, .int 0), (0, .ref (rT P t)), (1, .int 8)]) C dX2_sumOfShares_3 rfl (by decide) rfl ?_
  have L_1 : ∀ (n : Nat) (i : Nat) (sm : Int32), i ≤ c → c < i + n → V pg l en (rmO 3 0 0) sg mg ag bg mt cd P D (MQ bg (QcI P D (nW P) False (cw P N F T K A w) (shS (c + 1) 8 c (12 * t) 0 N 0)) ag sg 0 0 (aO P)) 4 (nW P) False (cw P N F T K A w) 0 0 31 [(2, .int (shS n 8 c (12 * t) i N sm))] [] → V pg l en (rmO 3 0 0) sg mg ag bg mt cd P D (MQ bg (QcI P D (nW P) False (cw P N F T K A w) (shS (c + 1) 8 c (12 * t) 0 N 0)) ag sg 0 0 (aO P)) 4 (nW P) False (cw P N F T K A w) 0 0 4 [(3, .int (nI i)), (2, .int sm), (0, .ref (rT P t)), (1, .int 8)] [] := by
    intro n
    induction n with
    | zero => intro i sm h1 h2; omega
    | succ n ih =>
      intro i sm h1 h2 hk9
      refine v_iload_n C 0 dX2_sumOfShares_4 rfl ?_
      refine v_aload_n C 2 dX2_sumOfShares_5 rfl ?_
      refine v_gTu C ht 1 (by decide) k_409 rfl dX2_sumOfShares_6 ?_
      refine v_icmp_ge (tgt := 31) C dX2_sumOfShares_9 (by decide) (fun h9_1 => ?_) (fun h9_1 => ?_)
      · refine v_lv [1] rfl ?_
        have hic : c ≤ i := (leC hc h12 h1).mp h9_1
        have e9 : shS (n + 1) 8 c (12 * t) i N sm = sm := by rw [shS, if_pos hic]
        rw [e9] at hk9
        exact hk9
      · have hic : i < c := Nat.not_le.mp (fun q => h9_1 ((leC hc h12 h1).mpr q))
        refine v_iload_n C 1 dX2_sumOfShares_12 rfl ?_
        refine v_aload_n C 2 dX2_sumOfShares_13 rfl ?_
        refine v_gTu C ht 2 (by decide) k_411 rfl dX2_sumOfShares_14 ?_
        refine v_iload_n C 0 dX2_sumOfShares_17 rfl ?_
        refine v_aaNk C i ht (nI_clamp (by omega)) (vp_in_nI (by omega) (by omega)) dX2_sumOfShares_18 ?_
        refine v_iload_n C 3 dX2_sumOfShares_19 rfl ?_
        refine go_I (run_VN C (c_X1_shareOfTotal_8 (by omega)) k_183 k_3 (List.mem_of_getElem? (i := 5) rfl) k_182 ks_8 dd_X1_shareOfTotal ⟨Nat.le_of_ble_eq_true rfl, Nat.le_of_ble_eq_true rfl⟩ (rcN (by omega)) rfl (Nat.le_of_ble_eq_true rfl) dX2_sumOfShares_20 ⟨Nat.le_of_ble_eq_true rfl, Nat.le_of_ble_eq_true rfl⟩) ?_
        refine v_iadd C dX2_sumOfShares_23 ?_
        refine v_top (fun x_1 ex_1 => ?_)
        refine v_istore_n (lv' := [(2, .int x_1), (3, .int (nI i)), (0, .ref (rT P t)), (1, .int 8)]) C dX2_sumOfShares_24 rfl (by decide) rfl ?_
        refine v_iinc (b := (nI (i + 1))) (lv' := [(3, .int (nI (i + 1))), (2, .int x_1), (0, .ref (rT P t)), (1, .int 8)]) C 1 dX2_sumOfShares_25 rfl (nI_1 _) (by decide) rfl ?_
        refine v_goto (tgt := 4) C dX2_sumOfShares_28 (by decide) ?_
        have e9 : shS (n + 1) 8 c (12 * t) i N sm = shS n 8 c (12 * t) (i + 1) N (sm + share (N (12 * t + i)) 8) := by rw [shS, if_neg (by omega)]
        rw [e9] at hk9
        subst ex_1
        exact ih _ _ (by omega) (by omega) hk9
  refine L_1 (c + 1) 0 0 (by omega) (by omega) ?_
  refine v_iload_n C 0 dX2_sumOfShares_31 rfl ?_
  exact v_iret C dX2_sumOfShares_32 rfl rfl
set_option maxHeartbeats 4000000 in
set_option maxRecDepth 100000 in
theorem c_X2_sumOfShares_9 {l : Launch} {P : L5} {D : va_G} {N F T : Nat → Nat → Int32} {K : Nat → Int32} {A : Nat → Nat → Int32} {w : Int64} {t : Nat} (ht : t < 2) {c : Nat} (hc : T t 1 = nI c) (h12 : c ≤ 12) : CtI l yX2_sumOfShares cX2_sumOfShares 4 .int 3 0 0 P D (nW P) (nW P) False (cw P N F T K A w) (cw P N F T K A w) [.ref (rT P t), .int 9] (shS (c + 1) 9 c (12 * t) 0 N 0) := by
  refine mk_Met pl_X2 [(0, .ref (rT P t)), (1, .int 9)] rfl (Nat.le_of_ble_eq_true rfl) ?_
  intro pg en sg mg ag bg mt cd C
  refine v_iconst (v := 0) C dX2_sumOfShares_0 rfl ?_
  refine v_istore_n (lv' := [(2, .int 0), (0, .ref (rT P t)), (1, .int 9)]) C dX2_sumOfShares_1 rfl (by decide) rfl ?_
  refine v_iconst (v := 0) C dX2_sumOfShares_2 rfl ?_
  refine v_istore_n (lv' := [(3, .int 0), (2, .int 0), (0, .ref (rT P t)), (1, .int 9)]) C dX2_sumOfShares_3 rfl (by decide) rfl ?_
  have L_1 : ∀ (n : Nat) (i : Nat) (sm : Int32), i ≤ c → c < i + n → V pg l en (rmO 3 0 0) sg mg ag bg mt cd P D (MQ bg (QcI P D (nW P) False (cw P N F T K A w) (shS (c + 1) 9 c (12 * t) 0 N 0)) ag sg 0 0 (aO P)) 4 (nW P) False (cw P N F T K A w) 0 0 31 [(2, .int (shS n 9 c (12 * t) i N sm))] [] → V pg l en (rmO 3 0 0) sg mg ag bg mt cd P D (MQ bg (QcI P D (nW P) False (cw P N F T K A w) (shS (c + 1) 9 c (12 * t) 0 N 0)) ag sg 0 0 (aO P)) 4 (nW P) False (cw P N F T K A w) 0 0 4 [(3, .int (nI i)), (2, .int sm), (0, .ref (rT P t)), (1, .int 9)] [] := by
    intro n
    induction n with
    | zero => intro i sm h1 h2; omega
    | succ n ih =>
      intro i sm h1 h2 hk9
      refine v_iload_n C 0 dX2_sumOfShares_4 rfl ?_
      refine v_aload_n C 2 dX2_sumOfShares_5 rfl ?_
      refine v_gTu C ht 1 (by decide) k_409 rfl dX2_sumOfShares_6 ?_
      refine v_icmp_ge (tgt := 31) C dX2_sumOfShares_9 (by decide) (fun h9_1 => ?_) (fun h9_1 => ?_)
      · refine v_lv [1] rfl ?_
        have hic : c ≤ i := (leC hc h12 h1).mp h9_1
        have e9 : shS (n + 1) 9 c (12 * t) i N sm = sm := by rw [shS, if_pos hic]
        rw [e9] at hk9
        exact hk9
      · have hic : i < c := Nat.not_le.mp (fun q => h9_1 ((leC hc h12 h1).mpr q))
        refine v_iload_n C 1 dX2_sumOfShares_12 rfl ?_
        refine v_aload_n C 2 dX2_sumOfShares_13 rfl ?_
        refine v_gTu C ht 2 (by decide) k_411 rfl dX2_sumOfShares_14 ?_
        refine v_iload_n C 0 dX2_sumOfShares_17 rfl ?_
        refine v_aaNk C i ht (nI_clamp (by omega)) (vp_in_nI (by omega) (by omega)) dX2_sumOfShares_18 ?_
        refine v_iload_n C 3 dX2_sumOfShares_19 rfl ?_
        refine go_I (run_VN C (c_X1_shareOfTotal_9 (by omega)) k_183 k_3 (List.mem_of_getElem? (i := 5) rfl) k_182 ks_8 dd_X1_shareOfTotal ⟨Nat.le_of_ble_eq_true rfl, Nat.le_of_ble_eq_true rfl⟩ (rcN (by omega)) rfl (Nat.le_of_ble_eq_true rfl) dX2_sumOfShares_20 ⟨Nat.le_of_ble_eq_true rfl, Nat.le_of_ble_eq_true rfl⟩) ?_
        refine v_iadd C dX2_sumOfShares_23 ?_
        refine v_top (fun x_1 ex_1 => ?_)
        refine v_istore_n (lv' := [(2, .int x_1), (3, .int (nI i)), (0, .ref (rT P t)), (1, .int 9)]) C dX2_sumOfShares_24 rfl (by decide) rfl ?_
        refine v_iinc (b := (nI (i + 1))) (lv' := [(3, .int (nI (i + 1))), (2, .int x_1), (0, .ref (rT P t)), (1, .int 9)]) C 1 dX2_sumOfShares_25 rfl (nI_1 _) (by decide) rfl ?_
        refine v_goto (tgt := 4) C dX2_sumOfShares_28 (by decide) ?_
        have e9 : shS (n + 1) 9 c (12 * t) i N sm = shS n 9 c (12 * t) (i + 1) N (sm + share (N (12 * t + i)) 9) := by rw [shS, if_neg (by omega)]
        rw [e9] at hk9
        subst ex_1
        exact ih _ _ (by omega) (by omega) hk9
  refine L_1 (c + 1) 0 0 (by omega) (by omega) ?_
  refine v_iload_n C 0 dX2_sumOfShares_31 rfl ?_
  exact v_iret C dX2_sumOfShares_32 rfl rfl
set_option maxHeartbeats 4000000 in
set_option maxRecDepth 100000 in
theorem c_X2_sumOfShares_10 {l : Launch} {P : L5} {D : va_G} {N F T : Nat → Nat → Int32} {K : Nat → Int32} {A : Nat → Nat → Int32} {w : Int64} {t : Nat} (ht : t < 2) {c : Nat} (hc : T t 1 = nI c) (h12 : c ≤ 12) : CtI l yX2_sumOfShares cX2_sumOfShares 4 .int 3 0 0 P D (nW P) (nW P) False (cw P N F T K A w) (cw P N F T K A w) [.ref (rT P t), .int 10] (shS (c + 1) 10 c (12 * t) 0 N 0) := by
  refine mk_Met pl_X2 [(0, .ref (rT P t)), (1, .int 10)] rfl (Nat.le_of_ble_eq_true rfl) ?_
  intro pg en sg mg ag bg mt cd C
  refine v_iconst (v := 0) C dX2_sumOfShares_0 rfl ?_
  refine v_istore_n (lv' := [(2, .int 0), (0, .ref (rT P t)), (1, .int 10)]) C dX2_sumOfShares_1 rfl (by decide) rfl ?_
  refine v_iconst (v := 0) C dX2_sumOfShares_2 rfl ?_
  refine v_istore_n (lv' := [(3, .int 0), (2, .int 0), (0, .ref (rT P t)), (1, .int 10)]) C dX2_sumOfShares_3 rfl (by decide) rfl ?_
  have L_1 : ∀ (n : Nat) (i : Nat) (sm : Int32), i ≤ c → c < i + n → V pg l en (rmO 3 0 0) sg mg ag bg mt cd P D (MQ bg (QcI P D (nW P) False (cw P N F T K A w) (shS (c + 1) 10 c (12 * t) 0 N 0)) ag sg 0 0 (aO P)) 4 (nW P) False (cw P N F T K A w) 0 0 31 [(2, .int (shS n 10 c (12 * t) i N sm))] [] → V pg l en (rmO 3 0 0) sg mg ag bg mt cd P D (MQ bg (QcI P D (nW P) False (cw P N F T K A w) (shS (c + 1) 10 c (12 * t) 0 N 0)) ag sg 0 0 (aO P)) 4 (nW P) False (cw P N F T K A w) 0 0 4 [(3, .int (nI i)), (2, .int sm), (0, .ref (rT P t)), (1, .int 10)] [] := by
    intro n
    induction n with
    | zero => intro i sm h1 h2; omega
    | succ n ih =>
      intro i sm h1 h2 hk9
      refine v_iload_n C 0 dX2_sumOfShares_4 rfl ?_
      refine v_aload_n C 2 dX2_sumOfShares_5 rfl ?_
      refine v_gTu C ht 1 (by decide) k_409 rfl dX2_sumOfShares_6 ?_
      refine v_icmp_ge (tgt := 31) C dX2_sumOfShares_9 (by decide) (fun h9_1 => ?_) (fun h9_1 => ?_)
      · refine v_lv [1] rfl ?_
        have hic : c ≤ i := (leC hc h12 h1).mp h9_1
        have e9 : shS (n + 1) 10 c (12 * t) i N sm = sm := by rw [shS, if_pos hic]
        rw [e9] at hk9
        exact hk9
      · have hic : i < c := Nat.not_le.mp (fun q => h9_1 ((leC hc h12 h1).mpr q))
        refine v_iload_n C 1 dX2_sumOfShares_12 rfl ?_
        refine v_aload_n C 2 dX2_sumOfShares_13 rfl ?_
        refine v_gTu C ht 2 (by decide) k_411 rfl dX2_sumOfShares_14 ?_
        refine v_iload_n C 0 dX2_sumOfShares_17 rfl ?_
        refine v_aaNk C i ht (nI_clamp (by omega)) (vp_in_nI (by omega) (by omega)) dX2_sumOfShares_18 ?_
        refine v_iload_n C 3 dX2_sumOfShares_19 rfl ?_
        refine go_I (run_VN C (c_X1_shareOfTotal_10 (by omega)) k_183 k_3 (List.mem_of_getElem? (i := 5) rfl) k_182 ks_8 dd_X1_shareOfTotal ⟨Nat.le_of_ble_eq_true rfl, Nat.le_of_ble_eq_true rfl⟩ (rcN (by omega)) rfl (Nat.le_of_ble_eq_true rfl) dX2_sumOfShares_20 ⟨Nat.le_of_ble_eq_true rfl, Nat.le_of_ble_eq_true rfl⟩) ?_
        refine v_iadd C dX2_sumOfShares_23 ?_
        refine v_top (fun x_1 ex_1 => ?_)
        refine v_istore_n (lv' := [(2, .int x_1), (3, .int (nI i)), (0, .ref (rT P t)), (1, .int 10)]) C dX2_sumOfShares_24 rfl (by decide) rfl ?_
        refine v_iinc (b := (nI (i + 1))) (lv' := [(3, .int (nI (i + 1))), (2, .int x_1), (0, .ref (rT P t)), (1, .int 10)]) C 1 dX2_sumOfShares_25 rfl (nI_1 _) (by decide) rfl ?_
        refine v_goto (tgt := 4) C dX2_sumOfShares_28 (by decide) ?_
        have e9 : shS (n + 1) 10 c (12 * t) i N sm = shS n 10 c (12 * t) (i + 1) N (sm + share (N (12 * t + i)) 10) := by rw [shS, if_neg (by omega)]
        rw [e9] at hk9
        subst ex_1
        exact ih _ _ (by omega) (by omega) hk9
  refine L_1 (c + 1) 0 0 (by omega) (by omega) ?_
  refine v_iload_n C 0 dX2_sumOfShares_31 rfl ?_
  exact v_iret C dX2_sumOfShares_32 rfl rfl
set_option maxHeartbeats 4000000 in
set_option maxRecDepth 100000 in
theorem c_X2_total_0 {l : Launch} {P : L5} {D : va_G} {N F T : Nat → Nat → Int32} {K : Nat → Int32} {A : Nat → Nat → Int32} {w : Int64} {t : Nat} (ht : t < 2) {c : Nat} (hc : T t 1 = nI c) (h12 : c ≤ 12) : CtI l yX2_total cX2_total 2 .int 4 0 0 P D (nW P) (nW P) False (cw P N F T K A w) (cw P N F T K A w) [.ref (rT P t), .int 0] (totN N F T t c 0) := by
  refine mk_Met pl_X2 [(0, .ref (rT P t)), (1, .int 0)] rfl (Nat.le_of_ble_eq_true rfl) ?_
  intro pg en sg mg ag bg mt cd C
  refine v_iload_n C 1 dX2_total_0 rfl ?_
  refine v_lookup (tgt := 36) C dX2_total_1 (by decide) rfl (by decide) ?_
  refine v_aload_n C 0 dX2_total_36 rfl ?_
  refine v_gTu C ht 0 (by decide) k_408 rfl dX2_total_37 ?_
  exact v_iret C dX2_total_40 rfl rfl
set_option maxHeartbeats 4000000 in
set_option maxRecDepth 100000 in
theorem c_X2_total_1 {l : Launch} {P : L5} {D : va_G} {N F T : Nat → Nat → Int32} {K : Nat → Int32} {A : Nat → Nat → Int32} {w : Int64} {t : Nat} (ht : t < 2) {c : Nat} (hc : T t 1 = nI c) (h12 : c ≤ 12) : CtI l yX2_total cX2_total 2 .int 4 0 0 P D (nW P) (nW P) False (cw P N F T K A w) (cw P N F T K A w) [.ref (rT P t), .int 1] (totN N F T t c 1) := by
  refine mk_Met pl_X2 [(0, .ref (rT P t)), (1, .int 1)] rfl (Nat.le_of_ble_eq_true rfl) ?_
  intro pg en sg mg ag bg mt cd C
  refine v_iload_n C 1 dX2_total_0 rfl ?_
  refine v_lookup (tgt := 41) C dX2_total_1 (by decide) rfl (by decide) ?_
  refine v_aload_n C 0 dX2_total_41 rfl ?_
  refine v_gTu C ht 1 (by decide) k_409 rfl dX2_total_42 ?_
  exact v_iret C dX2_total_45 rfl rfl
set_option maxHeartbeats 4000000 in
set_option maxRecDepth 100000 in
theorem c_X2_total_2 {l : Launch} {P : L5} {D : va_G} {N F T : Nat → Nat → Int32} {K : Nat → Int32} {A : Nat → Nat → Int32} {w : Int64} {t : Nat} (ht : t < 2) {c : Nat} (hc : T t 1 = nI c) (h12 : c ≤ 12) : CtI l yX2_total cX2_total 2 .int 4 0 0 P D (nW P) (nW P) False (cw P N F T K A w) (cw P N F T K A w) [.ref (rT P t), .int 2] (totN N F T t c 2) := by
  refine mk_Met pl_X2 [(0, .ref (rT P t)), (1, .int 2)] rfl (Nat.le_of_ble_eq_true rfl) ?_
  intro pg en sg mg ag bg mt cd C
  refine v_iload_n C 1 dX2_total_0 rfl ?_
  refine v_lookup (tgt := 51) C dX2_total_1 (by decide) rfl (by decide) ?_
  refine v_aload_n C 0 dX2_total_51 rfl ?_
  refine v_iload_n C 1 dX2_total_52 rfl ?_
  refine go_I (run_V C (c_X2_sumOfShares_2 ht hc h12) k_179 k_2 k_176 k_178 ks_7 dd_X2_sumOfShares ⟨Nat.le_of_ble_eq_true rfl, Nat.le_of_ble_eq_true rfl⟩ (rcT ht) rfl (Nat.le_of_ble_eq_true rfl) dX2_total_53 ⟨Nat.le_of_ble_eq_true rfl, Nat.le_of_ble_eq_true rfl⟩) ?_
  exact v_iret C dX2_total_56 rfl rfl
set_option maxHeartbeats 4000000 in
set_option maxRecDepth 100000 in
theorem c_X2_total_3 {l : Launch} {P : L5} {D : va_G} {N F T : Nat → Nat → Int32} {K : Nat → Int32} {A : Nat → Nat → Int32} {w : Int64} {t : Nat} (ht : t < 2) {c : Nat} (hc : T t 1 = nI c) (h12 : c ≤ 12) : CtI l yX2_total cX2_total 2 .int 4 0 0 P D (nW P) (nW P) False (cw P N F T K A w) (cw P N F T K A w) [.ref (rT P t), .int 3] (totN N F T t c 3) := by
  refine mk_Met pl_X2 [(0, .ref (rT P t)), (1, .int 3)] rfl (Nat.le_of_ble_eq_true rfl) ?_
  intro pg en sg mg ag bg mt cd C
  refine v_iload_n C 1 dX2_total_0 rfl ?_
  refine v_lookup (tgt := 51) C dX2_total_1 (by decide) rfl (by decide) ?_
  refine v_aload_n C 0 dX2_total_51 rfl ?_
  refine v_iload_n C 1 dX2_total_52 rfl ?_
  refine go_I (run_V C (c_X2_sumOfShares_3 ht hc h12) k_179 k_2 k_176 k_178 ks_7 dd_X2_sumOfShares ⟨Nat.le_of_ble_eq_true rfl, Nat.le_of_ble_eq_true rfl⟩ (rcT ht) rfl (Nat.le_of_ble_eq_true rfl) dX2_total_53 ⟨Nat.le_of_ble_eq_true rfl, Nat.le_of_ble_eq_true rfl⟩) ?_
  exact v_iret C dX2_total_56 rfl rfl
set_option maxHeartbeats 4000000 in
set_option maxRecDepth 100000 in
theorem c_X2_total_4 {l : Launch} {P : L5} {D : va_G} {N F T : Nat → Nat → Int32} {K : Nat → Int32} {A : Nat → Nat → Int32} {w : Int64} {t : Nat} (ht : t < 2) {c : Nat} (hc : T t 1 = nI c) (h12 : c ≤ 12) : CtI l yX2_total cX2_total 2 .int 4 0 0 P D (nW P) (nW P) False (cw P N F T K A w) (cw P N F T K A w) [.ref (rT P t), .int 4] (totN N F T t c 4) := by
  refine mk_Met pl_X2 [(0, .ref (rT P t)), (1, .int 4)] rfl (Nat.le_of_ble_eq_true rfl) ?_
  intro pg en sg mg ag bg mt cd C
  refine v_iload_n C 1 dX2_total_0 rfl ?_
  refine v_lookup (tgt := 51) C dX2_total_1 (by decide) rfl (by decide) ?_
  refine v_aload_n C 0 dX2_total_51 rfl ?_
  refine v_iload_n C 1 dX2_total_52 rfl ?_
  refine go_I (run_V C (c_X2_sumOfShares_4 ht hc h12) k_179 k_2 k_176 k_178 ks_7 dd_X2_sumOfShares ⟨Nat.le_of_ble_eq_true rfl, Nat.le_of_ble_eq_true rfl⟩ (rcT ht) rfl (Nat.le_of_ble_eq_true rfl) dX2_total_53 ⟨Nat.le_of_ble_eq_true rfl, Nat.le_of_ble_eq_true rfl⟩) ?_
  exact v_iret C dX2_total_56 rfl rfl
set_option maxHeartbeats 4000000 in
set_option maxRecDepth 100000 in
theorem c_X2_total_5 {l : Launch} {P : L5} {D : va_G} {N F T : Nat → Nat → Int32} {K : Nat → Int32} {A : Nat → Nat → Int32} {w : Int64} {t : Nat} (ht : t < 2) {c : Nat} (hc : T t 1 = nI c) (h12 : c ≤ 12) : CtI l yX2_total cX2_total 2 .int 4 0 0 P D (nW P) (nW P) False (cw P N F T K A w) (cw P N F T K A w) [.ref (rT P t), .int 5] (totN N F T t c 5) := by
  refine mk_Met pl_X2 [(0, .ref (rT P t)), (1, .int 5)] rfl (Nat.le_of_ble_eq_true rfl) ?_
  intro pg en sg mg ag bg mt cd C
  refine v_iload_n C 1 dX2_total_0 rfl ?_
  refine v_lookup (tgt := 51) C dX2_total_1 (by decide) rfl (by decide) ?_
  refine v_aload_n C 0 dX2_total_51 rfl ?_
  refine v_iload_n C 1 dX2_total_52 rfl ?_
  refine go_I (run_V C (c_X2_sumOfShares_5 ht hc h12) k_179 k_2 k_176 k_178 ks_7 dd_X2_sumOfShares ⟨Nat.le_of_ble_eq_true rfl, Nat.le_of_ble_eq_true rfl⟩ (rcT ht) rfl (Nat.le_of_ble_eq_true rfl) dX2_total_53 ⟨Nat.le_of_ble_eq_true rfl, Nat.le_of_ble_eq_true rfl⟩) ?_
  exact v_iret C dX2_total_56 rfl rfl
set_option maxHeartbeats 4000000 in
set_option maxRecDepth 100000 in
theorem c_X2_total_6 {l : Launch} {P : L5} {D : va_G} {N F T : Nat → Nat → Int32} {K : Nat → Int32} {A : Nat → Nat → Int32} {w : Int64} {t : Nat} (ht : t < 2) {c : Nat} (hc : T t 1 = nI c) (h12 : c ≤ 12) : CtI l yX2_total cX2_total 2 .int 4 0 0 P D (nW P) (nW P) False (cw P N F T K A w) (cw P N F T K A w) [.ref (rT P t), .int 6] (totN N F T t c 6) := by
  refine mk_Met pl_X2 [(0, .ref (rT P t)), (1, .int 6)] rfl (Nat.le_of_ble_eq_true rfl) ?_
  intro pg en sg mg ag bg mt cd C
  refine v_iload_n C 1 dX2_total_0 rfl ?_
  refine v_lookup (tgt := 46) C dX2_total_1 (by decide) rfl (by decide) ?_
  refine v_aload_n C 0 dX2_total_46 rfl ?_
  refine go_I (run_V C (c_X2_warehouseBags ht) k_175 k_2 k_172 k_174 ks_6 dd_X2_warehouseBags ⟨Nat.le_of_ble_eq_true rfl, Nat.le_of_ble_eq_true rfl⟩ (rcT ht) rfl (Nat.le_of_ble_eq_true rfl) dX2_total_47 ⟨Nat.le_of_ble_eq_true rfl, Nat.le_of_ble_eq_true rfl⟩) ?_
  exact v_iret C dX2_total_50 rfl rfl
set_option maxHeartbeats 4000000 in
set_option maxRecDepth 100000 in
theorem c_X2_total_7 {l : Launch} {P : L5} {D : va_G} {N F T : Nat → Nat → Int32} {K : Nat → Int32} {A : Nat → Nat → Int32} {w : Int64} {t : Nat} (ht : t < 2) {c : Nat} (hc : T t 1 = nI c) (h12 : c ≤ 12) : CtI l yX2_total cX2_total 2 .int 4 0 0 P D (nW P) (nW P) False (cw P N F T K A w) (cw P N F T K A w) [.ref (rT P t), .int 7] (totN N F T t c 7) := by
  refine mk_Met pl_X2 [(0, .ref (rT P t)), (1, .int 7)] rfl (Nat.le_of_ble_eq_true rfl) ?_
  intro pg en sg mg ag bg mt cd C
  refine v_iload_n C 1 dX2_total_0 rfl ?_
  refine v_lookup (tgt := 51) C dX2_total_1 (by decide) rfl (by decide) ?_
  refine v_aload_n C 0 dX2_total_51 rfl ?_
  refine v_iload_n C 1 dX2_total_52 rfl ?_
  refine go_I (run_V C (c_X2_sumOfShares_7 ht hc h12) k_179 k_2 k_176 k_178 ks_7 dd_X2_sumOfShares ⟨Nat.le_of_ble_eq_true rfl, Nat.le_of_ble_eq_true rfl⟩ (rcT ht) rfl (Nat.le_of_ble_eq_true rfl) dX2_total_53 ⟨Nat.le_of_ble_eq_true rfl, Nat.le_of_ble_eq_true rfl⟩) ?_
  exact v_iret C dX2_total_56 rfl rfl
set_option maxHeartbeats 4000000 in
set_option maxRecDepth 100000 in
theorem c_X2_total_8 {l : Launch} {P : L5} {D : va_G} {N F T : Nat → Nat → Int32} {K : Nat → Int32} {A : Nat → Nat → Int32} {w : Int64} {t : Nat} (ht : t < 2) {c : Nat} (hc : T t 1 = nI c) (h12 : c ≤ 12) : CtI l yX2_total cX2_total 2 .int 4 0 0 P D (nW P) (nW P) False (cw P N F T K A w) (cw P N F T K A w) [.ref (rT P t), .int 8] (totN N F T t c 8) := by
  refine mk_Met pl_X2 [(0, .ref (rT P t)), (1, .int 8)] rfl (Nat.le_of_ble_eq_true rfl) ?_
  intro pg en sg mg ag bg mt cd C
  refine v_iload_n C 1 dX2_total_0 rfl ?_
  refine v_lookup (tgt := 51) C dX2_total_1 (by decide) rfl (by decide) ?_
  refine v_aload_n C 0 dX2_total_51 rfl ?_
  refine v_iload_n C 1 dX2_total_52 rfl ?_
  refine go_I (run_V C (c_X2_sumOfShares_8 ht hc h12) k_179 k_2 k_176 k_178 ks_7 dd_X2_sumOfShares ⟨Nat.le_of_ble_eq_true rfl, Nat.le_of_ble_eq_true rfl⟩ (rcT ht) rfl (Nat.le_of_ble_eq_true rfl) dX2_total_53 ⟨Nat.le_of_ble_eq_true rfl, Nat.le_of_ble_eq_true rfl⟩) ?_
  exact v_iret C dX2_total_56 rfl rfl
set_option maxHeartbeats 4000000 in
set_option maxRecDepth 100000 in
theorem c_X2_total_9 {l : Launch} {P : L5} {D : va_G} {N F T : Nat → Nat → Int32} {K : Nat → Int32} {A : Nat → Nat → Int32} {w : Int64} {t : Nat} (ht : t < 2) {c : Nat} (hc : T t 1 = nI c) (h12 : c ≤ 12) : CtI l yX2_total cX2_total 2 .int 4 0 0 P D (nW P) (nW P) False (cw P N F T K A w) (cw P N F T K A w) [.ref (rT P t), .int 9] (totN N F T t c 9) := by
  refine mk_Met pl_X2 [(0, .ref (rT P t)), (1, .int 9)] rfl (Nat.le_of_ble_eq_true rfl) ?_
  intro pg en sg mg ag bg mt cd C
  refine v_iload_n C 1 dX2_total_0 rfl ?_
  refine v_lookup (tgt := 51) C dX2_total_1 (by decide) rfl (by decide) ?_
  refine v_aload_n C 0 dX2_total_51 rfl ?_
  refine v_iload_n C 1 dX2_total_52 rfl ?_
  refine go_I (run_V C (c_X2_sumOfShares_9 ht hc h12) k_179 k_2 k_176 k_178 ks_7 dd_X2_sumOfShares ⟨Nat.le_of_ble_eq_true rfl, Nat.le_of_ble_eq_true rfl⟩ (rcT ht) rfl (Nat.le_of_ble_eq_true rfl) dX2_total_53 ⟨Nat.le_of_ble_eq_true rfl, Nat.le_of_ble_eq_true rfl⟩) ?_
  exact v_iret C dX2_total_56 rfl rfl
set_option maxHeartbeats 4000000 in
set_option maxRecDepth 100000 in
theorem c_X2_total_10 {l : Launch} {P : L5} {D : va_G} {N F T : Nat → Nat → Int32} {K : Nat → Int32} {A : Nat → Nat → Int32} {w : Int64} {t : Nat} (ht : t < 2) {c : Nat} (hc : T t 1 = nI c) (h12 : c ≤ 12) : CtI l yX2_total cX2_total 2 .int 4 0 0 P D (nW P) (nW P) False (cw P N F T K A w) (cw P N F T K A w) [.ref (rT P t), .int 10] (totN N F T t c 10) := by
  refine mk_Met pl_X2 [(0, .ref (rT P t)), (1, .int 10)] rfl (Nat.le_of_ble_eq_true rfl) ?_
  intro pg en sg mg ag bg mt cd C
  refine v_iload_n C 1 dX2_total_0 rfl ?_
  refine v_lookup (tgt := 51) C dX2_total_1 (by decide) rfl (by decide) ?_
  refine v_aload_n C 0 dX2_total_51 rfl ?_
  refine v_iload_n C 1 dX2_total_52 rfl ?_
  refine go_I (run_V C (c_X2_sumOfShares_10 ht hc h12) k_179 k_2 k_176 k_178 ks_7 dd_X2_sumOfShares ⟨Nat.le_of_ble_eq_true rfl, Nat.le_of_ble_eq_true rfl⟩ (rcT ht) rfl (Nat.le_of_ble_eq_true rfl) dX2_total_53 ⟨Nat.le_of_ble_eq_true rfl, Nat.le_of_ble_eq_true rfl⟩) ?_
  exact v_iret C dX2_total_56 rfl rfl
set_option maxHeartbeats 4000000 in
set_option maxRecDepth 100000 in
theorem c_X2_workersFor {l : Launch} {P : L5} {D : va_G} {N F T : Nat → Nat → Int32} {K : Nat → Int32} {A : Nat → Nat → Int32} {w : Int64} {t : Nat} (ht : t < 2) {c : Nat} (hc : T t 1 = nI c) (h12 : c ≤ 12) {q : Int32} : CtI l yX2_workersFor cX2_workersFor 4 .int 1 0 0 P D (nW P) (nW P) False (cw P N F T K A w) (cw P N F T K A w) [.ref (rT P t), .int q] (wkF (c + 1) q c (12 * t) 0 N 0) := by
  refine mk_Met pl_X2 [(0, .ref (rT P t)), (1, .int q)] rfl (Nat.le_of_ble_eq_true rfl) ?_
  intro pg en sg mg ag bg mt cd C
  refine v_iconst (v := 0) C dX2_workersFor_0 rfl ?_
  refine v_istore_n (lv' := [(2, .int 0), (0, .ref (rT P t)), (1, .int q)]) C dX2_workersFor_1 rfl (by decide) rfl ?_
  refine v_iconst (v := 0) C dX2_workersFor_2 rfl ?_
  refine v_istore_n (lv' := [(3, .int 0), (2, .int 0), (0, .ref (rT P t)), (1, .int q)]) C dX2_workersFor_3 rfl (by decide) rfl ?_
  have L_1 : ∀ (n : Nat) (i : Nat) (sm : Int32), i ≤ c → c < i + n → V pg l en (rmO 1 0 0) sg mg ag bg mt cd P D (MQ bg (QcI P D (nW P) False (cw P N F T K A w) (wkF (c + 1) q c (12 * t) 0 N 0)) ag sg 0 0 (aO P)) 4 (nW P) False (cw P N F T K A w) 0 0 34 [(2, .int (wkF n q c (12 * t) i N sm))] [] → V pg l en (rmO 1 0 0) sg mg ag bg mt cd P D (MQ bg (QcI P D (nW P) False (cw P N F T K A w) (wkF (c + 1) q c (12 * t) 0 N 0)) ag sg 0 0 (aO P)) 4 (nW P) False (cw P N F T K A w) 0 0 4 [(3, .int (nI i)), (2, .int sm), (0, .ref (rT P t)), (1, .int q)] [] := by
    intro n
    induction n with
    | zero => intro i sm h1 h2; omega
    | succ n ih =>
      intro i sm h1 h2 hk9
      refine v_iload_n C 0 dX2_workersFor_4 rfl ?_
      refine v_aload_n C 2 dX2_workersFor_5 rfl ?_
      refine v_gTu C ht 1 (by decide) k_409 rfl dX2_workersFor_6 ?_
      refine v_icmp_ge (tgt := 34) C dX2_workersFor_9 (by decide) (fun h9_1 => ?_) (fun h9_1 => ?_)
      · refine v_lv [1] rfl ?_
        have hic : c ≤ i := (leC hc h12 h1).mp h9_1
        have e9 : wkF (n + 1) q c (12 * t) i N sm = sm := by rw [wkF, if_pos hic]
        rw [e9] at hk9
        exact hk9
      · have hic : i < c := Nat.not_le.mp (fun q => h9_1 ((leC hc h12 h1).mpr q))
        refine v_aload_n C 2 dX2_workersFor_12 rfl ?_
        refine v_gTu C ht 2 (by decide) k_411 rfl dX2_workersFor_13 ?_
        refine v_iload_n C 0 dX2_workersFor_16 rfl ?_
        refine v_aaNk C i ht (nI_clamp (by omega)) (vp_in_nI (by omega) (by omega)) dX2_workersFor_17 ?_
        refine v_gNuN C (by omega) 2 (by decide) (List.mem_of_getElem? (i := 1) rfl) rfl dX2_workersFor_18 ?_
        refine v_iload_n C 3 dX2_workersFor_21 rfl ?_
        refine v_icmp_ne (tgt := 28) C dX2_workersFor_22 (by decide) (fun h22_1 => ?_) (fun h22_1 => ?_)
        · refine v_iinc (b := (nI (i + 1))) (lv' := [(3, .int (nI (i + 1))), (2, .int sm), (0, .ref (rT P t)), (1, .int q)]) C 0 dX2_workersFor_28 rfl (nI_1 _) (by decide) rfl ?_
          refine v_goto (tgt := 4) C dX2_workersFor_31 (by decide) ?_
          have e9 : wkF (n + 1) q c (12 * t) i N sm = wkF n q c (12 * t) (i + 1) N sm := by rw [wkF, if_neg (by omega), if_neg (by exact h22_1)]
          rw [e9] at hk9
          exact ih _ _ (by omega) (by omega) hk9
        · obtain ⟨x_1, ex_1⟩ : ∃ y : Int32, y = sm + 1 := ⟨_, rfl⟩
          refine v_iinc (b := x_1) (lv' := [(2, .int x_1), (3, .int (nI i)), (0, .ref (rT P t)), (1, .int q)]) C 1 dX2_workersFor_25 rfl (by rw [ex_1]; rfl) (by decide) rfl ?_
          refine v_iinc (b := (nI (i + 1))) (lv' := [(3, .int (nI (i + 1))), (2, .int x_1), (0, .ref (rT P t)), (1, .int q)]) C 1 dX2_workersFor_28 rfl (nI_1 _) (by decide) rfl ?_
          refine v_goto (tgt := 4) C dX2_workersFor_31 (by decide) ?_
          have e9 : wkF (n + 1) q c (12 * t) i N sm = wkF n q c (12 * t) (i + 1) N (sm + 1) := by rw [wkF, if_neg (by omega), if_pos (by exact h22_1)]
          rw [e9] at hk9
          subst ex_1
          exact ih _ _ (by omega) (by omega) hk9
  refine L_1 (c + 1) 0 0 (by omega) (by omega) ?_
  refine v_iload_n C 0 dX2_workersFor_34 rfl ?_
  exact v_iret C dX2_workersFor_35 rfl rfl
set_option maxHeartbeats 4000000 in
set_option maxRecDepth 100000 in
theorem c_X2_foggerNumber_0 {l : Launch} {P : L5} {D : va_G} {N F T : Nat → Nat → Int32} {K : Nat → Int32} {A : Nat → Nat → Int32} {w : Int64} {t : Nat} (ht : t < 2) {c : Nat} (hc : T t 1 = nI c) (h12 : c ≤ 12) {q : Int32} (hq : vp_in q 4) : CtI l yX2_foggerNumber cX2_foggerNumber 3 .int 2 0 0 P D (nW P) (nW P) False (cw P N F T K A w) (cw P N F T K A w) [.ref (rT P t), .int q, .int 0] (fogN N F t c q 0) := by
  refine mk_Met pl_X2 [(0, .ref (rT P t)), (1, .int q), (2, .int 0)] rfl (Nat.le_of_ble_eq_true rfl) ?_
  intro pg en sg mg ag bg mt cd C
  have h4 := pk_lt4 hq
  refine v_iload_n C 2 dX2_foggerNumber_0 rfl ?_
  refine v_tableIn (tgt := 36) C dX2_foggerNumber_1 (by decide) (by decide) rfl (by decide) ?_
  refine v_aload_n C 0 dX2_foggerNumber_36 rfl ?_
  refine v_gTu C ht 3 (by decide) k_413 rfl dX2_foggerNumber_37 ?_
  refine v_iload_n C 1 dX2_foggerNumber_40 rfl ?_
  refine v_aaFk C q.toNatClampNeg ht rfl hq dX2_foggerNumber_41 ?_
  refine v_gFuN C (by omega) 0 (by decide) (List.mem_of_getElem? (i := 14) rfl) rfl dX2_foggerNumber_42 ?_
  exact v_iret C dX2_foggerNumber_45 rfl rfl
set_option maxHeartbeats 4000000 in
set_option maxRecDepth 100000 in
theorem c_X2_foggerNumber_1 {l : Launch} {P : L5} {D : va_G} {N F T : Nat → Nat → Int32} {K : Nat → Int32} {A : Nat → Nat → Int32} {w : Int64} {t : Nat} (ht : t < 2) {c : Nat} (hc : T t 1 = nI c) (h12 : c ≤ 12) {q : Int32} (hq : vp_in q 4) : CtI l yX2_foggerNumber cX2_foggerNumber 3 .int 2 0 0 P D (nW P) (nW P) False (cw P N F T K A w) (cw P N F T K A w) [.ref (rT P t), .int q, .int 1] (fogN N F t c q 1) := by
  refine mk_Met pl_X2 [(0, .ref (rT P t)), (1, .int q), (2, .int 1)] rfl (Nat.le_of_ble_eq_true rfl) ?_
  intro pg en sg mg ag bg mt cd C
  have h4 := pk_lt4 hq
  refine v_iload_n C 2 dX2_foggerNumber_0 rfl ?_
  refine v_tableIn (tgt := 46) C dX2_foggerNumber_1 (by decide) (by decide) rfl (by decide) ?_
  refine v_aload_n C 0 dX2_foggerNumber_46 rfl ?_
  refine v_gTu C ht 3 (by decide) k_413 rfl dX2_foggerNumber_47 ?_
  refine v_iload_n C 1 dX2_foggerNumber_50 rfl ?_
  refine v_aaFk C q.toNatClampNeg ht rfl hq dX2_foggerNumber_51 ?_
  refine v_gFuN C (by omega) 1 (by decide) (List.mem_of_getElem? (i := 15) rfl) rfl dX2_foggerNumber_52 ?_
  exact v_iret C dX2_foggerNumber_55 rfl rfl
set_option maxHeartbeats 4000000 in
set_option maxRecDepth 100000 in
theorem c_X2_foggerNumber_2 {l : Launch} {P : L5} {D : va_G} {N F T : Nat → Nat → Int32} {K : Nat → Int32} {A : Nat → Nat → Int32} {w : Int64} {t : Nat} (ht : t < 2) {c : Nat} (hc : T t 1 = nI c) (h12 : c ≤ 12) {q : Int32} (hq : vp_in q 4) : CtI l yX2_foggerNumber cX2_foggerNumber 3 .int 2 0 0 P D (nW P) (nW P) False (cw P N F T K A w) (cw P N F T K A w) [.ref (rT P t), .int q, .int 2] (fogN N F t c q 2) := by
  refine mk_Met pl_X2 [(0, .ref (rT P t)), (1, .int q), (2, .int 2)] rfl (Nat.le_of_ble_eq_true rfl) ?_
  intro pg en sg mg ag bg mt cd C
  have h4 := pk_lt4 hq
  refine v_iload_n C 2 dX2_foggerNumber_0 rfl ?_
  refine v_tableIn (tgt := 56) C dX2_foggerNumber_1 (by decide) (by decide) rfl (by decide) ?_
  refine v_aload_n C 0 dX2_foggerNumber_56 rfl ?_
  refine v_iload_n C 1 dX2_foggerNumber_57 rfl ?_
  refine go_I (run_V C (c_X2_workersFor ht hc h12) k_163 k_2 k_160 k_162 ks_4 dd_X2_workersFor ⟨Nat.le_of_ble_eq_true rfl, Nat.le_of_ble_eq_true rfl⟩ (rcT ht) rfl (Nat.le_of_ble_eq_true rfl) dX2_foggerNumber_58 ⟨Nat.le_of_ble_eq_true rfl, Nat.le_of_ble_eq_true rfl⟩) ?_
  exact v_iret C dX2_foggerNumber_61 rfl rfl
set_option maxHeartbeats 4000000 in
set_option maxRecDepth 100000 in
theorem c_X2_foggerNumber_3 {l : Launch} {P : L5} {D : va_G} {N F T : Nat → Nat → Int32} {K : Nat → Int32} {A : Nat → Nat → Int32} {w : Int64} {t : Nat} (ht : t < 2) {c : Nat} (hc : T t 1 = nI c) (h12 : c ≤ 12) {q : Int32} (hq : vp_in q 4) : CtI l yX2_foggerNumber cX2_foggerNumber 3 .int 2 0 0 P D (nW P) (nW P) False (cw P N F T K A w) (cw P N F T K A w) [.ref (rT P t), .int q, .int 3] (fogN N F t c q 3) := by
  refine mk_Met pl_X2 [(0, .ref (rT P t)), (1, .int q), (2, .int 3)] rfl (Nat.le_of_ble_eq_true rfl) ?_
  intro pg en sg mg ag bg mt cd C
  have h4 := pk_lt4 hq
  refine v_iload_n C 2 dX2_foggerNumber_0 rfl ?_
  refine v_tableIn (tgt := 62) C dX2_foggerNumber_1 (by decide) (by decide) rfl (by decide) ?_
  refine v_aload_n C 0 dX2_foggerNumber_62 rfl ?_
  refine v_gTu C ht 3 (by decide) k_413 rfl dX2_foggerNumber_63 ?_
  refine v_iload_n C 1 dX2_foggerNumber_66 rfl ?_
  refine v_aaFk C q.toNatClampNeg ht rfl hq dX2_foggerNumber_67 ?_
  refine v_gFuN C (by omega) 2 (by decide) (List.mem_of_getElem? (i := 16) rfl) rfl dX2_foggerNumber_68 ?_
  exact v_iret C dX2_foggerNumber_71 rfl rfl
set_option maxHeartbeats 4000000 in
set_option maxRecDepth 100000 in
theorem c_X2_foggerNumber_4 {l : Launch} {P : L5} {D : va_G} {N F T : Nat → Nat → Int32} {K : Nat → Int32} {A : Nat → Nat → Int32} {w : Int64} {t : Nat} (ht : t < 2) {c : Nat} (hc : T t 1 = nI c) (h12 : c ≤ 12) {q : Int32} (hq : vp_in q 4) : CtI l yX2_foggerNumber cX2_foggerNumber 3 .int 2 0 0 P D (nW P) (nW P) False (cw P N F T K A w) (cw P N F T K A w) [.ref (rT P t), .int q, .int 4] (fogN N F t c q 4) := by
  refine mk_Met pl_X2 [(0, .ref (rT P t)), (1, .int q), (2, .int 4)] rfl (Nat.le_of_ble_eq_true rfl) ?_
  intro pg en sg mg ag bg mt cd C
  have h4 := pk_lt4 hq
  refine v_iload_n C 2 dX2_foggerNumber_0 rfl ?_
  refine v_tableIn (tgt := 72) C dX2_foggerNumber_1 (by decide) (by decide) rfl (by decide) ?_
  refine v_aload_n C 0 dX2_foggerNumber_72 rfl ?_
  refine v_gTu C ht 3 (by decide) k_413 rfl dX2_foggerNumber_73 ?_
  refine v_iload_n C 1 dX2_foggerNumber_76 rfl ?_
  refine v_aaFk C q.toNatClampNeg ht rfl hq dX2_foggerNumber_77 ?_
  refine v_gFuN C (by omega) 3 (by decide) (List.mem_of_getElem? (i := 17) rfl) rfl dX2_foggerNumber_78 ?_
  exact v_iret C dX2_foggerNumber_81 rfl rfl
set_option maxHeartbeats 4000000 in
set_option maxRecDepth 100000 in
theorem c_X2_foggerNumber_5 {l : Launch} {P : L5} {D : va_G} {N F T : Nat → Nat → Int32} {K : Nat → Int32} {A : Nat → Nat → Int32} {w : Int64} {t : Nat} (ht : t < 2) {c : Nat} (hc : T t 1 = nI c) (h12 : c ≤ 12) {q : Int32} (hq : vp_in q 4) : CtI l yX2_foggerNumber cX2_foggerNumber 3 .int 2 0 0 P D (nW P) (nW P) False (cw P N F T K A w) (cw P N F T K A w) [.ref (rT P t), .int q, .int 5] (fogN N F t c q 5) := by
  refine mk_Met pl_X2 [(0, .ref (rT P t)), (1, .int q), (2, .int 5)] rfl (Nat.le_of_ble_eq_true rfl) ?_
  intro pg en sg mg ag bg mt cd C
  have h4 := pk_lt4 hq
  refine v_iload_n C 2 dX2_foggerNumber_0 rfl ?_
  refine v_tableOut (tgt := 82) C dX2_foggerNumber_1 (by decide) (by decide) ?_
  refine v_aload_n C 0 dX2_foggerNumber_82 rfl ?_
  refine v_gTu C ht 3 (by decide) k_413 rfl dX2_foggerNumber_83 ?_
  refine v_iload_n C 1 dX2_foggerNumber_86 rfl ?_
  refine v_aaFk C q.toNatClampNeg ht rfl hq dX2_foggerNumber_87 ?_
  refine v_gFuN C (by omega) 4 (by decide) (List.mem_of_getElem? (i := 18) rfl) rfl dX2_foggerNumber_88 ?_
  refine v_aload_n C 0 dX2_foggerNumber_91 rfl ?_
  refine v_gTu C ht 3 (by decide) k_413 rfl dX2_foggerNumber_92 ?_
  refine v_iload_n C 1 dX2_foggerNumber_95 rfl ?_
  refine v_aaFk C q.toNatClampNeg ht rfl hq dX2_foggerNumber_96 ?_
  refine v_gFuN C (by omega) 3 (by decide) (List.mem_of_getElem? (i := 17) rfl) rfl dX2_foggerNumber_97 ?_
  refine v_isub C dX2_foggerNumber_100 ?_
  exact v_iret C dX2_foggerNumber_101 rfl rfl
theorem lt2 {p : Nat → Prop} (h : p 0 ∧ p 1) : ∀ k, k < 2 → p k := by
  intro k hk
  rcases (show k = 0 ∨ k = 1 by omega) with rfl | rfl
  · exact h.1
  · exact h.2
set_option maxHeartbeats 4000000 in
set_option maxRecDepth 100000 in
theorem c_X2_copyFrom {l : Launch} {P : L5} {D : va_G} {N F T : Nat → Nat → Int32} {K : Nat → Int32} {A : Nat → Nat → Int32} {w : Int64} {t u : Nat} (ht : t < 2) (hu : u < 2) (hne : u ≠ t) {c : Nat} (hc : T u 1 = nI c) (h12 : c ≤ 12) : CtV l yX2_copyFrom cX2_copyFrom 3 2 0 0 P D (nW P) (nW P) False (cw P N F T K A w) (cw P (cpN (c + 1) c (12 * t) (12 * u) 0 N) (cp4 F (4 * t) (4 * u)) (va_up T t (T u)) K A w) [.ref (rT P t), .ref (rT P u)] := by
  refine mk_Met pl_X2 [(0, .ref (rT P t)), (1, .ref (rT P u))] rfl (Nat.le_of_ble_eq_true rfl) ?_
  intro pg en sg mg ag bg mt cd C
  have ht9 : t ≠ u := fun z => hne z.symm
  refine v_eq (f' := cw P N F (va_up T t (T t)) K A w) (by rw [va_up_eta]) ?_
  refine v_aload_n C 0 dX2_copyFrom_0 rfl ?_
  refine v_aload_n C 1 dX2_copyFrom_1 rfl ?_
  refine v_gTu C hu 0 (by decide) k_408 (by rw [va_up_ne _ _ hne]; rfl) dX2_copyFrom_2 ?_
  refine v_pT C ht 0 (by decide) k_408 dX2_copyFrom_5 ?_
  refine v_aload_n C 0 dX2_copyFrom_8 rfl ?_
  refine v_aload_n C 1 dX2_copyFrom_9 rfl ?_
  refine v_gTu C hu 1 (by decide) k_409 (by rw [va_up_ne _ _ hne]; rfl) dX2_copyFrom_10 ?_
  refine v_pT C ht 1 (by decide) k_409 dX2_copyFrom_13 ?_
  refine v_iconst (v := 0) C dX2_copyFrom_16 rfl ?_
  refine v_istore_n (lv' := [(2, .int 0), (0, .ref (rT P t)), (1, .ref (rT P u))]) C dX2_copyFrom_17 rfl (by decide) rfl ?_
  have L_1 : ∀ (n : Nat) (i : Nat) (N9 : Nat → Nat → Int32), i ≤ c → c < i + n → V pg l en (rmO 2 0 0) sg mg ag bg mt cd P D (MQ bg (QcV P D (nW P) False (cw P (cpN (c + 1) c (12 * t) (12 * u) 0 N) (cp4 F (4 * t) (4 * u)) (va_up T t (T u)) K A w)) ag sg 0 0 (aO P)) 3 (nW P) False (cw P (cpN n c (12 * t) (12 * u) i N9) F (va_up T t (T u)) K A w) 0 0 47 [(0, .ref (rT P t)), (1, .ref (rT P u))] [] → V pg l en (rmO 2 0 0) sg mg ag bg mt cd P D (MQ bg (QcV P D (nW P) False (cw P (cpN (c + 1) c (12 * t) (12 * u) 0 N) (cp4 F (4 * t) (4 * u)) (va_up T t (T u)) K A w)) ag sg 0 0 (aO P)) 3 (nW P) False (cw P N9 F (va_up T t (T u)) K A w) 0 0 18 [(2, .int (nI i)), (0, .ref (rT P t)), (1, .ref (rT P u))] [] := by
    intro n
    induction n with
    | zero => intro i N9 h1 h2; omega
    | succ n ih =>
      intro i N9 h1 h2 hk9
      refine v_iload_n C 0 dX2_copyFrom_18 rfl ?_
      refine v_aload_n C 1 dX2_copyFrom_19 rfl ?_
      refine v_gT C ht 1 (by decide) k_409 rfl dX2_copyFrom_20 ?_
      refine v_icmp_ge (tgt := 47) C dX2_copyFrom_23 (by decide) (fun h23_1 => ?_) (fun h23_1 => ?_)
      · refine v_lv [1, 2] rfl ?_
        have hic : c ≤ i := (leC hc h12 h1).mp h23_1
        have e9 : cpN (n + 1) c (12 * t) (12 * u) i N9 = N9 := by rw [cpN, if_pos hic]
        rw [e9] at hk9
        exact hk9
      · have hic : i < c := Nat.not_le.mp (fun q => h23_1 ((leC hc h12 h1).mpr q))
        refine v_aload_n C 1 dX2_copyFrom_26 rfl ?_
        refine v_gT C ht 2 (by decide) k_411 rfl dX2_copyFrom_27 ?_
        refine v_iload_n C 0 dX2_copyFrom_30 rfl ?_
        refine v_aaNk C i ht (nI_clamp (by omega)) (vp_in_nI (by omega) (by omega)) dX2_copyFrom_31 ?_
        refine v_aload_n C 2 dX2_copyFrom_32 rfl ?_
        refine v_gTu C hu 2 (by decide) k_411 (by rw [va_up_ne _ _ hne]; rfl) dX2_copyFrom_33 ?_
        refine v_iload_n C 0 dX2_copyFrom_36 rfl ?_
        refine v_aaNk C i hu (nI_clamp (by omega)) (vp_in_nI (by omega) (by omega)) dX2_copyFrom_37 ?_
        refine go_V (run_VN C (u_X1_copyFrom (by omega) (by omega) (by omega)) k_254 k_3 (List.mem_of_getElem? (i := 18) rfl) k_253 ks_20 dd_X1_copyFrom ⟨Nat.le_of_ble_eq_true rfl, Nat.le_of_ble_eq_true rfl⟩ (rcN (by omega)) rfl (Nat.le_of_ble_eq_true rfl) dX2_copyFrom_38 ⟨Nat.le_of_ble_eq_true rfl, Nat.le_of_ble_eq_true rfl⟩) ?_
        refine v_iinc (b := (nI (i + 1))) (lv' := [(2, .int (nI (i + 1))), (0, .ref (rT P t)), (1, .ref (rT P u))]) C 0 dX2_copyFrom_41 rfl (nI_1 _) (by decide) rfl ?_
        refine v_goto (tgt := 18) C dX2_copyFrom_44 (by decide) ?_
        have e9 : cpN (n + 1) c (12 * t) (12 * u) i N9 = cpN n c (12 * t) (12 * u) (i + 1) (va_up N9 (12 * t + i) (N9 (12 * u + i))) := by rw [cpN, if_neg (by omega)]
        rw [e9] at hk9
        exact ih _ _ (by omega) (by omega) hk9
  refine v_eq (f' := (cw P N F (va_up T t (T u)) K A w)) (cw_cT (lt2 ⟨rfl, rfl⟩)) ?_
  refine L_1 (c + 1) 0 N (by omega) (by omega) ?_
  refine v_iconst (v := 0) C dX2_copyFrom_47 rfl ?_
  refine v_istore_n (lv' := [(2, .int 0), (0, .ref (rT P t)), (1, .ref (rT P u))]) C dX2_copyFrom_48 rfl (by decide) rfl ?_
  refine v_iload_n C 0 dX2_copyFrom_49 rfl ?_
  refine v_iconst (v := 4) C dX2_copyFrom_50 rfl ?_
  refine v_icmp_ge (tgt := 75) C dX2_copyFrom_51 (by decide) (fun h9 => absurd h9 (by decide)) (fun _ => ?_)
  refine v_aload_n C 1 dX2_copyFrom_54 rfl ?_
  refine v_gT C ht 3 (by decide) k_413 rfl dX2_copyFrom_55 ?_
  refine v_iload_n C 0 dX2_copyFrom_58 rfl ?_
  refine v_aaFk C 0 ht tn_0 in4_0 dX2_copyFrom_59 ?_
  refine v_aload_n C 2 dX2_copyFrom_60 rfl ?_
  refine v_gTu C hu 3 (by decide) k_413 (by rw [va_up_ne _ _ hne]; rfl) dX2_copyFrom_61 ?_
  refine v_iload_n C 0 dX2_copyFrom_64 rfl ?_
  refine v_aaFk C 0 hu tn_0 in4_0 dX2_copyFrom_65 ?_
  refine go_V (run_VN C (u_X0_copyFrom (by omega) (by omega) (by omega)) k_273 k_4 (List.mem_of_getElem? (i := 19) rfl) k_272 ks_23 dd_X0_copyFrom ⟨Nat.le_of_ble_eq_true rfl, Nat.le_of_ble_eq_true rfl⟩ (rcF (by omega)) rfl (Nat.le_of_ble_eq_true rfl) dX2_copyFrom_66 ⟨Nat.le_of_ble_eq_true rfl, Nat.le_of_ble_eq_true rfl⟩) ?_
  refine v_iinc (b := 1) (lv' := [(2, .int 1), (0, .ref (rT P t)), (1, .ref (rT P u))]) C 0 dX2_copyFrom_69 rfl rfl (by decide) rfl ?_
  refine v_goto (tgt := 49) C dX2_copyFrom_72 (by decide) ?_
  refine v_iload_n C 0 dX2_copyFrom_49 rfl ?_
  refine v_iconst (v := 4) C dX2_copyFrom_50 rfl ?_
  refine v_icmp_ge (tgt := 75) C dX2_copyFrom_51 (by decide) (fun h9 => absurd h9 (by decide)) (fun _ => ?_)
  refine v_aload_n C 1 dX2_copyFrom_54 rfl ?_
  refine v_gT C ht 3 (by decide) k_413 rfl dX2_copyFrom_55 ?_
  refine v_iload_n C 0 dX2_copyFrom_58 rfl ?_
  refine v_aaFk C 1 ht tn_1 in4_1 dX2_copyFrom_59 ?_
  refine v_aload_n C 2 dX2_copyFrom_60 rfl ?_
  refine v_gTu C hu 3 (by decide) k_413 (by rw [va_up_ne _ _ hne]; rfl) dX2_copyFrom_61 ?_
  refine v_iload_n C 0 dX2_copyFrom_64 rfl ?_
  refine v_aaFk C 1 hu tn_1 in4_1 dX2_copyFrom_65 ?_
  refine go_V (run_VN C (u_X0_copyFrom (by omega) (by omega) (by omega)) k_273 k_4 (List.mem_of_getElem? (i := 19) rfl) k_272 ks_23 dd_X0_copyFrom ⟨Nat.le_of_ble_eq_true rfl, Nat.le_of_ble_eq_true rfl⟩ (rcF (by omega)) rfl (Nat.le_of_ble_eq_true rfl) dX2_copyFrom_66 ⟨Nat.le_of_ble_eq_true rfl, Nat.le_of_ble_eq_true rfl⟩) ?_
  refine v_iinc (b := 2) (lv' := [(2, .int 2), (0, .ref (rT P t)), (1, .ref (rT P u))]) C 0 dX2_copyFrom_69 rfl rfl (by decide) rfl ?_
  refine v_goto (tgt := 49) C dX2_copyFrom_72 (by decide) ?_
  refine v_iload_n C 0 dX2_copyFrom_49 rfl ?_
  refine v_iconst (v := 4) C dX2_copyFrom_50 rfl ?_
  refine v_icmp_ge (tgt := 75) C dX2_copyFrom_51 (by decide) (fun h9 => absurd h9 (by decide)) (fun _ => ?_)
  refine v_aload_n C 1 dX2_copyFrom_54 rfl ?_
  refine v_gT C ht 3 (by decide) k_413 rfl dX2_copyFrom_55 ?_
  refine v_iload_n C 0 dX2_copyFrom_58 rfl ?_
  refine v_aaFk C 2 ht tn_2 in4_2 dX2_copyFrom_59 ?_
  refine v_aload_n C 2 dX2_copyFrom_60 rfl ?_
  refine v_gTu C hu 3 (by decide) k_413 (by rw [va_up_ne _ _ hne]; rfl) dX2_copyFrom_61 ?_
  refine v_iload_n C 0 dX2_copyFrom_64 rfl ?_
  refine v_aaFk C 2 hu tn_2 in4_2 dX2_copyFrom_65 ?_
  refine go_V (run_VN C (u_X0_copyFrom (by omega) (by omega) (by omega)) k_273 k_4 (List.mem_of_getElem? (i := 19) rfl) k_272 ks_23 dd_X0_copyFrom ⟨Nat.le_of_ble_eq_true rfl, Nat.le_of_ble_eq_true rfl⟩ (rcF (by omega)) rfl (Nat.le_of_ble_eq_true rfl) dX2_copyFrom_66 ⟨Nat.le_of_ble_eq_true rfl, Nat.le_of_ble_eq_true rfl⟩) ?_
  refine v_iinc (b := 3) (lv' := [(2, .int 3), (0, .ref (rT P t)), (1, .ref (rT P u))]) C 0 dX2_copyFrom_69 rfl rfl (by decide) rfl ?_
  refine v_goto (tgt := 49) C dX2_copyFrom_72 (by decide) ?_
  refine v_iload_n C 0 dX2_copyFrom_49 rfl ?_
  refine v_iconst (v := 4) C dX2_copyFrom_50 rfl ?_
  refine v_icmp_ge (tgt := 75) C dX2_copyFrom_51 (by decide) (fun h9 => absurd h9 (by decide)) (fun _ => ?_)
  refine v_aload_n C 1 dX2_copyFrom_54 rfl ?_
  refine v_gT C ht 3 (by decide) k_413 rfl dX2_copyFrom_55 ?_
  refine v_iload_n C 0 dX2_copyFrom_58 rfl ?_
  refine v_aaFk C 3 ht tn_3 in4_3 dX2_copyFrom_59 ?_
  refine v_aload_n C 2 dX2_copyFrom_60 rfl ?_
  refine v_gTu C hu 3 (by decide) k_413 (by rw [va_up_ne _ _ hne]; rfl) dX2_copyFrom_61 ?_
  refine v_iload_n C 0 dX2_copyFrom_64 rfl ?_
  refine v_aaFk C 3 hu tn_3 in4_3 dX2_copyFrom_65 ?_
  refine go_V (run_VN C (u_X0_copyFrom (by omega) (by omega) (by omega)) k_273 k_4 (List.mem_of_getElem? (i := 19) rfl) k_272 ks_23 dd_X0_copyFrom ⟨Nat.le_of_ble_eq_true rfl, Nat.le_of_ble_eq_true rfl⟩ (rcF (by omega)) rfl (Nat.le_of_ble_eq_true rfl) dX2_copyFrom_66 ⟨Nat.le_of_ble_eq_true rfl, Nat.le_of_ble_eq_true rfl⟩) ?_
  refine v_iinc (b := 4) (lv' := [(2, .int 4), (0, .ref (rT P t)), (1, .ref (rT P u))]) C 0 dX2_copyFrom_69 rfl rfl (by decide) rfl ?_
  refine v_goto (tgt := 49) C dX2_copyFrom_72 (by decide) ?_
  refine v_iload_n C 0 dX2_copyFrom_49 rfl ?_
  refine v_iconst (v := 4) C dX2_copyFrom_50 rfl ?_
  refine v_icmp_ge (tgt := 75) C dX2_copyFrom_51 (by decide) (fun _ => ?_) (fun h9 => absurd (by decide) h9)
  exact v_vret C dX2_copyFrom_75 rfl
end
section
/-! THE CLASS NAILRODS: what its calls do -/
theorem ixC {p a : Int32} {c : Nat} (h1 : ¬ p < 0) (h2 : p < a) (hc : a = nI c) (h12 : c ≤ 12) : vp_in p 12 ∧ p.toNatClampNeg < c := by
  obtain ⟨j, hj, rfl⟩ := nI_of h1
  rw [hc, nI_ltI hj (by omega)] at h2
  rw [nI_clamp hj]
  exact ⟨vp_in_nI (by omega) (by omega), h2⟩
theorem ix4 {p : Int32} (h1 : ¬ p < 0) (h2 : p < 4) : vp_in p 4 := by
  obtain ⟨j, hj, rfl⟩ := nI_of h1
  rw [show (4 : Int32) = nI 4 from rfl, nI_ltI hj (by omega)] at h2
  exact vp_in_nI h2 (by omega)
theorem ixK {p : Int32} {n : Nat} (hn : n < 2 ^ 31) (h1 : ¬ p < 0) (h2 : p < nI n) : ∃ k, k < n ∧ p = nI k := by
  obtain ⟨j, hj, rfl⟩ := nI_of h1
  rw [nI_ltI hj hn] at h2
  exact ⟨j, h2, rfl⟩
end
section
/-! THE CLASS NAILRODS: contracts and walks -/
set_option maxHeartbeats 4000000 in
set_option maxRecDepth 100000 in
theorem c_X3_needIndex {l : Launch} {P : L5} {D : va_G} {f : Nat → va_E} {a b : Int32} (h1 : ¬ a < 0) (h2 : a < b) : CtV l yX3_needIndex cX3_needIndex 2 1 0 0 P D (nW P) (nW P) False f f [.int a, .int b] := by
  refine mk_Met pl_X3 [(0, .int a), (1, .int b)] rfl (Nat.le_of_ble_eq_true rfl) ?_
  intro pg en sg mg ag bg mt cd C
  refine v_iload_n C 0 dX3_needIndex_0 rfl ?_
  refine v_if_lt (tgt := 9) C dX3_needIndex_1 (by decide) (fun h9 => absurd h9 h1) (fun _ => ?_)
  refine v_iload_n C 0 dX3_needIndex_4 rfl ?_
  refine v_iload_n C 1 dX3_needIndex_5 rfl ?_
  refine v_icmp_lt (tgt := 19) C dX3_needIndex_6 (by decide) (fun _ => ?_) (fun h9 => absurd h2 h9)
  exact v_vret C dX3_needIndex_19 rfl
set_option maxHeartbeats 4000000 in
set_option maxRecDepth 100000 in
theorem c_X3_needWithin {l : Launch} {P : L5} {D : va_G} {f : Nat → va_E} {a b d : Int32} (h1 : ¬ a < b) (h2 : a ≤ d) : CtV l yX3_needWithin cX3_needWithin 3 1 0 0 P D (nW P) (nW P) False f f [.int a, .int b, .int d] := by
  refine mk_Met pl_X3 [(0, .int a), (1, .int b), (2, .int d)] rfl (Nat.le_of_ble_eq_true rfl) ?_
  intro pg en sg mg ag bg mt cd C
  refine v_iload_n C 0 dX3_needWithin_0 rfl ?_
  refine v_iload_n C 1 dX3_needWithin_1 rfl ?_
  refine v_icmp_lt (tgt := 10) C dX3_needWithin_2 (by decide) (fun h9 => absurd h9 h1) (fun _ => ?_)
  refine v_iload_n C 0 dX3_needWithin_5 rfl ?_
  refine v_iload_n C 2 dX3_needWithin_6 rfl ?_
  refine v_icmp_le (tgt := 20) C dX3_needWithin_7 (by decide) (fun _ => ?_) (fun h9 => absurd h2 h9)
  exact v_vret C dX3_needWithin_20 rfl
set_option maxHeartbeats 4000000 in
set_option maxRecDepth 100000 in
theorem c_X3_needNailer {l : Launch} {P : L5} {D : va_G} {N F T : Nat → Nat → Int32} {K : Nat → Int32} {A : Nat → Nat → Int32} {w : Int64} {p : Int32} (h1 : ¬ p < 0) (h2 : p < T 0 1) : CtV l yX3_needNailer cX3_needNailer 2 2 0 0 P D (nW P) (nW P) False (cw P N F T K A w) (cw P N F T K A w) [.ref (rX P), .int p] := by
  refine mk_Met pl_X3 [(0, .ref (rX P)), (1, .int p)] rfl (Nat.le_of_ble_eq_true rfl) ?_
  intro pg en sg mg ag bg mt cd C
  refine v_iload_n C 1 dX3_needNailer_0 rfl ?_
  refine v_aload_n C 0 dX3_needNailer_1 rfl ?_
  refine v_gX C 0 (by decide) k_426 rfl dX3_needNailer_2 ?_
  refine v_gTuN C (by decide) 1 (by decide) (List.mem_of_getElem? (i := 19) rfl) rfl dX3_needNailer_5 ?_
  refine go_V (run_S C (c_X3_needIndex h1 h2) k_23 k_1 k_21 k_22 dd_X3_needIndex ⟨Nat.le_of_ble_eq_true rfl, Nat.le_of_ble_eq_true rfl⟩ rfl (Nat.le_of_ble_eq_true rfl) dX3_needNailer_8 ⟨Nat.le_of_ble_eq_true rfl, Nat.le_of_ble_eq_true rfl⟩) ?_
  exact v_vret C dX3_needNailer_11 rfl
set_option maxHeartbeats 4000000 in
set_option maxRecDepth 100000 in
theorem c_X3_lend {l : Launch} {P : L5} {D : va_G} {N F T : Nat → Nat → Int32} {K : Nat → Int32} {A : Nat → Nat → Int32} {w : Int64} {c : Nat} (hc : T 0 1 = nI c) (h12 : c ≤ 12) {p : Int32} (h1 : ¬ p < 0) (h2 : p < T 0 1) {q : Int32} (h3 : ¬ q < 1) (h4 : q ≤ 20) (h5 : N (12 * 0 + p.toNatClampNeg) 8 + q * 3 ≤ 90) : CtI l yX3_lend cX3_lend 5 .int 6 0 0 P D (nW P) (nW P) False (cw P N F T K A w) (cw P (va_up N (12 * 0 + p.toNatClampNeg) (upd (upd (N (12 * 0 + p.toNatClampNeg)) 3 (N (12 * 0 + p.toNatClampNeg) 3 + q)) 8 (N (12 * 0 + p.toNatClampNeg) 8 + q * 3))) F T K A w) [.ref (rX P), .int p, .int q] (N (12 * 0 + p.toNatClampNeg) 8 + q * 3) := by
  refine mk_Met pl_X3 [(0, .ref (rX P)), (1, .int p), (2, .int q)] rfl (Nat.le_of_ble_eq_true rfl) ?_
  intro pg en sg mg ag bg mt cd C
  obtain ⟨hin, hj⟩ := ixC h1 h2 hc h12
  refine v_aload_n C 0 dX3_lend_0 rfl ?_
  refine v_iload_n C 1 dX3_lend_1 rfl ?_
  refine go_V (run_V C (c_X3_needNailer h1 h2) k_20 k_1 k_16 k_18 ks_0 dd_X3_needNailer ⟨Nat.le_of_ble_eq_true rfl, Nat.le_of_ble_eq_true rfl⟩ rcX rfl (Nat.le_of_ble_eq_true rfl) dX3_lend_2 ⟨Nat.le_of_ble_eq_true rfl, Nat.le_of_ble_eq_true rfl⟩) ?_
  refine v_iload_n C 2 dX3_lend_5 rfl ?_
  refine v_iconst (v := 1) C dX3_lend_6 rfl ?_
  refine v_bipush (v := 20) C dX3_lend_7 rfl ?_
  refine go_V (run_S C (c_X3_needWithin h3 h4) k_96 k_1 k_94 k_95 dd_X3_needWithin ⟨Nat.le_of_ble_eq_true rfl, Nat.le_of_ble_eq_true rfl⟩ rfl (Nat.le_of_ble_eq_true rfl) dX3_lend_9 ⟨Nat.le_of_ble_eq_true rfl, Nat.le_of_ble_eq_true rfl⟩) ?_
  refine v_aload_n C 0 dX3_lend_12 rfl ?_
  refine v_gX C 0 (by decide) k_426 rfl dX3_lend_13 ?_
  refine v_gTuN C (by decide) 2 (by decide) (List.mem_of_getElem? (i := 20) rfl) rfl dX3_lend_16 ?_
  refine v_iload_n C 1 dX3_lend_19 rfl ?_
  refine v_aaNk C p.toNatClampNeg (by decide) rfl hin dX3_lend_20 ?_
  refine v_astore_n (lv' := [(3, .ref (rN P (12 * 0 + p.toNatClampNeg))), (0, .ref (rX P)), (1, .int p), (2, .int q)]) C dX3_lend_21 rfl (by decide) rfl ?_
  refine v_eq (f' := (cw P (va_up N (12 * 0 + p.toNatClampNeg) (N (12 * 0 + p.toNatClampNeg))) F T K A w)) (by rw [va_up_eta]) ?_
  refine v_aload_n C 0 dX3_lend_22 rfl ?_
  refine v_gNN C (by omega) 8 (by decide) (List.mem_of_getElem? (i := 8) rfl) rfl dX3_lend_23 ?_
  refine v_iload_n C 3 dX3_lend_26 rfl ?_
  refine v_iconst (v := 3) C dX3_lend_27 rfl ?_
  refine v_imul C dX3_lend_28 ?_
  refine v_iadd C dX3_lend_29 ?_
  refine v_top (fun x_1 ex_1 => ?_)
  refine v_istore (lv' := [(4, .int x_1), (3, .ref (rN P (12 * 0 + p.toNatClampNeg))), (0, .ref (rX P)), (1, .int p), (2, .int q)]) C dX3_lend_30 (by decide) rfl ?_
  refine v_iload C 0 dX3_lend_32 rfl ?_
  refine v_bipush (v := 90) C dX3_lend_34 rfl ?_
  refine v_icmp_le (tgt := 49) C dX3_lend_36 (by decide) (fun _ => ?_) (fun h9 => absurd (by rw [ex_1]; exact h5) h9)
  refine v_aload_n C 1 dX3_lend_49 rfl ?_
  refine v_dup C dX3_lend_50 rfl ?_
  refine v_gNN C (by omega) 3 (by decide) (List.mem_of_getElem? (i := 3) rfl) rfl dX3_lend_51 ?_
  refine v_iload_n C 4 dX3_lend_54 rfl ?_
  refine v_iadd C dX3_lend_55 ?_
  refine v_pNN C (by omega) 3 (by decide) (List.mem_of_getElem? (i := 3) rfl) dX3_lend_56 ?_
  refine v_aload_n C 1 dX3_lend_59 rfl ?_
  refine v_iload C 0 dX3_lend_60 rfl ?_
  refine v_pNN C (by omega) 8 (by decide) (List.mem_of_getElem? (i := 8) rfl) dX3_lend_62 ?_
  refine v_iload C 0 dX3_lend_65 rfl ?_
  exact v_iret C dX3_lend_67 (by rw [ex_1]) ex_1
set_option maxHeartbeats 4000000 in
set_option maxRecDepth 100000 in
theorem c_X3_coal {l : Launch} {P : L5} {D : va_G} {N F T : Nat → Nat → Int32} {K : Nat → Int32} {A : Nat → Nat → Int32} {w : Int64} {c : Nat} (hc : T 0 1 = nI c) (h12 : c ≤ 12) {p : Int32} (h1 : ¬ p < 0) (h2 : p < T 0 1) {q : Int32} (h3 : ¬ q < 1) (h4 : q ≤ 99) (h5 : ¬ N (12 * 0 + p.toNatClampNeg) 7 < ((q + 4 - 1) / 4)) (h6 : N (12 * 0 + p.toNatClampNeg) 6 + q ≤ 99) : CtI l yX3_coal cX3_coal 5 .int 6 0 0 P D (nW P) (nW P) False (cw P N F T K A w) (cw P (va_up N (12 * 0 + p.toNatClampNeg) (upd (upd (N (12 * 0 + p.toNatClampNeg)) 7 (N (12 * 0 + p.toNatClampNeg) 7 - ((q + 4 - 1) / 4))) 6 (N (12 * 0 + p.toNatClampNeg) 6 + q))) F T K A w) [.ref (rX P), .int p, .int q] (N (12 * 0 + p.toNatClampNeg) 6 + q) := by
  refine mk_Met pl_X3 [(0, .ref (rX P)), (1, .int p), (2, .int q)] rfl (Nat.le_of_ble_eq_true rfl) ?_
  intro pg en sg mg ag bg mt cd C
  obtain ⟨hin, hj⟩ := ixC h1 h2 hc h12
  refine v_aload_n C 0 dX3_coal_0 rfl ?_
  refine v_iload_n C 1 dX3_coal_1 rfl ?_
  refine go_V (run_V C (c_X3_needNailer h1 h2) k_20 k_1 k_16 k_18 ks_0 dd_X3_needNailer ⟨Nat.le_of_ble_eq_true rfl, Nat.le_of_ble_eq_true rfl⟩ rcX rfl (Nat.le_of_ble_eq_true rfl) dX3_coal_2 ⟨Nat.le_of_ble_eq_true rfl, Nat.le_of_ble_eq_true rfl⟩) ?_
  refine v_iload_n C 2 dX3_coal_5 rfl ?_
  refine v_iconst (v := 1) C dX3_coal_6 rfl ?_
  refine v_bipush (v := 99) C dX3_coal_7 rfl ?_
  refine go_V (run_S C (c_X3_needWithin h3 h4) k_96 k_1 k_94 k_95 dd_X3_needWithin ⟨Nat.le_of_ble_eq_true rfl, Nat.le_of_ble_eq_true rfl⟩ rfl (Nat.le_of_ble_eq_true rfl) dX3_coal_9 ⟨Nat.le_of_ble_eq_true rfl, Nat.le_of_ble_eq_true rfl⟩) ?_
  refine v_aload_n C 0 dX3_coal_12 rfl ?_
  refine v_gX C 0 (by decide) k_426 rfl dX3_coal_13 ?_
  refine v_gTuN C (by decide) 2 (by decide) (List.mem_of_getElem? (i := 20) rfl) rfl dX3_coal_16 ?_
  refine v_iload_n C 1 dX3_coal_19 rfl ?_
  refine v_aaNk C p.toNatClampNeg (by decide) rfl hin dX3_coal_20 ?_
  refine v_astore_n (lv' := [(3, .ref (rN P (12 * 0 + p.toNatClampNeg))), (0, .ref (rX P)), (1, .int p), (2, .int q)]) C dX3_coal_21 rfl (by decide) rfl ?_
  refine v_eq (f' := (cw P (va_up N (12 * 0 + p.toNatClampNeg) (N (12 * 0 + p.toNatClampNeg))) F T K A w)) (by rw [va_up_eta]) ?_
  refine v_iload_n C 3 dX3_coal_22 rfl ?_
  refine v_iconst (v := 4) C dX3_coal_23 rfl ?_
  refine v_iadd C dX3_coal_24 ?_
  refine v_iconst (v := 1) C dX3_coal_25 rfl ?_
  refine v_isub C dX3_coal_26 ?_
  refine v_iconst (v := 4) C dX3_coal_27 rfl ?_
  refine v_idiv C dX3_coal_28 (by decide) ?_
  refine v_top (fun x_1 ex_1 => ?_)
  refine v_istore (lv' := [(4, .int x_1), (3, .ref (rN P (12 * 0 + p.toNatClampNeg))), (0, .ref (rX P)), (1, .int p), (2, .int q)]) C dX3_coal_29 (by decide) rfl ?_
  refine v_iload C 0 dX3_coal_31 rfl ?_
  refine v_aload_n C 1 dX3_coal_33 rfl ?_
  refine v_gNN C (by omega) 7 (by decide) (List.mem_of_getElem? (i := 7) rfl) rfl dX3_coal_34 ?_
  refine v_icmp_gt (tgt := 51) C dX3_coal_37 (by decide) (fun h9 => absurd h9 (by rw [ex_1]; exact h5)) (fun _ => ?_)
  refine v_aload_n C 1 dX3_coal_40 rfl ?_
  refine v_gNN C (by omega) 6 (by decide) (List.mem_of_getElem? (i := 5) rfl) rfl dX3_coal_41 ?_
  refine v_iload_n C 4 dX3_coal_44 rfl ?_
  refine v_iadd C dX3_coal_45 ?_
  refine v_bipush (v := 99) C dX3_coal_46 rfl ?_
  refine v_icmp_le (tgt := 61) C dX3_coal_48 (by decide) (fun _ => ?_) (fun h9 => absurd h6 h9)
  refine v_aload_n C 1 dX3_coal_61 rfl ?_
  refine v_dup C dX3_coal_62 rfl ?_
  refine v_gNN C (by omega) 7 (by decide) (List.mem_of_getElem? (i := 7) rfl) rfl dX3_coal_63 ?_
  refine v_iload C 0 dX3_coal_66 rfl ?_
  refine v_isub C dX3_coal_68 ?_
  refine v_pNN C (by omega) 7 (by decide) (List.mem_of_getElem? (i := 7) rfl) dX3_coal_69 ?_
  refine v_aload_n C 1 dX3_coal_72 rfl ?_
  refine v_dup C dX3_coal_73 rfl ?_
  refine v_gNN C (by omega) 6 (by decide) (List.mem_of_getElem? (i := 5) rfl) rfl dX3_coal_74 ?_
  refine v_iload_n C 4 dX3_coal_77 rfl ?_
  refine v_iadd C dX3_coal_78 ?_
  refine v_pNN C (by omega) 6 (by decide) (List.mem_of_getElem? (i := 5) rfl) dX3_coal_79 ?_
  refine v_aload_n C 1 dX3_coal_82 rfl ?_
  refine v_gNN C (by omega) 6 (by decide) (List.mem_of_getElem? (i := 5) rfl) rfl dX3_coal_83 ?_
  exact v_iret C dX3_coal_86 (by rw [ex_1]; rfl) rfl
set_option maxHeartbeats 4000000 in
set_option maxRecDepth 100000 in
theorem c_X3_told_0 {l : Launch} {P : L5} {D : va_G} {N F T : Nat → Nat → Int32} {K : Nat → Int32} {A : Nat → Nat → Int32} {w : Int64} {c : Nat} (hc : T 0 1 = nI c) (h12 : c ≤ 12) {p : Int32} (h1 : ¬ p < 0) (h2 : p < T 0 1) : CtI l yX3_told cX3_told 3 .int 6 0 0 P D (nW P) (nW P) False (cw P N F T K A w) (cw P N F T K A w) [.ref (rX P), .int p, .int 0] (N (12 * 0 + p.toNatClampNeg) 0) := by
  refine mk_Met pl_X3 [(0, .ref (rX P)), (1, .int p), (2, .int 0)] rfl (Nat.le_of_ble_eq_true rfl) ?_
  intro pg en sg mg ag bg mt cd C
  obtain ⟨hin, hj⟩ := ixC h1 h2 hc h12
  refine v_aload_n C 0 dX3_told_0 rfl ?_
  refine v_iload_n C 1 dX3_told_1 rfl ?_
  refine go_V (run_V C (c_X3_needNailer h1 h2) k_20 k_1 k_16 k_18 ks_0 dd_X3_needNailer ⟨Nat.le_of_ble_eq_true rfl, Nat.le_of_ble_eq_true rfl⟩ rcX rfl (Nat.le_of_ble_eq_true rfl) dX3_told_2 ⟨Nat.le_of_ble_eq_true rfl, Nat.le_of_ble_eq_true rfl⟩) ?_
  refine v_iload_n C 2 dX3_told_5 rfl ?_
  refine v_bipush (v := 12) C dX3_told_6 rfl ?_
  refine go_V (run_S C (c_X3_needIndex (by decide) (by decide)) k_23 k_1 k_21 k_22 dd_X3_needIndex ⟨Nat.le_of_ble_eq_true rfl, Nat.le_of_ble_eq_true rfl⟩ rfl (Nat.le_of_ble_eq_true rfl) dX3_told_8 ⟨Nat.le_of_ble_eq_true rfl, Nat.le_of_ble_eq_true rfl⟩) ?_
  refine v_aload_n C 0 dX3_told_11 rfl ?_
  refine v_gX C 0 (by decide) k_426 rfl dX3_told_12 ?_
  refine v_gTuN C (by decide) 2 (by decide) (List.mem_of_getElem? (i := 20) rfl) rfl dX3_told_15 ?_
  refine v_iload_n C 1 dX3_told_18 rfl ?_
  refine v_aaNk C p.toNatClampNeg (by decide) rfl hin dX3_told_19 ?_
  refine v_iload_n C 2 dX3_told_20 rfl ?_
  refine go_I (run_VN C (c_X1_number_0 (by omega)) k_142 k_3 (List.mem_of_getElem? (i := 9) rfl) k_140 ks_2 dd_X1_number ⟨Nat.le_of_ble_eq_true rfl, Nat.le_of_ble_eq_true rfl⟩ (rcN (by omega)) rfl (Nat.le_of_ble_eq_true rfl) dX3_told_21 ⟨Nat.le_of_ble_eq_true rfl, Nat.le_of_ble_eq_true rfl⟩) ?_
  exact v_iret C dX3_told_24 rfl rfl
set_option maxHeartbeats 4000000 in
set_option maxRecDepth 100000 in
theorem c_X3_told_1 {l : Launch} {P : L5} {D : va_G} {N F T : Nat → Nat → Int32} {K : Nat → Int32} {A : Nat → Nat → Int32} {w : Int64} {c : Nat} (hc : T 0 1 = nI c) (h12 : c ≤ 12) {p : Int32} (h1 : ¬ p < 0) (h2 : p < T 0 1) : CtI l yX3_told cX3_told 3 .int 6 0 0 P D (nW P) (nW P) False (cw P N F T K A w) (cw P N F T K A w) [.ref (rX P), .int p, .int 1] (N (12 * 0 + p.toNatClampNeg) 1) := by
  refine mk_Met pl_X3 [(0, .ref (rX P)), (1, .int p), (2, .int 1)] rfl (Nat.le_of_ble_eq_true rfl) ?_
  intro pg en sg mg ag bg mt cd C
  obtain ⟨hin, hj⟩ := ixC h1 h2 hc h12
  refine v_aload_n C 0 dX3_told_0 rfl ?_
  refine v_iload_n C 1 dX3_told_1 rfl ?_
  refine go_V (run_V C (c_X3_needNailer h1 h2) k_20 k_1 k_16 k_18 ks_0 dd_X3_needNailer ⟨Nat.le_of_ble_eq_true rfl, Nat.le_of_ble_eq_true rfl⟩ rcX rfl (Nat.le_of_ble_eq_true rfl) dX3_told_2 ⟨Nat.le_of_ble_eq_true rfl, Nat.le_of_ble_eq_true rfl⟩) ?_
  refine v_iload_n C 2 dX3_told_5 rfl ?_
  refine v_bipush (v := 12) C dX3_told_6 rfl ?_
  refine go_V (run_S C (c_X3_needIndex (by decide) (by decide)) k_23 k_1 k_21 k_22 dd_X3_needIndex ⟨Nat.le_of_ble_eq_true rfl, Nat.le_of_ble_eq_true rfl⟩ rfl (Nat.le_of_ble_eq_true rfl) dX3_told_8 ⟨Nat.le_of_ble_eq_true rfl, Nat.le_of_ble_eq_true rfl⟩) ?_
  refine v_aload_n C 0 dX3_told_11 rfl ?_
  refine v_gX C 0 (by decide) k_426 rfl dX3_told_12 ?_
  refine v_gTuN C (by decide) 2 (by decide) (List.mem_of_getElem? (i := 20) rfl) rfl dX3_told_15 ?_
  refine v_iload_n C 1 dX3_told_18 rfl ?_
  refine v_aaNk C p.toNatClampNeg (by decide) rfl hin dX3_told_19 ?_
  refine v_iload_n C 2 dX3_told_20 rfl ?_
  refine go_I (run_VN C (c_X1_number_1 (by omega)) k_142 k_3 (List.mem_of_getElem? (i := 9) rfl) k_140 ks_2 dd_X1_number ⟨Nat.le_of_ble_eq_true rfl, Nat.le_of_ble_eq_true rfl⟩ (rcN (by omega)) rfl (Nat.le_of_ble_eq_true rfl) dX3_told_21 ⟨Nat.le_of_ble_eq_true rfl, Nat.le_of_ble_eq_true rfl⟩) ?_
  exact v_iret C dX3_told_24 rfl rfl
set_option maxHeartbeats 4000000 in
set_option maxRecDepth 100000 in
theorem c_X3_told_2 {l : Launch} {P : L5} {D : va_G} {N F T : Nat → Nat → Int32} {K : Nat → Int32} {A : Nat → Nat → Int32} {w : Int64} {c : Nat} (hc : T 0 1 = nI c) (h12 : c ≤ 12) {p : Int32} (h1 : ¬ p < 0) (h2 : p < T 0 1) : CtI l yX3_told cX3_told 3 .int 6 0 0 P D (nW P) (nW P) False (cw P N F T K A w) (cw P N F T K A w) [.ref (rX P), .int p, .int 2] (N (12 * 0 + p.toNatClampNeg) 2) := by
  refine mk_Met pl_X3 [(0, .ref (rX P)), (1, .int p), (2, .int 2)] rfl (Nat.le_of_ble_eq_true rfl) ?_
  intro pg en sg mg ag bg mt cd C
  obtain ⟨hin, hj⟩ := ixC h1 h2 hc h12
  refine v_aload_n C 0 dX3_told_0 rfl ?_
  refine v_iload_n C 1 dX3_told_1 rfl ?_
  refine go_V (run_V C (c_X3_needNailer h1 h2) k_20 k_1 k_16 k_18 ks_0 dd_X3_needNailer ⟨Nat.le_of_ble_eq_true rfl, Nat.le_of_ble_eq_true rfl⟩ rcX rfl (Nat.le_of_ble_eq_true rfl) dX3_told_2 ⟨Nat.le_of_ble_eq_true rfl, Nat.le_of_ble_eq_true rfl⟩) ?_
  refine v_iload_n C 2 dX3_told_5 rfl ?_
  refine v_bipush (v := 12) C dX3_told_6 rfl ?_
  refine go_V (run_S C (c_X3_needIndex (by decide) (by decide)) k_23 k_1 k_21 k_22 dd_X3_needIndex ⟨Nat.le_of_ble_eq_true rfl, Nat.le_of_ble_eq_true rfl⟩ rfl (Nat.le_of_ble_eq_true rfl) dX3_told_8 ⟨Nat.le_of_ble_eq_true rfl, Nat.le_of_ble_eq_true rfl⟩) ?_
  refine v_aload_n C 0 dX3_told_11 rfl ?_
  refine v_gX C 0 (by decide) k_426 rfl dX3_told_12 ?_
  refine v_gTuN C (by decide) 2 (by decide) (List.mem_of_getElem? (i := 20) rfl) rfl dX3_told_15 ?_
  refine v_iload_n C 1 dX3_told_18 rfl ?_
  refine v_aaNk C p.toNatClampNeg (by decide) rfl hin dX3_told_19 ?_
  refine v_iload_n C 2 dX3_told_20 rfl ?_
  refine go_I (run_VN C (c_X1_number_2 (by omega)) k_142 k_3 (List.mem_of_getElem? (i := 9) rfl) k_140 ks_2 dd_X1_number ⟨Nat.le_of_ble_eq_true rfl, Nat.le_of_ble_eq_true rfl⟩ (rcN (by omega)) rfl (Nat.le_of_ble_eq_true rfl) dX3_told_21 ⟨Nat.le_of_ble_eq_true rfl, Nat.le_of_ble_eq_true rfl⟩) ?_
  exact v_iret C dX3_told_24 rfl rfl
set_option maxHeartbeats 4000000 in
set_option maxRecDepth 100000 in
theorem c_X3_told_3 {l : Launch} {P : L5} {D : va_G} {N F T : Nat → Nat → Int32} {K : Nat → Int32} {A : Nat → Nat → Int32} {w : Int64} {c : Nat} (hc : T 0 1 = nI c) (h12 : c ≤ 12) {p : Int32} (h1 : ¬ p < 0) (h2 : p < T 0 1) : CtI l yX3_told cX3_told 3 .int 6 0 0 P D (nW P) (nW P) False (cw P N F T K A w) (cw P N F T K A w) [.ref (rX P), .int p, .int 3] (N (12 * 0 + p.toNatClampNeg) 3) := by
  refine mk_Met pl_X3 [(0, .ref (rX P)), (1, .int p), (2, .int 3)] rfl (Nat.le_of_ble_eq_true rfl) ?_
  intro pg en sg mg ag bg mt cd C
  obtain ⟨hin, hj⟩ := ixC h1 h2 hc h12
  refine v_aload_n C 0 dX3_told_0 rfl ?_
  refine v_iload_n C 1 dX3_told_1 rfl ?_
  refine go_V (run_V C (c_X3_needNailer h1 h2) k_20 k_1 k_16 k_18 ks_0 dd_X3_needNailer ⟨Nat.le_of_ble_eq_true rfl, Nat.le_of_ble_eq_true rfl⟩ rcX rfl (Nat.le_of_ble_eq_true rfl) dX3_told_2 ⟨Nat.le_of_ble_eq_true rfl, Nat.le_of_ble_eq_true rfl⟩) ?_
  refine v_iload_n C 2 dX3_told_5 rfl ?_
  refine v_bipush (v := 12) C dX3_told_6 rfl ?_
  refine go_V (run_S C (c_X3_needIndex (by decide) (by decide)) k_23 k_1 k_21 k_22 dd_X3_needIndex ⟨Nat.le_of_ble_eq_true rfl, Nat.le_of_ble_eq_true rfl⟩ rfl (Nat.le_of_ble_eq_true rfl) dX3_told_8 ⟨Nat.le_of_ble_eq_true rfl, Nat.le_of_ble_eq_true rfl⟩) ?_
  refine v_aload_n C 0 dX3_told_11 rfl ?_
  refine v_gX C 0 (by decide) k_426 rfl dX3_told_12 ?_
  refine v_gTuN C (by decide) 2 (by decide) (List.mem_of_getElem? (i := 20) rfl) rfl dX3_told_15 ?_
  refine v_iload_n C 1 dX3_told_18 rfl ?_
  refine v_aaNk C p.toNatClampNeg (by decide) rfl hin dX3_told_19 ?_
  refine v_iload_n C 2 dX3_told_20 rfl ?_
  refine go_I (run_VN C (c_X1_number_3 (by omega)) k_142 k_3 (List.mem_of_getElem? (i := 9) rfl) k_140 ks_2 dd_X1_number ⟨Nat.le_of_ble_eq_true rfl, Nat.le_of_ble_eq_true rfl⟩ (rcN (by omega)) rfl (Nat.le_of_ble_eq_true rfl) dX3_told_21 ⟨Nat.le_of_ble_eq_true rfl, Nat.le_of_ble_eq_true rfl⟩) ?_
  exact v_iret C dX3_told_24 rfl rfl
set_option maxHeartbeats 4000000 in
set_option maxRecDepth 100000 in
theorem c_X3_told_4 {l : Launch} {P : L5} {D : va_G} {N F T : Nat → Nat → Int32} {K : Nat → Int32} {A : Nat → Nat → Int32} {w : Int64} {c : Nat} (hc : T 0 1 = nI c) (h12 : c ≤ 12) {p : Int32} (h1 : ¬ p < 0) (h2 : p < T 0 1) : CtI l yX3_told cX3_told 3 .int 6 0 0 P D (nW P) (nW P) False (cw P N F T K A w) (cw P N F T K A w) [.ref (rX P), .int p, .int 4] (N (12 * 0 + p.toNatClampNeg) 4) := by
  refine mk_Met pl_X3 [(0, .ref (rX P)), (1, .int p), (2, .int 4)] rfl (Nat.le_of_ble_eq_true rfl) ?_
  intro pg en sg mg ag bg mt cd C
  obtain ⟨hin, hj⟩ := ixC h1 h2 hc h12
  refine v_aload_n C 0 dX3_told_0 rfl ?_
  refine v_iload_n C 1 dX3_told_1 rfl ?_
  refine go_V (run_V C (c_X3_needNailer h1 h2) k_20 k_1 k_16 k_18 ks_0 dd_X3_needNailer ⟨Nat.le_of_ble_eq_true rfl, Nat.le_of_ble_eq_true rfl⟩ rcX rfl (Nat.le_of_ble_eq_true rfl) dX3_told_2 ⟨Nat.le_of_ble_eq_true rfl, Nat.le_of_ble_eq_true rfl⟩) ?_
  refine v_iload_n C 2 dX3_told_5 rfl ?_
  refine v_bipush (v := 12) C dX3_told_6 rfl ?_
  refine go_V (run_S C (c_X3_needIndex (by decide) (by decide)) k_23 k_1 k_21 k_22 dd_X3_needIndex ⟨Nat.le_of_ble_eq_true rfl, Nat.le_of_ble_eq_true rfl⟩ rfl (Nat.le_of_ble_eq_true rfl) dX3_told_8 ⟨Nat.le_of_ble_eq_true rfl, Nat.le_of_ble_eq_true rfl⟩) ?_
  refine v_aload_n C 0 dX3_told_11 rfl ?_
  refine v_gX C 0 (by decide) k_426 rfl dX3_told_12 ?_
  refine v_gTuN C (by decide) 2 (by decide) (List.mem_of_getElem? (i := 20) rfl) rfl dX3_told_15 ?_
  refine v_iload_n C 1 dX3_told_18 rfl ?_
  refine v_aaNk C p.toNatClampNeg (by decide) rfl hin dX3_told_19 ?_
  refine v_iload_n C 2 dX3_told_20 rfl ?_
  refine go_I (run_VN C (c_X1_number_4 (by omega)) k_142 k_3 (List.mem_of_getElem? (i := 9) rfl) k_140 ks_2 dd_X1_number ⟨Nat.le_of_ble_eq_true rfl, Nat.le_of_ble_eq_true rfl⟩ (rcN (by omega)) rfl (Nat.le_of_ble_eq_true rfl) dX3_told_21 ⟨Nat.le_of_ble_eq_true rfl, Nat.le_of_ble_eq_true rfl⟩) ?_
  exact v_iret C dX3_told_24 rfl rfl
set_option maxHeartbeats 4000000 in
set_option maxRecDepth 100000 in
theorem c_X3_told_5 {l : Launch} {P : L5} {D : va_G} {N F T : Nat → Nat → Int32} {K : Nat → Int32} {A : Nat → Nat → Int32} {w : Int64} {c : Nat} (hc : T 0 1 = nI c) (h12 : c ≤ 12) {p : Int32} (h1 : ¬ p < 0) (h2 : p < T 0 1) : CtI l yX3_told cX3_told 3 .int 6 0 0 P D (nW P) (nW P) False (cw P N F T K A w) (cw P N F T K A w) [.ref (rX P), .int p, .int 5] (N (12 * 0 + p.toNatClampNeg) 5) := by
  refine mk_Met pl_X3 [(0, .ref (rX P)), (1, .int p), (2, .int 5)] rfl (Nat.le_of_ble_eq_true rfl) ?_
  intro pg en sg mg ag bg mt cd C
  obtain ⟨hin, hj⟩ := ixC h1 h2 hc h12
  refine v_aload_n C 0 dX3_told_0 rfl ?_
  refine v_iload_n C 1 dX3_told_1 rfl ?_
  refine go_V (run_V C (c_X3_needNailer h1 h2) k_20 k_1 k_16 k_18 ks_0 dd_X3_needNailer ⟨Nat.le_of_ble_eq_true rfl, Nat.le_of_ble_eq_true rfl⟩ rcX rfl (Nat.le_of_ble_eq_true rfl) dX3_told_2 ⟨Nat.le_of_ble_eq_true rfl, Nat.le_of_ble_eq_true rfl⟩) ?_
  refine v_iload_n C 2 dX3_told_5 rfl ?_
  refine v_bipush (v := 12) C dX3_told_6 rfl ?_
  refine go_V (run_S C (c_X3_needIndex (by decide) (by decide)) k_23 k_1 k_21 k_22 dd_X3_needIndex ⟨Nat.le_of_ble_eq_true rfl, Nat.le_of_ble_eq_true rfl⟩ rfl (Nat.le_of_ble_eq_true rfl) dX3_told_8 ⟨Nat.le_of_ble_eq_true rfl, Nat.le_of_ble_eq_true rfl⟩) ?_
  refine v_aload_n C 0 dX3_told_11 rfl ?_
  refine v_gX C 0 (by decide) k_426 rfl dX3_told_12 ?_
  refine v_gTuN C (by decide) 2 (by decide) (List.mem_of_getElem? (i := 20) rfl) rfl dX3_told_15 ?_
  refine v_iload_n C 1 dX3_told_18 rfl ?_
  refine v_aaNk C p.toNatClampNeg (by decide) rfl hin dX3_told_19 ?_
  refine v_iload_n C 2 dX3_told_20 rfl ?_
  refine go_I (run_VN C (c_X1_number_5 (by omega)) k_142 k_3 (List.mem_of_getElem? (i := 9) rfl) k_140 ks_2 dd_X1_number ⟨Nat.le_of_ble_eq_true rfl, Nat.le_of_ble_eq_true rfl⟩ (rcN (by omega)) rfl (Nat.le_of_ble_eq_true rfl) dX3_told_21 ⟨Nat.le_of_ble_eq_true rfl, Nat.le_of_ble_eq_true rfl⟩) ?_
  exact v_iret C dX3_told_24 rfl rfl
set_option maxHeartbeats 4000000 in
set_option maxRecDepth 100000 in
theorem c_X3_told_6 {l : Launch} {P : L5} {D : va_G} {N F T : Nat → Nat → Int32} {K : Nat → Int32} {A : Nat → Nat → Int32} {w : Int64} {c : Nat} (hc : T 0 1 = nI c) (h12 : c ≤ 12) {p : Int32} (h1 : ¬ p < 0) (h2 : p < T 0 1) : CtI l yX3_told cX3_told 3 .int 6 0 0 P D (nW P) (nW P) False (cw P N F T K A w) (cw P N F T K A w) [.ref (rX P), .int p, .int 6] (N (12 * 0 + p.toNatClampNeg) 6) := by
  refine mk_Met pl_X3 [(0, .ref (rX P)), (1, .int p), (2, .int 6)] rfl (Nat.le_of_ble_eq_true rfl) ?_
  intro pg en sg mg ag bg mt cd C
  obtain ⟨hin, hj⟩ := ixC h1 h2 hc h12
  refine v_aload_n C 0 dX3_told_0 rfl ?_
  refine v_iload_n C 1 dX3_told_1 rfl ?_
  refine go_V (run_V C (c_X3_needNailer h1 h2) k_20 k_1 k_16 k_18 ks_0 dd_X3_needNailer ⟨Nat.le_of_ble_eq_true rfl, Nat.le_of_ble_eq_true rfl⟩ rcX rfl (Nat.le_of_ble_eq_true rfl) dX3_told_2 ⟨Nat.le_of_ble_eq_true rfl, Nat.le_of_ble_eq_true rfl⟩) ?_
  refine v_iload_n C 2 dX3_told_5 rfl ?_
  refine v_bipush (v := 12) C dX3_told_6 rfl ?_
  refine go_V (run_S C (c_X3_needIndex (by decide) (by decide)) k_23 k_1 k_21 k_22 dd_X3_needIndex ⟨Nat.le_of_ble_eq_true rfl, Nat.le_of_ble_eq_true rfl⟩ rfl (Nat.le_of_ble_eq_true rfl) dX3_told_8 ⟨Nat.le_of_ble_eq_true rfl, Nat.le_of_ble_eq_true rfl⟩) ?_
  refine v_aload_n C 0 dX3_told_11 rfl ?_
  refine v_gX C 0 (by decide) k_426 rfl dX3_told_12 ?_
  refine v_gTuN C (by decide) 2 (by decide) (List.mem_of_getElem? (i := 20) rfl) rfl dX3_told_15 ?_
  refine v_iload_n C 1 dX3_told_18 rfl ?_
  refine v_aaNk C p.toNatClampNeg (by decide) rfl hin dX3_told_19 ?_
  refine v_iload_n C 2 dX3_told_20 rfl ?_
  refine go_I (run_VN C (c_X1_number_6 (by omega)) k_142 k_3 (List.mem_of_getElem? (i := 9) rfl) k_140 ks_2 dd_X1_number ⟨Nat.le_of_ble_eq_true rfl, Nat.le_of_ble_eq_true rfl⟩ (rcN (by omega)) rfl (Nat.le_of_ble_eq_true rfl) dX3_told_21 ⟨Nat.le_of_ble_eq_true rfl, Nat.le_of_ble_eq_true rfl⟩) ?_
  exact v_iret C dX3_told_24 rfl rfl
set_option maxHeartbeats 4000000 in
set_option maxRecDepth 100000 in
theorem c_X3_told_7 {l : Launch} {P : L5} {D : va_G} {N F T : Nat → Nat → Int32} {K : Nat → Int32} {A : Nat → Nat → Int32} {w : Int64} {c : Nat} (hc : T 0 1 = nI c) (h12 : c ≤ 12) {p : Int32} (h1 : ¬ p < 0) (h2 : p < T 0 1) : CtI l yX3_told cX3_told 3 .int 6 0 0 P D (nW P) (nW P) False (cw P N F T K A w) (cw P N F T K A w) [.ref (rX P), .int p, .int 7] (N (12 * 0 + p.toNatClampNeg) 7) := by
  refine mk_Met pl_X3 [(0, .ref (rX P)), (1, .int p), (2, .int 7)] rfl (Nat.le_of_ble_eq_true rfl) ?_
  intro pg en sg mg ag bg mt cd C
  obtain ⟨hin, hj⟩ := ixC h1 h2 hc h12
  refine v_aload_n C 0 dX3_told_0 rfl ?_
  refine v_iload_n C 1 dX3_told_1 rfl ?_
  refine go_V (run_V C (c_X3_needNailer h1 h2) k_20 k_1 k_16 k_18 ks_0 dd_X3_needNailer ⟨Nat.le_of_ble_eq_true rfl, Nat.le_of_ble_eq_true rfl⟩ rcX rfl (Nat.le_of_ble_eq_true rfl) dX3_told_2 ⟨Nat.le_of_ble_eq_true rfl, Nat.le_of_ble_eq_true rfl⟩) ?_
  refine v_iload_n C 2 dX3_told_5 rfl ?_
  refine v_bipush (v := 12) C dX3_told_6 rfl ?_
  refine go_V (run_S C (c_X3_needIndex (by decide) (by decide)) k_23 k_1 k_21 k_22 dd_X3_needIndex ⟨Nat.le_of_ble_eq_true rfl, Nat.le_of_ble_eq_true rfl⟩ rfl (Nat.le_of_ble_eq_true rfl) dX3_told_8 ⟨Nat.le_of_ble_eq_true rfl, Nat.le_of_ble_eq_true rfl⟩) ?_
  refine v_aload_n C 0 dX3_told_11 rfl ?_
  refine v_gX C 0 (by decide) k_426 rfl dX3_told_12 ?_
  refine v_gTuN C (by decide) 2 (by decide) (List.mem_of_getElem? (i := 20) rfl) rfl dX3_told_15 ?_
  refine v_iload_n C 1 dX3_told_18 rfl ?_
  refine v_aaNk C p.toNatClampNeg (by decide) rfl hin dX3_told_19 ?_
  refine v_iload_n C 2 dX3_told_20 rfl ?_
  refine go_I (run_VN C (c_X1_number_7 (by omega)) k_142 k_3 (List.mem_of_getElem? (i := 9) rfl) k_140 ks_2 dd_X1_number ⟨Nat.le_of_ble_eq_true rfl, Nat.le_of_ble_eq_true rfl⟩ (rcN (by omega)) rfl (Nat.le_of_ble_eq_true rfl) dX3_told_21 ⟨Nat.le_of_ble_eq_true rfl, Nat.le_of_ble_eq_true rfl⟩) ?_
  exact v_iret C dX3_told_24 rfl rfl
set_option maxHeartbeats 4000000 in
set_option maxRecDepth 100000 in
theorem c_X3_told_8 {l : Launch} {P : L5} {D : va_G} {N F T : Nat → Nat → Int32} {K : Nat → Int32} {A : Nat → Nat → Int32} {w : Int64} {c : Nat} (hc : T 0 1 = nI c) (h12 : c ≤ 12) {p : Int32} (h1 : ¬ p < 0) (h2 : p < T 0 1) : CtI l yX3_told cX3_told 3 .int 6 0 0 P D (nW P) (nW P) False (cw P N F T K A w) (cw P N F T K A w) [.ref (rX P), .int p, .int 8] (N (12 * 0 + p.toNatClampNeg) 8) := by
  refine mk_Met pl_X3 [(0, .ref (rX P)), (1, .int p), (2, .int 8)] rfl (Nat.le_of_ble_eq_true rfl) ?_
  intro pg en sg mg ag bg mt cd C
  obtain ⟨hin, hj⟩ := ixC h1 h2 hc h12
  refine v_aload_n C 0 dX3_told_0 rfl ?_
  refine v_iload_n C 1 dX3_told_1 rfl ?_
  refine go_V (run_V C (c_X3_needNailer h1 h2) k_20 k_1 k_16 k_18 ks_0 dd_X3_needNailer ⟨Nat.le_of_ble_eq_true rfl, Nat.le_of_ble_eq_true rfl⟩ rcX rfl (Nat.le_of_ble_eq_true rfl) dX3_told_2 ⟨Nat.le_of_ble_eq_true rfl, Nat.le_of_ble_eq_true rfl⟩) ?_
  refine v_iload_n C 2 dX3_told_5 rfl ?_
  refine v_bipush (v := 12) C dX3_told_6 rfl ?_
  refine go_V (run_S C (c_X3_needIndex (by decide) (by decide)) k_23 k_1 k_21 k_22 dd_X3_needIndex ⟨Nat.le_of_ble_eq_true rfl, Nat.le_of_ble_eq_true rfl⟩ rfl (Nat.le_of_ble_eq_true rfl) dX3_told_8 ⟨Nat.le_of_ble_eq_true rfl, Nat.le_of_ble_eq_true rfl⟩) ?_
  refine v_aload_n C 0 dX3_told_11 rfl ?_
  refine v_gX C 0 (by decide) k_426 rfl dX3_told_12 ?_
  refine v_gTuN C (by decide) 2 (by decide) (List.mem_of_getElem? (i := 20) rfl) rfl dX3_told_15 ?_
  refine v_iload_n C 1 dX3_told_18 rfl ?_
  refine v_aaNk C p.toNatClampNeg (by decide) rfl hin dX3_told_19 ?_
  refine v_iload_n C 2 dX3_told_20 rfl ?_
  refine go_I (run_VN C (c_X1_number_8 (by omega)) k_142 k_3 (List.mem_of_getElem? (i := 9) rfl) k_140 ks_2 dd_X1_number ⟨Nat.le_of_ble_eq_true rfl, Nat.le_of_ble_eq_true rfl⟩ (rcN (by omega)) rfl (Nat.le_of_ble_eq_true rfl) dX3_told_21 ⟨Nat.le_of_ble_eq_true rfl, Nat.le_of_ble_eq_true rfl⟩) ?_
  exact v_iret C dX3_told_24 rfl rfl
set_option maxHeartbeats 4000000 in
set_option maxRecDepth 100000 in
theorem c_X3_told_9 {l : Launch} {P : L5} {D : va_G} {N F T : Nat → Nat → Int32} {K : Nat → Int32} {A : Nat → Nat → Int32} {w : Int64} {c : Nat} (hc : T 0 1 = nI c) (h12 : c ≤ 12) {p : Int32} (h1 : ¬ p < 0) (h2 : p < T 0 1) : CtI l yX3_told cX3_told 3 .int 6 0 0 P D (nW P) (nW P) False (cw P N F T K A w) (cw P N F T K A w) [.ref (rX P), .int p, .int 9] (N (12 * 0 + p.toNatClampNeg) 9) := by
  refine mk_Met pl_X3 [(0, .ref (rX P)), (1, .int p), (2, .int 9)] rfl (Nat.le_of_ble_eq_true rfl) ?_
  intro pg en sg mg ag bg mt cd C
  obtain ⟨hin, hj⟩ := ixC h1 h2 hc h12
  refine v_aload_n C 0 dX3_told_0 rfl ?_
  refine v_iload_n C 1 dX3_told_1 rfl ?_
  refine go_V (run_V C (c_X3_needNailer h1 h2) k_20 k_1 k_16 k_18 ks_0 dd_X3_needNailer ⟨Nat.le_of_ble_eq_true rfl, Nat.le_of_ble_eq_true rfl⟩ rcX rfl (Nat.le_of_ble_eq_true rfl) dX3_told_2 ⟨Nat.le_of_ble_eq_true rfl, Nat.le_of_ble_eq_true rfl⟩) ?_
  refine v_iload_n C 2 dX3_told_5 rfl ?_
  refine v_bipush (v := 12) C dX3_told_6 rfl ?_
  refine go_V (run_S C (c_X3_needIndex (by decide) (by decide)) k_23 k_1 k_21 k_22 dd_X3_needIndex ⟨Nat.le_of_ble_eq_true rfl, Nat.le_of_ble_eq_true rfl⟩ rfl (Nat.le_of_ble_eq_true rfl) dX3_told_8 ⟨Nat.le_of_ble_eq_true rfl, Nat.le_of_ble_eq_true rfl⟩) ?_
  refine v_aload_n C 0 dX3_told_11 rfl ?_
  refine v_gX C 0 (by decide) k_426 rfl dX3_told_12 ?_
  refine v_gTuN C (by decide) 2 (by decide) (List.mem_of_getElem? (i := 20) rfl) rfl dX3_told_15 ?_
  refine v_iload_n C 1 dX3_told_18 rfl ?_
  refine v_aaNk C p.toNatClampNeg (by decide) rfl hin dX3_told_19 ?_
  refine v_iload_n C 2 dX3_told_20 rfl ?_
  refine go_I (run_VN C (c_X1_number_9 (by omega)) k_142 k_3 (List.mem_of_getElem? (i := 9) rfl) k_140 ks_2 dd_X1_number ⟨Nat.le_of_ble_eq_true rfl, Nat.le_of_ble_eq_true rfl⟩ (rcN (by omega)) rfl (Nat.le_of_ble_eq_true rfl) dX3_told_21 ⟨Nat.le_of_ble_eq_true rfl, Nat.le_of_ble_eq_true rfl⟩) ?_
  exact v_iret C dX3_told_24 rfl rfl
set_option maxHeartbeats 4000000 in
set_option maxRecDepth 100000 in
theorem c_X3_told_10 {l : Launch} {P : L5} {D : va_G} {N F T : Nat → Nat → Int32} {K : Nat → Int32} {A : Nat → Nat → Int32} {w : Int64} {c : Nat} (hc : T 0 1 = nI c) (h12 : c ≤ 12) {p : Int32} (h1 : ¬ p < 0) (h2 : p < T 0 1) : CtI l yX3_told cX3_told 3 .int 6 0 0 P D (nW P) (nW P) False (cw P N F T K A w) (cw P N F T K A w) [.ref (rX P), .int p, .int 10] (N (12 * 0 + p.toNatClampNeg) 10) := by
  refine mk_Met pl_X3 [(0, .ref (rX P)), (1, .int p), (2, .int 10)] rfl (Nat.le_of_ble_eq_true rfl) ?_
  intro pg en sg mg ag bg mt cd C
  obtain ⟨hin, hj⟩ := ixC h1 h2 hc h12
  refine v_aload_n C 0 dX3_told_0 rfl ?_
  refine v_iload_n C 1 dX3_told_1 rfl ?_
  refine go_V (run_V C (c_X3_needNailer h1 h2) k_20 k_1 k_16 k_18 ks_0 dd_X3_needNailer ⟨Nat.le_of_ble_eq_true rfl, Nat.le_of_ble_eq_true rfl⟩ rcX rfl (Nat.le_of_ble_eq_true rfl) dX3_told_2 ⟨Nat.le_of_ble_eq_true rfl, Nat.le_of_ble_eq_true rfl⟩) ?_
  refine v_iload_n C 2 dX3_told_5 rfl ?_
  refine v_bipush (v := 12) C dX3_told_6 rfl ?_
  refine go_V (run_S C (c_X3_needIndex (by decide) (by decide)) k_23 k_1 k_21 k_22 dd_X3_needIndex ⟨Nat.le_of_ble_eq_true rfl, Nat.le_of_ble_eq_true rfl⟩ rfl (Nat.le_of_ble_eq_true rfl) dX3_told_8 ⟨Nat.le_of_ble_eq_true rfl, Nat.le_of_ble_eq_true rfl⟩) ?_
  refine v_aload_n C 0 dX3_told_11 rfl ?_
  refine v_gX C 0 (by decide) k_426 rfl dX3_told_12 ?_
  refine v_gTuN C (by decide) 2 (by decide) (List.mem_of_getElem? (i := 20) rfl) rfl dX3_told_15 ?_
  refine v_iload_n C 1 dX3_told_18 rfl ?_
  refine v_aaNk C p.toNatClampNeg (by decide) rfl hin dX3_told_19 ?_
  refine v_iload_n C 2 dX3_told_20 rfl ?_
  refine go_I (run_VN C (c_X1_number_10 (by omega)) k_142 k_3 (List.mem_of_getElem? (i := 9) rfl) k_140 ks_2 dd_X1_number ⟨Nat.le_of_ble_eq_true rfl, Nat.le_of_ble_eq_true rfl⟩ (rcN (by omega)) rfl (Nat.le_of_ble_eq_true rfl) dX3_told_21 ⟨Nat.le_of_ble_eq_true rfl, Nat.le_of_ble_eq_true rfl⟩) ?_
  exact v_iret C dX3_told_24 rfl rfl
set_option maxHeartbeats 4000000 in
set_option maxRecDepth 100000 in
theorem c_X3_told_11 {l : Launch} {P : L5} {D : va_G} {N F T : Nat → Nat → Int32} {K : Nat → Int32} {A : Nat → Nat → Int32} {w : Int64} {c : Nat} (hc : T 0 1 = nI c) (h12 : c ≤ 12) {p : Int32} (h1 : ¬ p < 0) (h2 : p < T 0 1) : CtI l yX3_told cX3_told 3 .int 6 0 0 P D (nW P) (nW P) False (cw P N F T K A w) (cw P N F T K A w) [.ref (rX P), .int p, .int 11] (N (12 * 0 + p.toNatClampNeg) 11) := by
  refine mk_Met pl_X3 [(0, .ref (rX P)), (1, .int p), (2, .int 11)] rfl (Nat.le_of_ble_eq_true rfl) ?_
  intro pg en sg mg ag bg mt cd C
  obtain ⟨hin, hj⟩ := ixC h1 h2 hc h12
  refine v_aload_n C 0 dX3_told_0 rfl ?_
  refine v_iload_n C 1 dX3_told_1 rfl ?_
  refine go_V (run_V C (c_X3_needNailer h1 h2) k_20 k_1 k_16 k_18 ks_0 dd_X3_needNailer ⟨Nat.le_of_ble_eq_true rfl, Nat.le_of_ble_eq_true rfl⟩ rcX rfl (Nat.le_of_ble_eq_true rfl) dX3_told_2 ⟨Nat.le_of_ble_eq_true rfl, Nat.le_of_ble_eq_true rfl⟩) ?_
  refine v_iload_n C 2 dX3_told_5 rfl ?_
  refine v_bipush (v := 12) C dX3_told_6 rfl ?_
  refine go_V (run_S C (c_X3_needIndex (by decide) (by decide)) k_23 k_1 k_21 k_22 dd_X3_needIndex ⟨Nat.le_of_ble_eq_true rfl, Nat.le_of_ble_eq_true rfl⟩ rfl (Nat.le_of_ble_eq_true rfl) dX3_told_8 ⟨Nat.le_of_ble_eq_true rfl, Nat.le_of_ble_eq_true rfl⟩) ?_
  refine v_aload_n C 0 dX3_told_11 rfl ?_
  refine v_gX C 0 (by decide) k_426 rfl dX3_told_12 ?_
  refine v_gTuN C (by decide) 2 (by decide) (List.mem_of_getElem? (i := 20) rfl) rfl dX3_told_15 ?_
  refine v_iload_n C 1 dX3_told_18 rfl ?_
  refine v_aaNk C p.toNatClampNeg (by decide) rfl hin dX3_told_19 ?_
  refine v_iload_n C 2 dX3_told_20 rfl ?_
  refine go_I (run_VN C (c_X1_number_11 (by omega)) k_142 k_3 (List.mem_of_getElem? (i := 9) rfl) k_140 ks_2 dd_X1_number ⟨Nat.le_of_ble_eq_true rfl, Nat.le_of_ble_eq_true rfl⟩ (rcN (by omega)) rfl (Nat.le_of_ble_eq_true rfl) dX3_told_21 ⟨Nat.le_of_ble_eq_true rfl, Nat.le_of_ble_eq_true rfl⟩) ?_
  exact v_iret C dX3_told_24 rfl rfl
set_option maxHeartbeats 4000000 in
set_option maxRecDepth 100000 in
theorem c_X3_nails_0 {l : Launch} {P : L5} {D : va_G} {N F T : Nat → Nat → Int32} {K : Nat → Int32} {A : Nat → Nat → Int32} {w : Int64} {c : Nat} (hc : T 0 1 = nI c) (h12 : c ≤ 12) {p : Int32} (h1 : ¬ p < 0) (h2 : p < T 0 1) {q : Int32} (h3 : ¬ q < 0) (h4 : q < 4) : CtI l yX3_nails cX3_nails 5 .int 6 0 0 P D (nW P) (nW P) False (cw P N F T K A w) (cw P N F T K A w) [.ref (rX P), .int p, .int q, .int 0] (N (12 * 0 + p.toNatClampNeg) (12 + q.toNatClampNeg)) := by
  refine mk_Met pl_X3 [(0, .ref (rX P)), (1, .int p), (2, .int q), (3, .int 0)] rfl (Nat.le_of_ble_eq_true rfl) ?_
  intro pg en sg mg ag bg mt cd C
  obtain ⟨hin, hj⟩ := ixC h1 h2 hc h12
  refine v_aload_n C 0 dX3_nails_0 rfl ?_
  refine v_iload_n C 1 dX3_nails_1 rfl ?_
  refine go_V (run_V C (c_X3_needNailer h1 h2) k_20 k_1 k_16 k_18 ks_0 dd_X3_needNailer ⟨Nat.le_of_ble_eq_true rfl, Nat.le_of_ble_eq_true rfl⟩ rcX rfl (Nat.le_of_ble_eq_true rfl) dX3_nails_2 ⟨Nat.le_of_ble_eq_true rfl, Nat.le_of_ble_eq_true rfl⟩) ?_
  refine v_iload_n C 2 dX3_nails_5 rfl ?_
  refine v_iconst (v := 4) C dX3_nails_6 rfl ?_
  refine go_V (run_S C (c_X3_needIndex h3 h4) k_23 k_1 k_21 k_22 dd_X3_needIndex ⟨Nat.le_of_ble_eq_true rfl, Nat.le_of_ble_eq_true rfl⟩ rfl (Nat.le_of_ble_eq_true rfl) dX3_nails_7 ⟨Nat.le_of_ble_eq_true rfl, Nat.le_of_ble_eq_true rfl⟩) ?_
  refine v_iload_n C 3 dX3_nails_10 rfl ?_
  refine v_iconst (v := 2) C dX3_nails_11 rfl ?_
  refine go_V (run_S C (c_X3_needIndex (by decide) (by decide)) k_23 k_1 k_21 k_22 dd_X3_needIndex ⟨Nat.le_of_ble_eq_true rfl, Nat.le_of_ble_eq_true rfl⟩ rfl (Nat.le_of_ble_eq_true rfl) dX3_nails_12 ⟨Nat.le_of_ble_eq_true rfl, Nat.le_of_ble_eq_true rfl⟩) ?_
  refine v_aload_n C 0 dX3_nails_15 rfl ?_
  refine v_gX C 0 (by decide) k_426 rfl dX3_nails_16 ?_
  refine v_gTuN C (by decide) 2 (by decide) (List.mem_of_getElem? (i := 20) rfl) rfl dX3_nails_19 ?_
  refine v_iload_n C 1 dX3_nails_22 rfl ?_
  refine v_aaNk C p.toNatClampNeg (by decide) rfl hin dX3_nails_23 ?_
  refine v_astore (lv' := [(4, .ref (rN P (12 * 0 + p.toNatClampNeg))), (0, .ref (rX P)), (1, .int p), (2, .int q), (3, .int 0)]) C dX3_nails_24 (by decide) rfl ?_
  refine v_iload_n C 4 dX3_nails_26 rfl ?_
  refine v_if_ne (tgt := 40) C dX3_nails_27 (by decide) (fun h9 => absurd h9 (by decide)) (fun _ => ?_)
  refine v_aload C 0 dX3_nails_30 rfl ?_
  refine v_gNuN C (by omega) 12 (by decide) (List.mem_of_getElem? (i := 10) rfl) rfl dX3_nails_32 ?_
  refine v_iload_n C 3 dX3_nails_35 rfl ?_
  refine v_ldLu C (by omega) (ix4 h3 h4) rfl dX3_nails_36 ?_
  refine v_goto (tgt := 47) C dX3_nails_37 (by decide) ?_
  exact v_iret C dX3_nails_47 rfl rfl
set_option maxHeartbeats 4000000 in
set_option maxRecDepth 100000 in
theorem c_X3_nails_1 {l : Launch} {P : L5} {D : va_G} {N F T : Nat → Nat → Int32} {K : Nat → Int32} {A : Nat → Nat → Int32} {w : Int64} {c : Nat} (hc : T 0 1 = nI c) (h12 : c ≤ 12) {p : Int32} (h1 : ¬ p < 0) (h2 : p < T 0 1) {q : Int32} (h3 : ¬ q < 0) (h4 : q < 4) : CtI l yX3_nails cX3_nails 5 .int 6 0 0 P D (nW P) (nW P) False (cw P N F T K A w) (cw P N F T K A w) [.ref (rX P), .int p, .int q, .int 1] (N (12 * 0 + p.toNatClampNeg) (16 + q.toNatClampNeg)) := by
  refine mk_Met pl_X3 [(0, .ref (rX P)), (1, .int p), (2, .int q), (3, .int 1)] rfl (Nat.le_of_ble_eq_true rfl) ?_
  intro pg en sg mg ag bg mt cd C
  obtain ⟨hin, hj⟩ := ixC h1 h2 hc h12
  refine v_aload_n C 0 dX3_nails_0 rfl ?_
  refine v_iload_n C 1 dX3_nails_1 rfl ?_
  refine go_V (run_V C (c_X3_needNailer h1 h2) k_20 k_1 k_16 k_18 ks_0 dd_X3_needNailer ⟨Nat.le_of_ble_eq_true rfl, Nat.le_of_ble_eq_true rfl⟩ rcX rfl (Nat.le_of_ble_eq_true rfl) dX3_nails_2 ⟨Nat.le_of_ble_eq_true rfl, Nat.le_of_ble_eq_true rfl⟩) ?_
  refine v_iload_n C 2 dX3_nails_5 rfl ?_
  refine v_iconst (v := 4) C dX3_nails_6 rfl ?_
  refine go_V (run_S C (c_X3_needIndex h3 h4) k_23 k_1 k_21 k_22 dd_X3_needIndex ⟨Nat.le_of_ble_eq_true rfl, Nat.le_of_ble_eq_true rfl⟩ rfl (Nat.le_of_ble_eq_true rfl) dX3_nails_7 ⟨Nat.le_of_ble_eq_true rfl, Nat.le_of_ble_eq_true rfl⟩) ?_
  refine v_iload_n C 3 dX3_nails_10 rfl ?_
  refine v_iconst (v := 2) C dX3_nails_11 rfl ?_
  refine go_V (run_S C (c_X3_needIndex (by decide) (by decide)) k_23 k_1 k_21 k_22 dd_X3_needIndex ⟨Nat.le_of_ble_eq_true rfl, Nat.le_of_ble_eq_true rfl⟩ rfl (Nat.le_of_ble_eq_true rfl) dX3_nails_12 ⟨Nat.le_of_ble_eq_true rfl, Nat.le_of_ble_eq_true rfl⟩) ?_
  refine v_aload_n C 0 dX3_nails_15 rfl ?_
  refine v_gX C 0 (by decide) k_426 rfl dX3_nails_16 ?_
  refine v_gTuN C (by decide) 2 (by decide) (List.mem_of_getElem? (i := 20) rfl) rfl dX3_nails_19 ?_
  refine v_iload_n C 1 dX3_nails_22 rfl ?_
  refine v_aaNk C p.toNatClampNeg (by decide) rfl hin dX3_nails_23 ?_
  refine v_astore (lv' := [(4, .ref (rN P (12 * 0 + p.toNatClampNeg))), (0, .ref (rX P)), (1, .int p), (2, .int q), (3, .int 1)]) C dX3_nails_24 (by decide) rfl ?_
  refine v_iload_n C 4 dX3_nails_26 rfl ?_
  refine v_if_ne (tgt := 40) C dX3_nails_27 (by decide) (fun _ => ?_) (fun h9 => absurd h9 (by decide))
  refine v_aload C 0 dX3_nails_40 rfl ?_
  refine v_gNuN C (by omega) 13 (by decide) (List.mem_of_getElem? (i := 12) rfl) rfl dX3_nails_42 ?_
  refine v_iload_n C 3 dX3_nails_45 rfl ?_
  refine v_ldBu C (by omega) (ix4 h3 h4) rfl dX3_nails_46 ?_
  exact v_iret C dX3_nails_47 rfl rfl
set_option maxHeartbeats 4000000 in
set_option maxRecDepth 100000 in
theorem c_X3_keep {l : Launch} {P : L5} {D : va_G} {N F T : Nat → Nat → Int32} {K : Nat → Int32} {A : Nat → Nat → Int32} {w : Int64} {p : Int32} (h1 : ¬ p < 0) (h2 : p < 4) {q : Int32} (h3 : ¬ q < 0) (h4 : q ≤ 60) : CtI l yX3_keep cX3_keep 4 .int 6 0 0 P D (nW P) (nW P) False (cw P N F T K A w) (cw P N (va_up F (4 * 0 + p.toNatClampNeg) (upd (F (4 * 0 + p.toNatClampNeg)) 0 q)) T K A w) [.ref (rX P), .int p, .int q] (F (4 * 0 + p.toNatClampNeg) 0) := by
  refine mk_Met pl_X3 [(0, .ref (rX P)), (1, .int p), (2, .int q)] rfl (Nat.le_of_ble_eq_true rfl) ?_
  intro pg en sg mg ag bg mt cd C
  have hin := ix4 h1 h2
  have h9 := pk_lt4 hin
  refine v_iload_n C 1 dX3_keep_0 rfl ?_
  refine v_iconst (v := 4) C dX3_keep_1 rfl ?_
  refine go_V (run_S C (c_X3_needIndex h1 h2) k_23 k_1 k_21 k_22 dd_X3_needIndex ⟨Nat.le_of_ble_eq_true rfl, Nat.le_of_ble_eq_true rfl⟩ rfl (Nat.le_of_ble_eq_true rfl) dX3_keep_2 ⟨Nat.le_of_ble_eq_true rfl, Nat.le_of_ble_eq_true rfl⟩) ?_
  refine v_iload_n C 2 dX3_keep_5 rfl ?_
  refine v_iconst (v := 0) C dX3_keep_6 rfl ?_
  refine v_bipush (v := 60) C dX3_keep_7 rfl ?_
  refine go_V (run_S C (c_X3_needWithin h3 h4) k_96 k_1 k_94 k_95 dd_X3_needWithin ⟨Nat.le_of_ble_eq_true rfl, Nat.le_of_ble_eq_true rfl⟩ rfl (Nat.le_of_ble_eq_true rfl) dX3_keep_9 ⟨Nat.le_of_ble_eq_true rfl, Nat.le_of_ble_eq_true rfl⟩) ?_
  refine v_aload_n C 0 dX3_keep_12 rfl ?_
  refine v_gX C 0 (by decide) k_426 rfl dX3_keep_13 ?_
  refine v_gTuN C (by decide) 3 (by decide) (List.mem_of_getElem? (i := 21) rfl) rfl dX3_keep_16 ?_
  refine v_iload_n C 1 dX3_keep_19 rfl ?_
  refine v_aaFk C p.toNatClampNeg (by decide) rfl hin dX3_keep_20 ?_
  refine v_gFuN C (by omega) 0 (by decide) (List.mem_of_getElem? (i := 13) rfl) rfl dX3_keep_21 ?_
  refine v_top (fun x_1 ex_1 => ?_)
  refine v_istore_n (lv' := [(3, .int x_1), (0, .ref (rX P)), (1, .int p), (2, .int q)]) C dX3_keep_24 rfl (by decide) rfl ?_
  refine v_aload_n C 1 dX3_keep_25 rfl ?_
  refine v_gX C 0 (by decide) k_426 rfl dX3_keep_26 ?_
  refine v_gTuN C (by decide) 3 (by decide) (List.mem_of_getElem? (i := 21) rfl) rfl dX3_keep_29 ?_
  refine v_iload_n C 2 dX3_keep_32 rfl ?_
  refine v_aaFk C p.toNatClampNeg (by decide) rfl hin dX3_keep_33 ?_
  refine v_eq (f' := (cw P N (va_up F (4 * 0 + p.toNatClampNeg) (F (4 * 0 + p.toNatClampNeg))) T K A w)) (by rw [va_up_eta]) ?_
  refine v_iload_n C 3 dX3_keep_34 rfl ?_
  refine v_pFN C (by omega) 0 (by decide) (List.mem_of_getElem? (i := 13) rfl) dX3_keep_35 ?_
  refine v_iload_n C 0 dX3_keep_38 rfl ?_
  exact v_iret C dX3_keep_39 rfl ex_1
set_option maxHeartbeats 4000000 in
set_option maxRecDepth 100000 in
theorem c_X3_fogger_0 {l : Launch} {P : L5} {D : va_G} {N F T : Nat → Nat → Int32} {K : Nat → Int32} {A : Nat → Nat → Int32} {w : Int64} {c : Nat} (hc : T 0 1 = nI c) (h12 : c ≤ 12) {p : Int32} (h1 : ¬ p < 0) (h2 : p < 4) : CtI l yX3_fogger cX3_fogger 3 .int 6 0 0 P D (nW P) (nW P) False (cw P N F T K A w) (cw P N F T K A w) [.ref (rX P), .int p, .int 0] (fogN N F 0 c p 0) := by
  refine mk_Met pl_X3 [(0, .ref (rX P)), (1, .int p), (2, .int 0)] rfl (Nat.le_of_ble_eq_true rfl) ?_
  intro pg en sg mg ag bg mt cd C
  have hin := ix4 h1 h2
  have h9 := pk_lt4 hin
  refine v_iload_n C 1 dX3_fogger_0 rfl ?_
  refine v_iconst (v := 4) C dX3_fogger_1 rfl ?_
  refine go_V (run_S C (c_X3_needIndex h1 h2) k_23 k_1 k_21 k_22 dd_X3_needIndex ⟨Nat.le_of_ble_eq_true rfl, Nat.le_of_ble_eq_true rfl⟩ rfl (Nat.le_of_ble_eq_true rfl) dX3_fogger_2 ⟨Nat.le_of_ble_eq_true rfl, Nat.le_of_ble_eq_true rfl⟩) ?_
  refine v_iload_n C 2 dX3_fogger_5 rfl ?_
  refine v_bipush (v := 6) C dX3_fogger_6 rfl ?_
  refine go_V (run_S C (c_X3_needIndex (by decide) (by decide)) k_23 k_1 k_21 k_22 dd_X3_needIndex ⟨Nat.le_of_ble_eq_true rfl, Nat.le_of_ble_eq_true rfl⟩ rfl (Nat.le_of_ble_eq_true rfl) dX3_fogger_8 ⟨Nat.le_of_ble_eq_true rfl, Nat.le_of_ble_eq_true rfl⟩) ?_
  refine v_aload_n C 0 dX3_fogger_11 rfl ?_
  refine v_gX C 0 (by decide) k_426 rfl dX3_fogger_12 ?_
  refine v_iload_n C 1 dX3_fogger_15 rfl ?_
  refine v_iload_n C 2 dX3_fogger_16 rfl ?_
  refine go_I (run_VN C (c_X2_foggerNumber_0 (by decide) hc h12 hin) k_159 k_2 (List.mem_of_getElem? (i := 7) rfl) k_157 ks_3 dd_X2_foggerNumber ⟨Nat.le_of_ble_eq_true rfl, Nat.le_of_ble_eq_true rfl⟩ (rcT (by decide)) rfl (Nat.le_of_ble_eq_true rfl) dX3_fogger_17 ⟨Nat.le_of_ble_eq_true rfl, Nat.le_of_ble_eq_true rfl⟩) ?_
  exact v_iret C dX3_fogger_20 rfl rfl
set_option maxHeartbeats 4000000 in
set_option maxRecDepth 100000 in
theorem c_X3_fogger_1 {l : Launch} {P : L5} {D : va_G} {N F T : Nat → Nat → Int32} {K : Nat → Int32} {A : Nat → Nat → Int32} {w : Int64} {c : Nat} (hc : T 0 1 = nI c) (h12 : c ≤ 12) {p : Int32} (h1 : ¬ p < 0) (h2 : p < 4) : CtI l yX3_fogger cX3_fogger 3 .int 6 0 0 P D (nW P) (nW P) False (cw P N F T K A w) (cw P N F T K A w) [.ref (rX P), .int p, .int 1] (fogN N F 0 c p 1) := by
  refine mk_Met pl_X3 [(0, .ref (rX P)), (1, .int p), (2, .int 1)] rfl (Nat.le_of_ble_eq_true rfl) ?_
  intro pg en sg mg ag bg mt cd C
  have hin := ix4 h1 h2
  have h9 := pk_lt4 hin
  refine v_iload_n C 1 dX3_fogger_0 rfl ?_
  refine v_iconst (v := 4) C dX3_fogger_1 rfl ?_
  refine go_V (run_S C (c_X3_needIndex h1 h2) k_23 k_1 k_21 k_22 dd_X3_needIndex ⟨Nat.le_of_ble_eq_true rfl, Nat.le_of_ble_eq_true rfl⟩ rfl (Nat.le_of_ble_eq_true rfl) dX3_fogger_2 ⟨Nat.le_of_ble_eq_true rfl, Nat.le_of_ble_eq_true rfl⟩) ?_
  refine v_iload_n C 2 dX3_fogger_5 rfl ?_
  refine v_bipush (v := 6) C dX3_fogger_6 rfl ?_
  refine go_V (run_S C (c_X3_needIndex (by decide) (by decide)) k_23 k_1 k_21 k_22 dd_X3_needIndex ⟨Nat.le_of_ble_eq_true rfl, Nat.le_of_ble_eq_true rfl⟩ rfl (Nat.le_of_ble_eq_true rfl) dX3_fogger_8 ⟨Nat.le_of_ble_eq_true rfl, Nat.le_of_ble_eq_true rfl⟩) ?_
  refine v_aload_n C 0 dX3_fogger_11 rfl ?_
  refine v_gX C 0 (by decide) k_426 rfl dX3_fogger_12 ?_
  refine v_iload_n C 1 dX3_fogger_15 rfl ?_
  refine v_iload_n C 2 dX3_fogger_16 rfl ?_
  refine go_I (run_VN C (c_X2_foggerNumber_1 (by decide) hc h12 hin) k_159 k_2 (List.mem_of_getElem? (i := 7) rfl) k_157 ks_3 dd_X2_foggerNumber ⟨Nat.le_of_ble_eq_true rfl, Nat.le_of_ble_eq_true rfl⟩ (rcT (by decide)) rfl (Nat.le_of_ble_eq_true rfl) dX3_fogger_17 ⟨Nat.le_of_ble_eq_true rfl, Nat.le_of_ble_eq_true rfl⟩) ?_
  exact v_iret C dX3_fogger_20 rfl rfl
set_option maxHeartbeats 4000000 in
set_option maxRecDepth 100000 in
theorem c_X3_fogger_2 {l : Launch} {P : L5} {D : va_G} {N F T : Nat → Nat → Int32} {K : Nat → Int32} {A : Nat → Nat → Int32} {w : Int64} {c : Nat} (hc : T 0 1 = nI c) (h12 : c ≤ 12) {p : Int32} (h1 : ¬ p < 0) (h2 : p < 4) : CtI l yX3_fogger cX3_fogger 3 .int 6 0 0 P D (nW P) (nW P) False (cw P N F T K A w) (cw P N F T K A w) [.ref (rX P), .int p, .int 2] (fogN N F 0 c p 2) := by
  refine mk_Met pl_X3 [(0, .ref (rX P)), (1, .int p), (2, .int 2)] rfl (Nat.le_of_ble_eq_true rfl) ?_
  intro pg en sg mg ag bg mt cd C
  have hin := ix4 h1 h2
  have h9 := pk_lt4 hin
  refine v_iload_n C 1 dX3_fogger_0 rfl ?_
  refine v_iconst (v := 4) C dX3_fogger_1 rfl ?_
  refine go_V (run_S C (c_X3_needIndex h1 h2) k_23 k_1 k_21 k_22 dd_X3_needIndex ⟨Nat.le_of_ble_eq_true rfl, Nat.le_of_ble_eq_true rfl⟩ rfl (Nat.le_of_ble_eq_true rfl) dX3_fogger_2 ⟨Nat.le_of_ble_eq_true rfl, Nat.le_of_ble_eq_true rfl⟩) ?_
  refine v_iload_n C 2 dX3_fogger_5 rfl ?_
  refine v_bipush (v := 6) C dX3_fogger_6 rfl ?_
  refine go_V (run_S C (c_X3_needIndex (by decide) (by decide)) k_23 k_1 k_21 k_22 dd_X3_needIndex ⟨Nat.le_of_ble_eq_true rfl, Nat.le_of_ble_eq_true rfl⟩ rfl (Nat.le_of_ble_eq_true rfl) dX3_fogger_8 ⟨Nat.le_of_ble_eq_true rfl, Nat.le_of_ble_eq_true rfl⟩) ?_
  refine v_aload_n C 0 dX3_fogger_11 rfl ?_
  refine v_gX C 0 (by decide) k_426 rfl dX3_fogger_12 ?_
  refine v_iload_n C 1 dX3_fogger_15 rfl ?_
  refine v_iload_n C 2 dX3_fogger_16 rfl ?_
  refine go_I (run_VN C (c_X2_foggerNumber_2 (by decide) hc h12 hin) k_159 k_2 (List.mem_of_getElem? (i := 7) rfl) k_157 ks_3 dd_X2_foggerNumber ⟨Nat.le_of_ble_eq_true rfl, Nat.le_of_ble_eq_true rfl⟩ (rcT (by decide)) rfl (Nat.le_of_ble_eq_true rfl) dX3_fogger_17 ⟨Nat.le_of_ble_eq_true rfl, Nat.le_of_ble_eq_true rfl⟩) ?_
  exact v_iret C dX3_fogger_20 rfl rfl
set_option maxHeartbeats 4000000 in
set_option maxRecDepth 100000 in
theorem c_X3_fogger_3 {l : Launch} {P : L5} {D : va_G} {N F T : Nat → Nat → Int32} {K : Nat → Int32} {A : Nat → Nat → Int32} {w : Int64} {c : Nat} (hc : T 0 1 = nI c) (h12 : c ≤ 12) {p : Int32} (h1 : ¬ p < 0) (h2 : p < 4) : CtI l yX3_fogger cX3_fogger 3 .int 6 0 0 P D (nW P) (nW P) False (cw P N F T K A w) (cw P N F T K A w) [.ref (rX P), .int p, .int 3] (fogN N F 0 c p 3) := by
  refine mk_Met pl_X3 [(0, .ref (rX P)), (1, .int p), (2, .int 3)] rfl (Nat.le_of_ble_eq_true rfl) ?_
  intro pg en sg mg ag bg mt cd C
  have hin := ix4 h1 h2
  have h9 := pk_lt4 hin
  refine v_iload_n C 1 dX3_fogger_0 rfl ?_
  refine v_iconst (v := 4) C dX3_fogger_1 rfl ?_
  refine go_V (run_S C (c_X3_needIndex h1 h2) k_23 k_1 k_21 k_22 dd_X3_needIndex ⟨Nat.le_of_ble_eq_true rfl, Nat.le_of_ble_eq_true rfl⟩ rfl (Nat.le_of_ble_eq_true rfl) dX3_fogger_2 ⟨Nat.le_of_ble_eq_true rfl, Nat.le_of_ble_eq_true rfl⟩) ?_
  refine v_iload_n C 2 dX3_fogger_5 rfl ?_
  refine v_bipush (v := 6) C dX3_fogger_6 rfl ?_
  refine go_V (run_S C (c_X3_needIndex (by decide) (by decide)) k_23 k_1 k_21 k_22 dd_X3_needIndex ⟨Nat.le_of_ble_eq_true rfl, Nat.le_of_ble_eq_true rfl⟩ rfl (Nat.le_of_ble_eq_true rfl) dX3_fogger_8 ⟨Nat.le_of_ble_eq_true rfl, Nat.le_of_ble_eq_true rfl⟩) ?_
  refine v_aload_n C 0 dX3_fogger_11 rfl ?_
  refine v_gX C 0 (by decide) k_426 rfl dX3_fogger_12 ?_
  refine v_iload_n C 1 dX3_fogger_15 rfl ?_
  refine v_iload_n C 2 dX3_fogger_16 rfl ?_
  refine go_I (run_VN C (c_X2_foggerNumber_3 (by decide) hc h12 hin) k_159 k_2 (List.mem_of_getElem? (i := 7) rfl) k_157 ks_3 dd_X2_foggerNumber ⟨Nat.le_of_ble_eq_true rfl, Nat.le_of_ble_eq_true rfl⟩ (rcT (by decide)) rfl (Nat.le_of_ble_eq_true rfl) dX3_fogger_17 ⟨Nat.le_of_ble_eq_true rfl, Nat.le_of_ble_eq_true rfl⟩) ?_
  exact v_iret C dX3_fogger_20 rfl rfl
set_option maxHeartbeats 4000000 in
set_option maxRecDepth 100000 in
theorem c_X3_fogger_4 {l : Launch} {P : L5} {D : va_G} {N F T : Nat → Nat → Int32} {K : Nat → Int32} {A : Nat → Nat → Int32} {w : Int64} {c : Nat} (hc : T 0 1 = nI c) (h12 : c ≤ 12) {p : Int32} (h1 : ¬ p < 0) (h2 : p < 4) : CtI l yX3_fogger cX3_fogger 3 .int 6 0 0 P D (nW P) (nW P) False (cw P N F T K A w) (cw P N F T K A w) [.ref (rX P), .int p, .int 4] (fogN N F 0 c p 4) := by
  refine mk_Met pl_X3 [(0, .ref (rX P)), (1, .int p), (2, .int 4)] rfl (Nat.le_of_ble_eq_true rfl) ?_
  intro pg en sg mg ag bg mt cd C
  have hin := ix4 h1 h2
  have h9 := pk_lt4 hin
  refine v_iload_n C 1 dX3_fogger_0 rfl ?_
  refine v_iconst (v := 4) C dX3_fogger_1 rfl ?_
  refine go_V (run_S C (c_X3_needIndex h1 h2) k_23 k_1 k_21 k_22 dd_X3_needIndex ⟨Nat.le_of_ble_eq_true rfl, Nat.le_of_ble_eq_true rfl⟩ rfl (Nat.le_of_ble_eq_true rfl) dX3_fogger_2 ⟨Nat.le_of_ble_eq_true rfl, Nat.le_of_ble_eq_true rfl⟩) ?_
  refine v_iload_n C 2 dX3_fogger_5 rfl ?_
  refine v_bipush (v := 6) C dX3_fogger_6 rfl ?_
  refine go_V (run_S C (c_X3_needIndex (by decide) (by decide)) k_23 k_1 k_21 k_22 dd_X3_needIndex ⟨Nat.le_of_ble_eq_true rfl, Nat.le_of_ble_eq_true rfl⟩ rfl (Nat.le_of_ble_eq_true rfl) dX3_fogger_8 ⟨Nat.le_of_ble_eq_true rfl, Nat.le_of_ble_eq_true rfl⟩) ?_
  refine v_aload_n C 0 dX3_fogger_11 rfl ?_
  refine v_gX C 0 (by decide) k_426 rfl dX3_fogger_12 ?_
  refine v_iload_n C 1 dX3_fogger_15 rfl ?_
  refine v_iload_n C 2 dX3_fogger_16 rfl ?_
  refine go_I (run_VN C (c_X2_foggerNumber_4 (by decide) hc h12 hin) k_159 k_2 (List.mem_of_getElem? (i := 7) rfl) k_157 ks_3 dd_X2_foggerNumber ⟨Nat.le_of_ble_eq_true rfl, Nat.le_of_ble_eq_true rfl⟩ (rcT (by decide)) rfl (Nat.le_of_ble_eq_true rfl) dX3_fogger_17 ⟨Nat.le_of_ble_eq_true rfl, Nat.le_of_ble_eq_true rfl⟩) ?_
  exact v_iret C dX3_fogger_20 rfl rfl
set_option maxHeartbeats 4000000 in
set_option maxRecDepth 100000 in
theorem c_X3_fogger_5 {l : Launch} {P : L5} {D : va_G} {N F T : Nat → Nat → Int32} {K : Nat → Int32} {A : Nat → Nat → Int32} {w : Int64} {c : Nat} (hc : T 0 1 = nI c) (h12 : c ≤ 12) {p : Int32} (h1 : ¬ p < 0) (h2 : p < 4) : CtI l yX3_fogger cX3_fogger 3 .int 6 0 0 P D (nW P) (nW P) False (cw P N F T K A w) (cw P N F T K A w) [.ref (rX P), .int p, .int 5] (fogN N F 0 c p 5) := by
  refine mk_Met pl_X3 [(0, .ref (rX P)), (1, .int p), (2, .int 5)] rfl (Nat.le_of_ble_eq_true rfl) ?_
  intro pg en sg mg ag bg mt cd C
  have hin := ix4 h1 h2
  have h9 := pk_lt4 hin
  refine v_iload_n C 1 dX3_fogger_0 rfl ?_
  refine v_iconst (v := 4) C dX3_fogger_1 rfl ?_
  refine go_V (run_S C (c_X3_needIndex h1 h2) k_23 k_1 k_21 k_22 dd_X3_needIndex ⟨Nat.le_of_ble_eq_true rfl, Nat.le_of_ble_eq_true rfl⟩ rfl (Nat.le_of_ble_eq_true rfl) dX3_fogger_2 ⟨Nat.le_of_ble_eq_true rfl, Nat.le_of_ble_eq_true rfl⟩) ?_
  refine v_iload_n C 2 dX3_fogger_5 rfl ?_
  refine v_bipush (v := 6) C dX3_fogger_6 rfl ?_
  refine go_V (run_S C (c_X3_needIndex (by decide) (by decide)) k_23 k_1 k_21 k_22 dd_X3_needIndex ⟨Nat.le_of_ble_eq_true rfl, Nat.le_of_ble_eq_true rfl⟩ rfl (Nat.le_of_ble_eq_true rfl) dX3_fogger_8 ⟨Nat.le_of_ble_eq_true rfl, Nat.le_of_ble_eq_true rfl⟩) ?_
  refine v_aload_n C 0 dX3_fogger_11 rfl ?_
  refine v_gX C 0 (by decide) k_426 rfl dX3_fogger_12 ?_
  refine v_iload_n C 1 dX3_fogger_15 rfl ?_
  refine v_iload_n C 2 dX3_fogger_16 rfl ?_
  refine go_I (run_VN C (c_X2_foggerNumber_5 (by decide) hc h12 hin) k_159 k_2 (List.mem_of_getElem? (i := 7) rfl) k_157 ks_3 dd_X2_foggerNumber ⟨Nat.le_of_ble_eq_true rfl, Nat.le_of_ble_eq_true rfl⟩ (rcT (by decide)) rfl (Nat.le_of_ble_eq_true rfl) dX3_fogger_17 ⟨Nat.le_of_ble_eq_true rfl, Nat.le_of_ble_eq_true rfl⟩) ?_
  exact v_iret C dX3_fogger_20 rfl rfl
set_option maxHeartbeats 4000000 in
set_option maxRecDepth 100000 in
theorem c_X3_count_0 {l : Launch} {P : L5} {D : va_G} {N F T : Nat → Nat → Int32} {K : Nat → Int32} {A : Nat → Nat → Int32} {w : Int64} {c : Nat} (hc : T 0 1 = nI c) (h12 : c ≤ 12) : CtI l yX3_count cX3_count 2 .int 6 0 0 P D (nW P) (nW P) False (cw P N F T K A w) (cw P N F T K A w) [.ref (rX P), .int 0] (totN N F T 0 c 0) := by
  refine mk_Met pl_X3 [(0, .ref (rX P)), (1, .int 0)] rfl (Nat.le_of_ble_eq_true rfl) ?_
  intro pg en sg mg ag bg mt cd C
  refine v_iload_n C 1 dX3_count_0 rfl ?_
  refine v_bipush (v := 11) C dX3_count_1 rfl ?_
  refine go_V (run_S C (c_X3_needIndex (by decide) (by decide)) k_23 k_1 k_21 k_22 dd_X3_needIndex ⟨Nat.le_of_ble_eq_true rfl, Nat.le_of_ble_eq_true rfl⟩ rfl (Nat.le_of_ble_eq_true rfl) dX3_count_3 ⟨Nat.le_of_ble_eq_true rfl, Nat.le_of_ble_eq_true rfl⟩) ?_
  refine v_aload_n C 0 dX3_count_6 rfl ?_
  refine v_gX C 0 (by decide) k_426 rfl dX3_count_7 ?_
  refine v_iload_n C 1 dX3_count_10 rfl ?_
  refine go_I (run_VN C (c_X2_total_0 (by decide) hc h12) k_171 k_2 (List.mem_of_getElem? (i := 4) rfl) k_170 ks_5 dd_X2_total ⟨Nat.le_of_ble_eq_true rfl, Nat.le_of_ble_eq_true rfl⟩ (rcT (by decide)) rfl (Nat.le_of_ble_eq_true rfl) dX3_count_11 ⟨Nat.le_of_ble_eq_true rfl, Nat.le_of_ble_eq_true rfl⟩) ?_
  exact v_iret C dX3_count_14 rfl rfl
set_option maxHeartbeats 4000000 in
set_option maxRecDepth 100000 in
theorem c_X3_count_1 {l : Launch} {P : L5} {D : va_G} {N F T : Nat → Nat → Int32} {K : Nat → Int32} {A : Nat → Nat → Int32} {w : Int64} {c : Nat} (hc : T 0 1 = nI c) (h12 : c ≤ 12) : CtI l yX3_count cX3_count 2 .int 6 0 0 P D (nW P) (nW P) False (cw P N F T K A w) (cw P N F T K A w) [.ref (rX P), .int 1] (totN N F T 0 c 1) := by
  refine mk_Met pl_X3 [(0, .ref (rX P)), (1, .int 1)] rfl (Nat.le_of_ble_eq_true rfl) ?_
  intro pg en sg mg ag bg mt cd C
  refine v_iload_n C 1 dX3_count_0 rfl ?_
  refine v_bipush (v := 11) C dX3_count_1 rfl ?_
  refine go_V (run_S C (c_X3_needIndex (by decide) (by decide)) k_23 k_1 k_21 k_22 dd_X3_needIndex ⟨Nat.le_of_ble_eq_true rfl, Nat.le_of_ble_eq_true rfl⟩ rfl (Nat.le_of_ble_eq_true rfl) dX3_count_3 ⟨Nat.le_of_ble_eq_true rfl, Nat.le_of_ble_eq_true rfl⟩) ?_
  refine v_aload_n C 0 dX3_count_6 rfl ?_
  refine v_gX C 0 (by decide) k_426 rfl dX3_count_7 ?_
  refine v_iload_n C 1 dX3_count_10 rfl ?_
  refine go_I (run_VN C (c_X2_total_1 (by decide) hc h12) k_171 k_2 (List.mem_of_getElem? (i := 4) rfl) k_170 ks_5 dd_X2_total ⟨Nat.le_of_ble_eq_true rfl, Nat.le_of_ble_eq_true rfl⟩ (rcT (by decide)) rfl (Nat.le_of_ble_eq_true rfl) dX3_count_11 ⟨Nat.le_of_ble_eq_true rfl, Nat.le_of_ble_eq_true rfl⟩) ?_
  exact v_iret C dX3_count_14 rfl rfl
set_option maxHeartbeats 4000000 in
set_option maxRecDepth 100000 in
theorem c_X3_count_2 {l : Launch} {P : L5} {D : va_G} {N F T : Nat → Nat → Int32} {K : Nat → Int32} {A : Nat → Nat → Int32} {w : Int64} {c : Nat} (hc : T 0 1 = nI c) (h12 : c ≤ 12) : CtI l yX3_count cX3_count 2 .int 6 0 0 P D (nW P) (nW P) False (cw P N F T K A w) (cw P N F T K A w) [.ref (rX P), .int 2] (totN N F T 0 c 2) := by
  refine mk_Met pl_X3 [(0, .ref (rX P)), (1, .int 2)] rfl (Nat.le_of_ble_eq_true rfl) ?_
  intro pg en sg mg ag bg mt cd C
  refine v_iload_n C 1 dX3_count_0 rfl ?_
  refine v_bipush (v := 11) C dX3_count_1 rfl ?_
  refine go_V (run_S C (c_X3_needIndex (by decide) (by decide)) k_23 k_1 k_21 k_22 dd_X3_needIndex ⟨Nat.le_of_ble_eq_true rfl, Nat.le_of_ble_eq_true rfl⟩ rfl (Nat.le_of_ble_eq_true rfl) dX3_count_3 ⟨Nat.le_of_ble_eq_true rfl, Nat.le_of_ble_eq_true rfl⟩) ?_
  refine v_aload_n C 0 dX3_count_6 rfl ?_
  refine v_gX C 0 (by decide) k_426 rfl dX3_count_7 ?_
  refine v_iload_n C 1 dX3_count_10 rfl ?_
  refine go_I (run_VN C (c_X2_total_2 (by decide) hc h12) k_171 k_2 (List.mem_of_getElem? (i := 4) rfl) k_170 ks_5 dd_X2_total ⟨Nat.le_of_ble_eq_true rfl, Nat.le_of_ble_eq_true rfl⟩ (rcT (by decide)) rfl (Nat.le_of_ble_eq_true rfl) dX3_count_11 ⟨Nat.le_of_ble_eq_true rfl, Nat.le_of_ble_eq_true rfl⟩) ?_
  exact v_iret C dX3_count_14 rfl rfl
set_option maxHeartbeats 4000000 in
set_option maxRecDepth 100000 in
theorem c_X3_count_3 {l : Launch} {P : L5} {D : va_G} {N F T : Nat → Nat → Int32} {K : Nat → Int32} {A : Nat → Nat → Int32} {w : Int64} {c : Nat} (hc : T 0 1 = nI c) (h12 : c ≤ 12) : CtI l yX3_count cX3_count 2 .int 6 0 0 P D (nW P) (nW P) False (cw P N F T K A w) (cw P N F T K A w) [.ref (rX P), .int 3] (totN N F T 0 c 3) := by
  refine mk_Met pl_X3 [(0, .ref (rX P)), (1, .int 3)] rfl (Nat.le_of_ble_eq_true rfl) ?_
  intro pg en sg mg ag bg mt cd C
  refine v_iload_n C 1 dX3_count_0 rfl ?_
  refine v_bipush (v := 11) C dX3_count_1 rfl ?_
  refine go_V (run_S C (c_X3_needIndex (by decide) (by decide)) k_23 k_1 k_21 k_22 dd_X3_needIndex ⟨Nat.le_of_ble_eq_true rfl, Nat.le_of_ble_eq_true rfl⟩ rfl (Nat.le_of_ble_eq_true rfl) dX3_count_3 ⟨Nat.le_of_ble_eq_true rfl, Nat.le_of_ble_eq_true rfl⟩) ?_
  refine v_aload_n C 0 dX3_count_6 rfl ?_
  refine v_gX C 0 (by decide) k_426 rfl dX3_count_7 ?_
  refine v_iload_n C 1 dX3_count_10 rfl ?_
  refine go_I (run_VN C (c_X2_total_3 (by decide) hc h12) k_171 k_2 (List.mem_of_getElem? (i := 4) rfl) k_170 ks_5 dd_X2_total ⟨Nat.le_of_ble_eq_true rfl, Nat.le_of_ble_eq_true rfl⟩ (rcT (by decide)) rfl (Nat.le_of_ble_eq_true rfl) dX3_count_11 ⟨Nat.le_of_ble_eq_true rfl, Nat.le_of_ble_eq_true rfl⟩) ?_
  exact v_iret C dX3_count_14 rfl rfl
set_option maxHeartbeats 4000000 in
set_option maxRecDepth 100000 in
theorem c_X3_count_4 {l : Launch} {P : L5} {D : va_G} {N F T : Nat → Nat → Int32} {K : Nat → Int32} {A : Nat → Nat → Int32} {w : Int64} {c : Nat} (hc : T 0 1 = nI c) (h12 : c ≤ 12) : CtI l yX3_count cX3_count 2 .int 6 0 0 P D (nW P) (nW P) False (cw P N F T K A w) (cw P N F T K A w) [.ref (rX P), .int 4] (totN N F T 0 c 4) := by
  refine mk_Met pl_X3 [(0, .ref (rX P)), (1, .int 4)] rfl (Nat.le_of_ble_eq_true rfl) ?_
  intro pg en sg mg ag bg mt cd C
  refine v_iload_n C 1 dX3_count_0 rfl ?_
  refine v_bipush (v := 11) C dX3_count_1 rfl ?_
  refine go_V (run_S C (c_X3_needIndex (by decide) (by decide)) k_23 k_1 k_21 k_22 dd_X3_needIndex ⟨Nat.le_of_ble_eq_true rfl, Nat.le_of_ble_eq_true rfl⟩ rfl (Nat.le_of_ble_eq_true rfl) dX3_count_3 ⟨Nat.le_of_ble_eq_true rfl, Nat.le_of_ble_eq_true rfl⟩) ?_
  refine v_aload_n C 0 dX3_count_6 rfl ?_
  refine v_gX C 0 (by decide) k_426 rfl dX3_count_7 ?_
  refine v_iload_n C 1 dX3_count_10 rfl ?_
  refine go_I (run_VN C (c_X2_total_4 (by decide) hc h12) k_171 k_2 (List.mem_of_getElem? (i := 4) rfl) k_170 ks_5 dd_X2_total ⟨Nat.le_of_ble_eq_true rfl, Nat.le_of_ble_eq_true rfl⟩ (rcT (by decide)) rfl (Nat.le_of_ble_eq_true rfl) dX3_count_11 ⟨Nat.le_of_ble_eq_true rfl, Nat.le_of_ble_eq_true rfl⟩) ?_
  exact v_iret C dX3_count_14 rfl rfl
set_option maxHeartbeats 4000000 in
set_option maxRecDepth 100000 in
theorem c_X3_count_5 {l : Launch} {P : L5} {D : va_G} {N F T : Nat → Nat → Int32} {K : Nat → Int32} {A : Nat → Nat → Int32} {w : Int64} {c : Nat} (hc : T 0 1 = nI c) (h12 : c ≤ 12) : CtI l yX3_count cX3_count 2 .int 6 0 0 P D (nW P) (nW P) False (cw P N F T K A w) (cw P N F T K A w) [.ref (rX P), .int 5] (totN N F T 0 c 5) := by
  refine mk_Met pl_X3 [(0, .ref (rX P)), (1, .int 5)] rfl (Nat.le_of_ble_eq_true rfl) ?_
  intro pg en sg mg ag bg mt cd C
  refine v_iload_n C 1 dX3_count_0 rfl ?_
  refine v_bipush (v := 11) C dX3_count_1 rfl ?_
  refine go_V (run_S C (c_X3_needIndex (by decide) (by decide)) k_23 k_1 k_21 k_22 dd_X3_needIndex ⟨Nat.le_of_ble_eq_true rfl, Nat.le_of_ble_eq_true rfl⟩ rfl (Nat.le_of_ble_eq_true rfl) dX3_count_3 ⟨Nat.le_of_ble_eq_true rfl, Nat.le_of_ble_eq_true rfl⟩) ?_
  refine v_aload_n C 0 dX3_count_6 rfl ?_
  refine v_gX C 0 (by decide) k_426 rfl dX3_count_7 ?_
  refine v_iload_n C 1 dX3_count_10 rfl ?_
  refine go_I (run_VN C (c_X2_total_5 (by decide) hc h12) k_171 k_2 (List.mem_of_getElem? (i := 4) rfl) k_170 ks_5 dd_X2_total ⟨Nat.le_of_ble_eq_true rfl, Nat.le_of_ble_eq_true rfl⟩ (rcT (by decide)) rfl (Nat.le_of_ble_eq_true rfl) dX3_count_11 ⟨Nat.le_of_ble_eq_true rfl, Nat.le_of_ble_eq_true rfl⟩) ?_
  exact v_iret C dX3_count_14 rfl rfl
set_option maxHeartbeats 4000000 in
set_option maxRecDepth 100000 in
theorem c_X3_count_6 {l : Launch} {P : L5} {D : va_G} {N F T : Nat → Nat → Int32} {K : Nat → Int32} {A : Nat → Nat → Int32} {w : Int64} {c : Nat} (hc : T 0 1 = nI c) (h12 : c ≤ 12) : CtI l yX3_count cX3_count 2 .int 6 0 0 P D (nW P) (nW P) False (cw P N F T K A w) (cw P N F T K A w) [.ref (rX P), .int 6] (totN N F T 0 c 6) := by
  refine mk_Met pl_X3 [(0, .ref (rX P)), (1, .int 6)] rfl (Nat.le_of_ble_eq_true rfl) ?_
  intro pg en sg mg ag bg mt cd C
  refine v_iload_n C 1 dX3_count_0 rfl ?_
  refine v_bipush (v := 11) C dX3_count_1 rfl ?_
  refine go_V (run_S C (c_X3_needIndex (by decide) (by decide)) k_23 k_1 k_21 k_22 dd_X3_needIndex ⟨Nat.le_of_ble_eq_true rfl, Nat.le_of_ble_eq_true rfl⟩ rfl (Nat.le_of_ble_eq_true rfl) dX3_count_3 ⟨Nat.le_of_ble_eq_true rfl, Nat.le_of_ble_eq_true rfl⟩) ?_
  refine v_aload_n C 0 dX3_count_6 rfl ?_
  refine v_gX C 0 (by decide) k_426 rfl dX3_count_7 ?_
  refine v_iload_n C 1 dX3_count_10 rfl ?_
  refine go_I (run_VN C (c_X2_total_6 (by decide) hc h12) k_171 k_2 (List.mem_of_getElem? (i := 4) rfl) k_170 ks_5 dd_X2_total ⟨Nat.le_of_ble_eq_true rfl, Nat.le_of_ble_eq_true rfl⟩ (rcT (by decide)) rfl (Nat.le_of_ble_eq_true rfl) dX3_count_11 ⟨Nat.le_of_ble_eq_true rfl, Nat.le_of_ble_eq_true rfl⟩) ?_
  exact v_iret C dX3_count_14 rfl rfl
set_option maxHeartbeats 4000000 in
set_option maxRecDepth 100000 in
theorem c_X3_count_7 {l : Launch} {P : L5} {D : va_G} {N F T : Nat → Nat → Int32} {K : Nat → Int32} {A : Nat → Nat → Int32} {w : Int64} {c : Nat} (hc : T 0 1 = nI c) (h12 : c ≤ 12) : CtI l yX3_count cX3_count 2 .int 6 0 0 P D (nW P) (nW P) False (cw P N F T K A w) (cw P N F T K A w) [.ref (rX P), .int 7] (totN N F T 0 c 7) := by
  refine mk_Met pl_X3 [(0, .ref (rX P)), (1, .int 7)] rfl (Nat.le_of_ble_eq_true rfl) ?_
  intro pg en sg mg ag bg mt cd C
  refine v_iload_n C 1 dX3_count_0 rfl ?_
  refine v_bipush (v := 11) C dX3_count_1 rfl ?_
  refine go_V (run_S C (c_X3_needIndex (by decide) (by decide)) k_23 k_1 k_21 k_22 dd_X3_needIndex ⟨Nat.le_of_ble_eq_true rfl, Nat.le_of_ble_eq_true rfl⟩ rfl (Nat.le_of_ble_eq_true rfl) dX3_count_3 ⟨Nat.le_of_ble_eq_true rfl, Nat.le_of_ble_eq_true rfl⟩) ?_
  refine v_aload_n C 0 dX3_count_6 rfl ?_
  refine v_gX C 0 (by decide) k_426 rfl dX3_count_7 ?_
  refine v_iload_n C 1 dX3_count_10 rfl ?_
  refine go_I (run_VN C (c_X2_total_7 (by decide) hc h12) k_171 k_2 (List.mem_of_getElem? (i := 4) rfl) k_170 ks_5 dd_X2_total ⟨Nat.le_of_ble_eq_true rfl, Nat.le_of_ble_eq_true rfl⟩ (rcT (by decide)) rfl (Nat.le_of_ble_eq_true rfl) dX3_count_11 ⟨Nat.le_of_ble_eq_true rfl, Nat.le_of_ble_eq_true rfl⟩) ?_
  exact v_iret C dX3_count_14 rfl rfl
set_option maxHeartbeats 4000000 in
set_option maxRecDepth 100000 in
theorem c_X3_count_8 {l : Launch} {P : L5} {D : va_G} {N F T : Nat → Nat → Int32} {K : Nat → Int32} {A : Nat → Nat → Int32} {w : Int64} {c : Nat} (hc : T 0 1 = nI c) (h12 : c ≤ 12) : CtI l yX3_count cX3_count 2 .int 6 0 0 P D (nW P) (nW P) False (cw P N F T K A w) (cw P N F T K A w) [.ref (rX P), .int 8] (totN N F T 0 c 8) := by
  refine mk_Met pl_X3 [(0, .ref (rX P)), (1, .int 8)] rfl (Nat.le_of_ble_eq_true rfl) ?_
  intro pg en sg mg ag bg mt cd C
  refine v_iload_n C 1 dX3_count_0 rfl ?_
  refine v_bipush (v := 11) C dX3_count_1 rfl ?_
  refine go_V (run_S C (c_X3_needIndex (by decide) (by decide)) k_23 k_1 k_21 k_22 dd_X3_needIndex ⟨Nat.le_of_ble_eq_true rfl, Nat.le_of_ble_eq_true rfl⟩ rfl (Nat.le_of_ble_eq_true rfl) dX3_count_3 ⟨Nat.le_of_ble_eq_true rfl, Nat.le_of_ble_eq_true rfl⟩) ?_
  refine v_aload_n C 0 dX3_count_6 rfl ?_
  refine v_gX C 0 (by decide) k_426 rfl dX3_count_7 ?_
  refine v_iload_n C 1 dX3_count_10 rfl ?_
  refine go_I (run_VN C (c_X2_total_8 (by decide) hc h12) k_171 k_2 (List.mem_of_getElem? (i := 4) rfl) k_170 ks_5 dd_X2_total ⟨Nat.le_of_ble_eq_true rfl, Nat.le_of_ble_eq_true rfl⟩ (rcT (by decide)) rfl (Nat.le_of_ble_eq_true rfl) dX3_count_11 ⟨Nat.le_of_ble_eq_true rfl, Nat.le_of_ble_eq_true rfl⟩) ?_
  exact v_iret C dX3_count_14 rfl rfl
set_option maxHeartbeats 4000000 in
set_option maxRecDepth 100000 in
theorem c_X3_count_9 {l : Launch} {P : L5} {D : va_G} {N F T : Nat → Nat → Int32} {K : Nat → Int32} {A : Nat → Nat → Int32} {w : Int64} {c : Nat} (hc : T 0 1 = nI c) (h12 : c ≤ 12) : CtI l yX3_count cX3_count 2 .int 6 0 0 P D (nW P) (nW P) False (cw P N F T K A w) (cw P N F T K A w) [.ref (rX P), .int 9] (totN N F T 0 c 9) := by
  refine mk_Met pl_X3 [(0, .ref (rX P)), (1, .int 9)] rfl (Nat.le_of_ble_eq_true rfl) ?_
  intro pg en sg mg ag bg mt cd C
  refine v_iload_n C 1 dX3_count_0 rfl ?_
  refine v_bipush (v := 11) C dX3_count_1 rfl ?_
  refine go_V (run_S C (c_X3_needIndex (by decide) (by decide)) k_23 k_1 k_21 k_22 dd_X3_needIndex ⟨Nat.le_of_ble_eq_true rfl, Nat.le_of_ble_eq_true rfl⟩ rfl (Nat.le_of_ble_eq_true rfl) dX3_count_3 ⟨Nat.le_of_ble_eq_true rfl, Nat.le_of_ble_eq_true rfl⟩) ?_
  refine v_aload_n C 0 dX3_count_6 rfl ?_
  refine v_gX C 0 (by decide) k_426 rfl dX3_count_7 ?_
  refine v_iload_n C 1 dX3_count_10 rfl ?_
  refine go_I (run_VN C (c_X2_total_9 (by decide) hc h12) k_171 k_2 (List.mem_of_getElem? (i := 4) rfl) k_170 ks_5 dd_X2_total ⟨Nat.le_of_ble_eq_true rfl, Nat.le_of_ble_eq_true rfl⟩ (rcT (by decide)) rfl (Nat.le_of_ble_eq_true rfl) dX3_count_11 ⟨Nat.le_of_ble_eq_true rfl, Nat.le_of_ble_eq_true rfl⟩) ?_
  exact v_iret C dX3_count_14 rfl rfl
set_option maxHeartbeats 4000000 in
set_option maxRecDepth 100000 in
theorem c_X3_count_10 {l : Launch} {P : L5} {D : va_G} {N F T : Nat → Nat → Int32} {K : Nat → Int32} {A : Nat → Nat → Int32} {w : Int64} {c : Nat} (hc : T 0 1 = nI c) (h12 : c ≤ 12) : CtI l yX3_count cX3_count 2 .int 6 0 0 P D (nW P) (nW P) False (cw P N F T K A w) (cw P N F T K A w) [.ref (rX P), .int 10] (totN N F T 0 c 10) := by
  refine mk_Met pl_X3 [(0, .ref (rX P)), (1, .int 10)] rfl (Nat.le_of_ble_eq_true rfl) ?_
  intro pg en sg mg ag bg mt cd C
  refine v_iload_n C 1 dX3_count_0 rfl ?_
  refine v_bipush (v := 11) C dX3_count_1 rfl ?_
  refine go_V (run_S C (c_X3_needIndex (by decide) (by decide)) k_23 k_1 k_21 k_22 dd_X3_needIndex ⟨Nat.le_of_ble_eq_true rfl, Nat.le_of_ble_eq_true rfl⟩ rfl (Nat.le_of_ble_eq_true rfl) dX3_count_3 ⟨Nat.le_of_ble_eq_true rfl, Nat.le_of_ble_eq_true rfl⟩) ?_
  refine v_aload_n C 0 dX3_count_6 rfl ?_
  refine v_gX C 0 (by decide) k_426 rfl dX3_count_7 ?_
  refine v_iload_n C 1 dX3_count_10 rfl ?_
  refine go_I (run_VN C (c_X2_total_10 (by decide) hc h12) k_171 k_2 (List.mem_of_getElem? (i := 4) rfl) k_170 ks_5 dd_X2_total ⟨Nat.le_of_ble_eq_true rfl, Nat.le_of_ble_eq_true rfl⟩ (rcT (by decide)) rfl (Nat.le_of_ble_eq_true rfl) dX3_count_11 ⟨Nat.le_of_ble_eq_true rfl, Nat.le_of_ble_eq_true rfl⟩) ?_
  exact v_iret C dX3_count_14 rfl rfl
set_option maxHeartbeats 4000000 in
set_option maxRecDepth 100000 in
theorem c_X3_pass {l : Launch} {P : L5} {D : va_G} {N F T : Nat → Nat → Int32} {K : Nat → Int32} {A : Nat → Nat → Int32} {w : Int64} {c : Nat} (hc : T 0 1 = nI c) (h12 : c ≤ 12) (hKF : KF N (12 * 0) c) {p : Int32} (h1 : ¬ p < 1) (h2 : p ≤ 240) : CtI l yX3_pass cX3_pass 2 .int 6 0 0 P D (nW P) (nW P) False (cw P N F T K A w) (cw P (goB (fuel p 0) p 0 c 0 N F T 0).1 (goB (fuel p 0) p 0 c 0 N F T 0).2.1 (goB (fuel p 0) p 0 c 0 N F T 0).2.2.1 K A w) [.ref (rX P), .int p] (goB (fuel p 0) p 0 c 0 N F T 0).2.2.2 := by
  refine mk_Met pl_X3 [(0, .ref (rX P)), (1, .int p)] rfl (Nat.le_of_ble_eq_true rfl) ?_
  intro pg en sg mg ag bg mt cd C
  refine v_iload_n C 1 dX3_pass_0 rfl ?_
  refine v_iconst (v := 1) C dX3_pass_1 rfl ?_
  refine v_sipush (v := 240) C dX3_pass_2 rfl ?_
  refine go_V (run_S C (c_X3_needWithin h1 h2) k_96 k_1 k_94 k_95 dd_X3_needWithin ⟨Nat.le_of_ble_eq_true rfl, Nat.le_of_ble_eq_true rfl⟩ rfl (Nat.le_of_ble_eq_true rfl) dX3_pass_5 ⟨Nat.le_of_ble_eq_true rfl, Nat.le_of_ble_eq_true rfl⟩) ?_
  refine v_aload_n C 0 dX3_pass_8 rfl ?_
  refine v_gX C 0 (by decide) k_426 rfl dX3_pass_9 ?_
  refine v_iload_n C 1 dX3_pass_12 rfl ?_
  refine go_I (run_VN C (c_X2_goBy (by decide) hc h12 hKF) k_194 k_2 (List.mem_of_getElem? (i := 10) rfl) k_193 ks_9 dd_X2_goBy ⟨Nat.le_of_ble_eq_true rfl, Nat.le_of_ble_eq_true rfl⟩ (rcT (by decide)) rfl (Nat.le_of_ble_eq_true rfl) dX3_pass_13 ⟨Nat.le_of_ble_eq_true rfl, Nat.le_of_ble_eq_true rfl⟩) ?_
  exact v_iret C dX3_pass_16 rfl rfl
def trialN (N : Nat → Nat → Int32) (j : Nat) : Nat → Nat → Int32 := va_up N 24 (N j)
def whl1 (v : Nat → Int32) : (Nat → Int32) × Int32 := wHl (fuel 1 0) 1 0 v 0
set_option maxHeartbeats 4000000 in
set_option maxRecDepth 100000 in
theorem c_X3_rate {l : Launch} {P : L5} {D : va_G} {N F T : Nat → Nat → Int32} {K : Nat → Int32} {A : Nat → Nat → Int32} {w : Int64} {c : Nat} (hc : T 0 1 = nI c) (h12 : c ≤ 12) {p : Int32} (h1 : ¬ p < 0) (h2 : p < T 0 1) (hk : vp_in (N (12 * 0 + p.toNatClampNeg) 1) 4) : CtI l yX3_rate cX3_rate 2 .int 6 0 0 P D (nW P) (nW P) False (cw P N F T K A w) (cw P (va_up (trialN N (12 * 0 + p.toNatClampNeg)) 24 (whl1 (trialN N (12 * 0 + p.toNatClampNeg) 24)).1) F T K A w) [.ref (rX P), .int p] (whl1 (trialN N (12 * 0 + p.toNatClampNeg) 24)).2 := by
  refine mk_Met pl_X3 [(0, .ref (rX P)), (1, .int p)] rfl (Nat.le_of_ble_eq_true rfl) ?_
  intro pg en sg mg ag bg mt cd C
  obtain ⟨hin, hj⟩ := ixC h1 h2 hc h12
  refine v_aload_n C 0 dX3_rate_0 rfl ?_
  refine v_iload_n C 1 dX3_rate_1 rfl ?_
  refine go_V (run_V C (c_X3_needNailer h1 h2) k_20 k_1 k_16 k_18 ks_0 dd_X3_needNailer ⟨Nat.le_of_ble_eq_true rfl, Nat.le_of_ble_eq_true rfl⟩ rcX rfl (Nat.le_of_ble_eq_true rfl) dX3_rate_2 ⟨Nat.le_of_ble_eq_true rfl, Nat.le_of_ble_eq_true rfl⟩) ?_
  refine v_aload_n C 0 dX3_rate_5 rfl ?_
  refine v_gX C 2 (by decide) k_428 rfl dX3_rate_6 ?_
  refine v_aload_n C 0 dX3_rate_9 rfl ?_
  refine v_gX C 0 (by decide) k_426 rfl dX3_rate_10 ?_
  refine v_gTuN C (by decide) 2 (by decide) (List.mem_of_getElem? (i := 20) rfl) rfl dX3_rate_13 ?_
  refine v_iload_n C 1 dX3_rate_16 rfl ?_
  refine v_aaNk C p.toNatClampNeg (by decide) rfl hin dX3_rate_17 ?_
  refine go_V (run_VN C (u_X1_copyFrom (by decide) (by omega) (by omega)) k_254 k_3 (List.mem_of_getElem? (i := 15) rfl) k_253 ks_20 dd_X1_copyFrom ⟨Nat.le_of_ble_eq_true rfl, Nat.le_of_ble_eq_true rfl⟩ (rcN (by decide)) rfl (Nat.le_of_ble_eq_true rfl) dX3_rate_18 ⟨Nat.le_of_ble_eq_true rfl, Nat.le_of_ble_eq_true rfl⟩) ?_
  refine v_aload_n C 0 dX3_rate_21 rfl ?_
  refine v_gX C 2 (by decide) k_428 rfl dX3_rate_22 ?_
  refine v_iconst (v := 1) C dX3_rate_25 rfl ?_
  refine go_I (run_VN C (u_X1_workHours (by decide) (show vp_in (va_up N 24 (N (12 * 0 + p.toNatClampNeg)) 24 1) 4 by rw [va_up_self]; exact hk)) k_258 k_3 (List.mem_of_getElem? (i := 16) rfl) k_257 ks_21 dd_X1_workHours ⟨Nat.le_of_ble_eq_true rfl, Nat.le_of_ble_eq_true rfl⟩ (rcN (by decide)) rfl (Nat.le_of_ble_eq_true rfl) dX3_rate_26 ⟨Nat.le_of_ble_eq_true rfl, Nat.le_of_ble_eq_true rfl⟩) ?_
  exact v_iret C dX3_rate_29 rfl rfl
set_option maxHeartbeats 4000000 in
set_option maxRecDepth 100000 in
theorem c_X3_foresee_3 {l : Launch} {P : L5} {D : va_G} {N F T : Nat → Nat → Int32} {K : Nat → Int32} {A : Nat → Nat → Int32} {w : Int64} {c : Nat} (hc : T 0 1 = nI c) (h12 : c ≤ 12) (hKF : KF (cpN (c + 1) c (12 * 1) (12 * 0) 0 N) (12 * 1) c) {p : Int32} (h1 : ¬ p < 1) (h2 : p ≤ 240) (hct : (goB (fuel p 0) p 0 c 1 (cpN (c + 1) c (12 * 1) (12 * 0) 0 N) (cp4 F (4 * 1) (4 * 0)) (va_up T 1 (T 0)) 0).2.2.1 1 1 = nI c) : CtI l yX3_foresee cX3_foresee 3 .int 6 0 0 P D (nW P) (nW P) False (cw P N F T K A w) (cw P (goB (fuel p 0) p 0 c 1 (cpN (c + 1) c (12 * 1) (12 * 0) 0 N) (cp4 F (4 * 1) (4 * 0)) (va_up T 1 (T 0)) 0).1 (goB (fuel p 0) p 0 c 1 (cpN (c + 1) c (12 * 1) (12 * 0) 0 N) (cp4 F (4 * 1) (4 * 0)) (va_up T 1 (T 0)) 0).2.1 (goB (fuel p 0) p 0 c 1 (cpN (c + 1) c (12 * 1) (12 * 0) 0 N) (cp4 F (4 * 1) (4 * 0)) (va_up T 1 (T 0)) 0).2.2.1 K A w) [.ref (rX P), .int p, .int 3] (totN (goB (fuel p 0) p 0 c 1 (cpN (c + 1) c (12 * 1) (12 * 0) 0 N) (cp4 F (4 * 1) (4 * 0)) (va_up T 1 (T 0)) 0).1 (goB (fuel p 0) p 0 c 1 (cpN (c + 1) c (12 * 1) (12 * 0) 0 N) (cp4 F (4 * 1) (4 * 0)) (va_up T 1 (T 0)) 0).2.1 (goB (fuel p 0) p 0 c 1 (cpN (c + 1) c (12 * 1) (12 * 0) 0 N) (cp4 F (4 * 1) (4 * 0)) (va_up T 1 (T 0)) 0).2.2.1 1 c 3) := by
  refine mk_Met pl_X3 [(0, .ref (rX P)), (1, .int p), (2, .int 3)] rfl (Nat.le_of_ble_eq_true rfl) ?_
  intro pg en sg mg ag bg mt cd C
  refine v_iload_n C 1 dX3_foresee_0 rfl ?_
  refine v_iconst (v := 1) C dX3_foresee_1 rfl ?_
  refine v_sipush (v := 240) C dX3_foresee_2 rfl ?_
  refine go_V (run_S C (c_X3_needWithin h1 h2) k_96 k_1 k_94 k_95 dd_X3_needWithin ⟨Nat.le_of_ble_eq_true rfl, Nat.le_of_ble_eq_true rfl⟩ rfl (Nat.le_of_ble_eq_true rfl) dX3_foresee_5 ⟨Nat.le_of_ble_eq_true rfl, Nat.le_of_ble_eq_true rfl⟩) ?_
  refine v_iload_n C 2 dX3_foresee_8 rfl ?_
  refine v_iconst (v := 3) C dX3_foresee_9 rfl ?_
  refine v_icmp_lt (tgt := 19) C dX3_foresee_10 (by decide) (fun h9 => absurd h9 (by decide)) (fun _ => ?_)
  refine v_iload_n C 2 dX3_foresee_13 rfl ?_
  refine v_bipush (v := 8) C dX3_foresee_14 rfl ?_
  refine v_icmp_le (tgt := 29) C dX3_foresee_16 (by decide) (fun _ => ?_) (fun h9 => absurd (by decide) h9)
  refine v_aload_n C 0 dX3_foresee_29 rfl ?_
  refine v_gX C 1 (by decide) k_427 rfl dX3_foresee_30 ?_
  refine v_aload_n C 0 dX3_foresee_33 rfl ?_
  refine v_gX C 0 (by decide) k_426 rfl dX3_foresee_34 ?_
  refine go_V (run_VN C (c_X2_copyFrom (by decide) (by decide) (by decide) hc h12) k_268 k_2 (List.mem_of_getElem? (i := 17) rfl) k_267 ks_22 dd_X2_copyFrom ⟨Nat.le_of_ble_eq_true rfl, Nat.le_of_ble_eq_true rfl⟩ (rcT (by decide)) rfl (Nat.le_of_ble_eq_true rfl) dX3_foresee_37 ⟨Nat.le_of_ble_eq_true rfl, Nat.le_of_ble_eq_true rfl⟩) ?_
  refine v_aload_n C 0 dX3_foresee_40 rfl ?_
  refine v_gX C 1 (by decide) k_427 rfl dX3_foresee_41 ?_
  refine v_iload_n C 1 dX3_foresee_44 rfl ?_
  refine go_I (run_VN C (c_X2_goBy (c := c) (by decide) (by rw [va_up_self]; exact hc) h12 hKF) k_194 k_2 (List.mem_of_getElem? (i := 10) rfl) k_193 ks_9 dd_X2_goBy ⟨Nat.le_of_ble_eq_true rfl, Nat.le_of_ble_eq_true rfl⟩ (rcT (by decide)) rfl (Nat.le_of_ble_eq_true rfl) dX3_foresee_45 ⟨Nat.le_of_ble_eq_true rfl, Nat.le_of_ble_eq_true rfl⟩) ?_
  refine v_pop C dX3_foresee_48 rfl ?_
  refine v_aload_n C 0 dX3_foresee_49 rfl ?_
  refine v_gX C 1 (by decide) k_427 rfl dX3_foresee_50 ?_
  refine v_iload_n C 2 dX3_foresee_53 rfl ?_
  refine go_I (run_VN C (c_X2_total_3 (by decide) hct h12) k_171 k_2 (List.mem_of_getElem? (i := 4) rfl) k_170 ks_5 dd_X2_total ⟨Nat.le_of_ble_eq_true rfl, Nat.le_of_ble_eq_true rfl⟩ (rcT (by decide)) rfl (Nat.le_of_ble_eq_true rfl) dX3_foresee_54 ⟨Nat.le_of_ble_eq_true rfl, Nat.le_of_ble_eq_true rfl⟩) ?_
  exact v_iret C dX3_foresee_57 rfl rfl
set_option maxHeartbeats 4000000 in
set_option maxRecDepth 100000 in
theorem c_X3_foresee_4 {l : Launch} {P : L5} {D : va_G} {N F T : Nat → Nat → Int32} {K : Nat → Int32} {A : Nat → Nat → Int32} {w : Int64} {c : Nat} (hc : T 0 1 = nI c) (h12 : c ≤ 12) (hKF : KF (cpN (c + 1) c (12 * 1) (12 * 0) 0 N) (12 * 1) c) {p : Int32} (h1 : ¬ p < 1) (h2 : p ≤ 240) (hct : (goB (fuel p 0) p 0 c 1 (cpN (c + 1) c (12 * 1) (12 * 0) 0 N) (cp4 F (4 * 1) (4 * 0)) (va_up T 1 (T 0)) 0).2.2.1 1 1 = nI c) : CtI l yX3_foresee cX3_foresee 3 .int 6 0 0 P D (nW P) (nW P) False (cw P N F T K A w) (cw P (goB (fuel p 0) p 0 c 1 (cpN (c + 1) c (12 * 1) (12 * 0) 0 N) (cp4 F (4 * 1) (4 * 0)) (va_up T 1 (T 0)) 0).1 (goB (fuel p 0) p 0 c 1 (cpN (c + 1) c (12 * 1) (12 * 0) 0 N) (cp4 F (4 * 1) (4 * 0)) (va_up T 1 (T 0)) 0).2.1 (goB (fuel p 0) p 0 c 1 (cpN (c + 1) c (12 * 1) (12 * 0) 0 N) (cp4 F (4 * 1) (4 * 0)) (va_up T 1 (T 0)) 0).2.2.1 K A w) [.ref (rX P), .int p, .int 4] (totN (goB (fuel p 0) p 0 c 1 (cpN (c + 1) c (12 * 1) (12 * 0) 0 N) (cp4 F (4 * 1) (4 * 0)) (va_up T 1 (T 0)) 0).1 (goB (fuel p 0) p 0 c 1 (cpN (c + 1) c (12 * 1) (12 * 0) 0 N) (cp4 F (4 * 1) (4 * 0)) (va_up T 1 (T 0)) 0).2.1 (goB (fuel p 0) p 0 c 1 (cpN (c + 1) c (12 * 1) (12 * 0) 0 N) (cp4 F (4 * 1) (4 * 0)) (va_up T 1 (T 0)) 0).2.2.1 1 c 4) := by
  refine mk_Met pl_X3 [(0, .ref (rX P)), (1, .int p), (2, .int 4)] rfl (Nat.le_of_ble_eq_true rfl) ?_
  intro pg en sg mg ag bg mt cd C
  refine v_iload_n C 1 dX3_foresee_0 rfl ?_
  refine v_iconst (v := 1) C dX3_foresee_1 rfl ?_
  refine v_sipush (v := 240) C dX3_foresee_2 rfl ?_
  refine go_V (run_S C (c_X3_needWithin h1 h2) k_96 k_1 k_94 k_95 dd_X3_needWithin ⟨Nat.le_of_ble_eq_true rfl, Nat.le_of_ble_eq_true rfl⟩ rfl (Nat.le_of_ble_eq_true rfl) dX3_foresee_5 ⟨Nat.le_of_ble_eq_true rfl, Nat.le_of_ble_eq_true rfl⟩) ?_
  refine v_iload_n C 2 dX3_foresee_8 rfl ?_
  refine v_iconst (v := 3) C dX3_foresee_9 rfl ?_
  refine v_icmp_lt (tgt := 19) C dX3_foresee_10 (by decide) (fun h9 => absurd h9 (by decide)) (fun _ => ?_)
  refine v_iload_n C 2 dX3_foresee_13 rfl ?_
  refine v_bipush (v := 8) C dX3_foresee_14 rfl ?_
  refine v_icmp_le (tgt := 29) C dX3_foresee_16 (by decide) (fun _ => ?_) (fun h9 => absurd (by decide) h9)
  refine v_aload_n C 0 dX3_foresee_29 rfl ?_
  refine v_gX C 1 (by decide) k_427 rfl dX3_foresee_30 ?_
  refine v_aload_n C 0 dX3_foresee_33 rfl ?_
  refine v_gX C 0 (by decide) k_426 rfl dX3_foresee_34 ?_
  refine go_V (run_VN C (c_X2_copyFrom (by decide) (by decide) (by decide) hc h12) k_268 k_2 (List.mem_of_getElem? (i := 17) rfl) k_267 ks_22 dd_X2_copyFrom ⟨Nat.le_of_ble_eq_true rfl, Nat.le_of_ble_eq_true rfl⟩ (rcT (by decide)) rfl (Nat.le_of_ble_eq_true rfl) dX3_foresee_37 ⟨Nat.le_of_ble_eq_true rfl, Nat.le_of_ble_eq_true rfl⟩) ?_
  refine v_aload_n C 0 dX3_foresee_40 rfl ?_
  refine v_gX C 1 (by decide) k_427 rfl dX3_foresee_41 ?_
  refine v_iload_n C 1 dX3_foresee_44 rfl ?_
  refine go_I (run_VN C (c_X2_goBy (c := c) (by decide) (by rw [va_up_self]; exact hc) h12 hKF) k_194 k_2 (List.mem_of_getElem? (i := 10) rfl) k_193 ks_9 dd_X2_goBy ⟨Nat.le_of_ble_eq_true rfl, Nat.le_of_ble_eq_true rfl⟩ (rcT (by decide)) rfl (Nat.le_of_ble_eq_true rfl) dX3_foresee_45 ⟨Nat.le_of_ble_eq_true rfl, Nat.le_of_ble_eq_true rfl⟩) ?_
  refine v_pop C dX3_foresee_48 rfl ?_
  refine v_aload_n C 0 dX3_foresee_49 rfl ?_
  refine v_gX C 1 (by decide) k_427 rfl dX3_foresee_50 ?_
  refine v_iload_n C 2 dX3_foresee_53 rfl ?_
  refine go_I (run_VN C (c_X2_total_4 (by decide) hct h12) k_171 k_2 (List.mem_of_getElem? (i := 4) rfl) k_170 ks_5 dd_X2_total ⟨Nat.le_of_ble_eq_true rfl, Nat.le_of_ble_eq_true rfl⟩ (rcT (by decide)) rfl (Nat.le_of_ble_eq_true rfl) dX3_foresee_54 ⟨Nat.le_of_ble_eq_true rfl, Nat.le_of_ble_eq_true rfl⟩) ?_
  exact v_iret C dX3_foresee_57 rfl rfl
set_option maxHeartbeats 4000000 in
set_option maxRecDepth 100000 in
theorem c_X3_foresee_5 {l : Launch} {P : L5} {D : va_G} {N F T : Nat → Nat → Int32} {K : Nat → Int32} {A : Nat → Nat → Int32} {w : Int64} {c : Nat} (hc : T 0 1 = nI c) (h12 : c ≤ 12) (hKF : KF (cpN (c + 1) c (12 * 1) (12 * 0) 0 N) (12 * 1) c) {p : Int32} (h1 : ¬ p < 1) (h2 : p ≤ 240) (hct : (goB (fuel p 0) p 0 c 1 (cpN (c + 1) c (12 * 1) (12 * 0) 0 N) (cp4 F (4 * 1) (4 * 0)) (va_up T 1 (T 0)) 0).2.2.1 1 1 = nI c) : CtI l yX3_foresee cX3_foresee 3 .int 6 0 0 P D (nW P) (nW P) False (cw P N F T K A w) (cw P (goB (fuel p 0) p 0 c 1 (cpN (c + 1) c (12 * 1) (12 * 0) 0 N) (cp4 F (4 * 1) (4 * 0)) (va_up T 1 (T 0)) 0).1 (goB (fuel p 0) p 0 c 1 (cpN (c + 1) c (12 * 1) (12 * 0) 0 N) (cp4 F (4 * 1) (4 * 0)) (va_up T 1 (T 0)) 0).2.1 (goB (fuel p 0) p 0 c 1 (cpN (c + 1) c (12 * 1) (12 * 0) 0 N) (cp4 F (4 * 1) (4 * 0)) (va_up T 1 (T 0)) 0).2.2.1 K A w) [.ref (rX P), .int p, .int 5] (totN (goB (fuel p 0) p 0 c 1 (cpN (c + 1) c (12 * 1) (12 * 0) 0 N) (cp4 F (4 * 1) (4 * 0)) (va_up T 1 (T 0)) 0).1 (goB (fuel p 0) p 0 c 1 (cpN (c + 1) c (12 * 1) (12 * 0) 0 N) (cp4 F (4 * 1) (4 * 0)) (va_up T 1 (T 0)) 0).2.1 (goB (fuel p 0) p 0 c 1 (cpN (c + 1) c (12 * 1) (12 * 0) 0 N) (cp4 F (4 * 1) (4 * 0)) (va_up T 1 (T 0)) 0).2.2.1 1 c 5) := by
  refine mk_Met pl_X3 [(0, .ref (rX P)), (1, .int p), (2, .int 5)] rfl (Nat.le_of_ble_eq_true rfl) ?_
  intro pg en sg mg ag bg mt cd C
  refine v_iload_n C 1 dX3_foresee_0 rfl ?_
  refine v_iconst (v := 1) C dX3_foresee_1 rfl ?_
  refine v_sipush (v := 240) C dX3_foresee_2 rfl ?_
  refine go_V (run_S C (c_X3_needWithin h1 h2) k_96 k_1 k_94 k_95 dd_X3_needWithin ⟨Nat.le_of_ble_eq_true rfl, Nat.le_of_ble_eq_true rfl⟩ rfl (Nat.le_of_ble_eq_true rfl) dX3_foresee_5 ⟨Nat.le_of_ble_eq_true rfl, Nat.le_of_ble_eq_true rfl⟩) ?_
  refine v_iload_n C 2 dX3_foresee_8 rfl ?_
  refine v_iconst (v := 3) C dX3_foresee_9 rfl ?_
  refine v_icmp_lt (tgt := 19) C dX3_foresee_10 (by decide) (fun h9 => absurd h9 (by decide)) (fun _ => ?_)
  refine v_iload_n C 2 dX3_foresee_13 rfl ?_
  refine v_bipush (v := 8) C dX3_foresee_14 rfl ?_
  refine v_icmp_le (tgt := 29) C dX3_foresee_16 (by decide) (fun _ => ?_) (fun h9 => absurd (by decide) h9)
  refine v_aload_n C 0 dX3_foresee_29 rfl ?_
  refine v_gX C 1 (by decide) k_427 rfl dX3_foresee_30 ?_
  refine v_aload_n C 0 dX3_foresee_33 rfl ?_
  refine v_gX C 0 (by decide) k_426 rfl dX3_foresee_34 ?_
  refine go_V (run_VN C (c_X2_copyFrom (by decide) (by decide) (by decide) hc h12) k_268 k_2 (List.mem_of_getElem? (i := 17) rfl) k_267 ks_22 dd_X2_copyFrom ⟨Nat.le_of_ble_eq_true rfl, Nat.le_of_ble_eq_true rfl⟩ (rcT (by decide)) rfl (Nat.le_of_ble_eq_true rfl) dX3_foresee_37 ⟨Nat.le_of_ble_eq_true rfl, Nat.le_of_ble_eq_true rfl⟩) ?_
  refine v_aload_n C 0 dX3_foresee_40 rfl ?_
  refine v_gX C 1 (by decide) k_427 rfl dX3_foresee_41 ?_
  refine v_iload_n C 1 dX3_foresee_44 rfl ?_
  refine go_I (run_VN C (c_X2_goBy (c := c) (by decide) (by rw [va_up_self]; exact hc) h12 hKF) k_194 k_2 (List.mem_of_getElem? (i := 10) rfl) k_193 ks_9 dd_X2_goBy ⟨Nat.le_of_ble_eq_true rfl, Nat.le_of_ble_eq_true rfl⟩ (rcT (by decide)) rfl (Nat.le_of_ble_eq_true rfl) dX3_foresee_45 ⟨Nat.le_of_ble_eq_true rfl, Nat.le_of_ble_eq_true rfl⟩) ?_
  refine v_pop C dX3_foresee_48 rfl ?_
  refine v_aload_n C 0 dX3_foresee_49 rfl ?_
  refine v_gX C 1 (by decide) k_427 rfl dX3_foresee_50 ?_
  refine v_iload_n C 2 dX3_foresee_53 rfl ?_
  refine go_I (run_VN C (c_X2_total_5 (by decide) hct h12) k_171 k_2 (List.mem_of_getElem? (i := 4) rfl) k_170 ks_5 dd_X2_total ⟨Nat.le_of_ble_eq_true rfl, Nat.le_of_ble_eq_true rfl⟩ (rcT (by decide)) rfl (Nat.le_of_ble_eq_true rfl) dX3_foresee_54 ⟨Nat.le_of_ble_eq_true rfl, Nat.le_of_ble_eq_true rfl⟩) ?_
  exact v_iret C dX3_foresee_57 rfl rfl
set_option maxHeartbeats 4000000 in
set_option maxRecDepth 100000 in
theorem c_X3_foresee_6 {l : Launch} {P : L5} {D : va_G} {N F T : Nat → Nat → Int32} {K : Nat → Int32} {A : Nat → Nat → Int32} {w : Int64} {c : Nat} (hc : T 0 1 = nI c) (h12 : c ≤ 12) (hKF : KF (cpN (c + 1) c (12 * 1) (12 * 0) 0 N) (12 * 1) c) {p : Int32} (h1 : ¬ p < 1) (h2 : p ≤ 240) (hct : (goB (fuel p 0) p 0 c 1 (cpN (c + 1) c (12 * 1) (12 * 0) 0 N) (cp4 F (4 * 1) (4 * 0)) (va_up T 1 (T 0)) 0).2.2.1 1 1 = nI c) : CtI l yX3_foresee cX3_foresee 3 .int 6 0 0 P D (nW P) (nW P) False (cw P N F T K A w) (cw P (goB (fuel p 0) p 0 c 1 (cpN (c + 1) c (12 * 1) (12 * 0) 0 N) (cp4 F (4 * 1) (4 * 0)) (va_up T 1 (T 0)) 0).1 (goB (fuel p 0) p 0 c 1 (cpN (c + 1) c (12 * 1) (12 * 0) 0 N) (cp4 F (4 * 1) (4 * 0)) (va_up T 1 (T 0)) 0).2.1 (goB (fuel p 0) p 0 c 1 (cpN (c + 1) c (12 * 1) (12 * 0) 0 N) (cp4 F (4 * 1) (4 * 0)) (va_up T 1 (T 0)) 0).2.2.1 K A w) [.ref (rX P), .int p, .int 6] (totN (goB (fuel p 0) p 0 c 1 (cpN (c + 1) c (12 * 1) (12 * 0) 0 N) (cp4 F (4 * 1) (4 * 0)) (va_up T 1 (T 0)) 0).1 (goB (fuel p 0) p 0 c 1 (cpN (c + 1) c (12 * 1) (12 * 0) 0 N) (cp4 F (4 * 1) (4 * 0)) (va_up T 1 (T 0)) 0).2.1 (goB (fuel p 0) p 0 c 1 (cpN (c + 1) c (12 * 1) (12 * 0) 0 N) (cp4 F (4 * 1) (4 * 0)) (va_up T 1 (T 0)) 0).2.2.1 1 c 6) := by
  refine mk_Met pl_X3 [(0, .ref (rX P)), (1, .int p), (2, .int 6)] rfl (Nat.le_of_ble_eq_true rfl) ?_
  intro pg en sg mg ag bg mt cd C
  refine v_iload_n C 1 dX3_foresee_0 rfl ?_
  refine v_iconst (v := 1) C dX3_foresee_1 rfl ?_
  refine v_sipush (v := 240) C dX3_foresee_2 rfl ?_
  refine go_V (run_S C (c_X3_needWithin h1 h2) k_96 k_1 k_94 k_95 dd_X3_needWithin ⟨Nat.le_of_ble_eq_true rfl, Nat.le_of_ble_eq_true rfl⟩ rfl (Nat.le_of_ble_eq_true rfl) dX3_foresee_5 ⟨Nat.le_of_ble_eq_true rfl, Nat.le_of_ble_eq_true rfl⟩) ?_
  refine v_iload_n C 2 dX3_foresee_8 rfl ?_
  refine v_iconst (v := 3) C dX3_foresee_9 rfl ?_
  refine v_icmp_lt (tgt := 19) C dX3_foresee_10 (by decide) (fun h9 => absurd h9 (by decide)) (fun _ => ?_)
  refine v_iload_n C 2 dX3_foresee_13 rfl ?_
  refine v_bipush (v := 8) C dX3_foresee_14 rfl ?_
  refine v_icmp_le (tgt := 29) C dX3_foresee_16 (by decide) (fun _ => ?_) (fun h9 => absurd (by decide) h9)
  refine v_aload_n C 0 dX3_foresee_29 rfl ?_
  refine v_gX C 1 (by decide) k_427 rfl dX3_foresee_30 ?_
  refine v_aload_n C 0 dX3_foresee_33 rfl ?_
  refine v_gX C 0 (by decide) k_426 rfl dX3_foresee_34 ?_
  refine go_V (run_VN C (c_X2_copyFrom (by decide) (by decide) (by decide) hc h12) k_268 k_2 (List.mem_of_getElem? (i := 17) rfl) k_267 ks_22 dd_X2_copyFrom ⟨Nat.le_of_ble_eq_true rfl, Nat.le_of_ble_eq_true rfl⟩ (rcT (by decide)) rfl (Nat.le_of_ble_eq_true rfl) dX3_foresee_37 ⟨Nat.le_of_ble_eq_true rfl, Nat.le_of_ble_eq_true rfl⟩) ?_
  refine v_aload_n C 0 dX3_foresee_40 rfl ?_
  refine v_gX C 1 (by decide) k_427 rfl dX3_foresee_41 ?_
  refine v_iload_n C 1 dX3_foresee_44 rfl ?_
  refine go_I (run_VN C (c_X2_goBy (c := c) (by decide) (by rw [va_up_self]; exact hc) h12 hKF) k_194 k_2 (List.mem_of_getElem? (i := 10) rfl) k_193 ks_9 dd_X2_goBy ⟨Nat.le_of_ble_eq_true rfl, Nat.le_of_ble_eq_true rfl⟩ (rcT (by decide)) rfl (Nat.le_of_ble_eq_true rfl) dX3_foresee_45 ⟨Nat.le_of_ble_eq_true rfl, Nat.le_of_ble_eq_true rfl⟩) ?_
  refine v_pop C dX3_foresee_48 rfl ?_
  refine v_aload_n C 0 dX3_foresee_49 rfl ?_
  refine v_gX C 1 (by decide) k_427 rfl dX3_foresee_50 ?_
  refine v_iload_n C 2 dX3_foresee_53 rfl ?_
  refine go_I (run_VN C (c_X2_total_6 (by decide) hct h12) k_171 k_2 (List.mem_of_getElem? (i := 4) rfl) k_170 ks_5 dd_X2_total ⟨Nat.le_of_ble_eq_true rfl, Nat.le_of_ble_eq_true rfl⟩ (rcT (by decide)) rfl (Nat.le_of_ble_eq_true rfl) dX3_foresee_54 ⟨Nat.le_of_ble_eq_true rfl, Nat.le_of_ble_eq_true rfl⟩) ?_
  exact v_iret C dX3_foresee_57 rfl rfl
set_option maxHeartbeats 4000000 in
set_option maxRecDepth 100000 in
theorem c_X3_foresee_7 {l : Launch} {P : L5} {D : va_G} {N F T : Nat → Nat → Int32} {K : Nat → Int32} {A : Nat → Nat → Int32} {w : Int64} {c : Nat} (hc : T 0 1 = nI c) (h12 : c ≤ 12) (hKF : KF (cpN (c + 1) c (12 * 1) (12 * 0) 0 N) (12 * 1) c) {p : Int32} (h1 : ¬ p < 1) (h2 : p ≤ 240) (hct : (goB (fuel p 0) p 0 c 1 (cpN (c + 1) c (12 * 1) (12 * 0) 0 N) (cp4 F (4 * 1) (4 * 0)) (va_up T 1 (T 0)) 0).2.2.1 1 1 = nI c) : CtI l yX3_foresee cX3_foresee 3 .int 6 0 0 P D (nW P) (nW P) False (cw P N F T K A w) (cw P (goB (fuel p 0) p 0 c 1 (cpN (c + 1) c (12 * 1) (12 * 0) 0 N) (cp4 F (4 * 1) (4 * 0)) (va_up T 1 (T 0)) 0).1 (goB (fuel p 0) p 0 c 1 (cpN (c + 1) c (12 * 1) (12 * 0) 0 N) (cp4 F (4 * 1) (4 * 0)) (va_up T 1 (T 0)) 0).2.1 (goB (fuel p 0) p 0 c 1 (cpN (c + 1) c (12 * 1) (12 * 0) 0 N) (cp4 F (4 * 1) (4 * 0)) (va_up T 1 (T 0)) 0).2.2.1 K A w) [.ref (rX P), .int p, .int 7] (totN (goB (fuel p 0) p 0 c 1 (cpN (c + 1) c (12 * 1) (12 * 0) 0 N) (cp4 F (4 * 1) (4 * 0)) (va_up T 1 (T 0)) 0).1 (goB (fuel p 0) p 0 c 1 (cpN (c + 1) c (12 * 1) (12 * 0) 0 N) (cp4 F (4 * 1) (4 * 0)) (va_up T 1 (T 0)) 0).2.1 (goB (fuel p 0) p 0 c 1 (cpN (c + 1) c (12 * 1) (12 * 0) 0 N) (cp4 F (4 * 1) (4 * 0)) (va_up T 1 (T 0)) 0).2.2.1 1 c 7) := by
  refine mk_Met pl_X3 [(0, .ref (rX P)), (1, .int p), (2, .int 7)] rfl (Nat.le_of_ble_eq_true rfl) ?_
  intro pg en sg mg ag bg mt cd C
  refine v_iload_n C 1 dX3_foresee_0 rfl ?_
  refine v_iconst (v := 1) C dX3_foresee_1 rfl ?_
  refine v_sipush (v := 240) C dX3_foresee_2 rfl ?_
  refine go_V (run_S C (c_X3_needWithin h1 h2) k_96 k_1 k_94 k_95 dd_X3_needWithin ⟨Nat.le_of_ble_eq_true rfl, Nat.le_of_ble_eq_true rfl⟩ rfl (Nat.le_of_ble_eq_true rfl) dX3_foresee_5 ⟨Nat.le_of_ble_eq_true rfl, Nat.le_of_ble_eq_true rfl⟩) ?_
  refine v_iload_n C 2 dX3_foresee_8 rfl ?_
  refine v_iconst (v := 3) C dX3_foresee_9 rfl ?_
  refine v_icmp_lt (tgt := 19) C dX3_foresee_10 (by decide) (fun h9 => absurd h9 (by decide)) (fun _ => ?_)
  refine v_iload_n C 2 dX3_foresee_13 rfl ?_
  refine v_bipush (v := 8) C dX3_foresee_14 rfl ?_
  refine v_icmp_le (tgt := 29) C dX3_foresee_16 (by decide) (fun _ => ?_) (fun h9 => absurd (by decide) h9)
  refine v_aload_n C 0 dX3_foresee_29 rfl ?_
  refine v_gX C 1 (by decide) k_427 rfl dX3_foresee_30 ?_
  refine v_aload_n C 0 dX3_foresee_33 rfl ?_
  refine v_gX C 0 (by decide) k_426 rfl dX3_foresee_34 ?_
  refine go_V (run_VN C (c_X2_copyFrom (by decide) (by decide) (by decide) hc h12) k_268 k_2 (List.mem_of_getElem? (i := 17) rfl) k_267 ks_22 dd_X2_copyFrom ⟨Nat.le_of_ble_eq_true rfl, Nat.le_of_ble_eq_true rfl⟩ (rcT (by decide)) rfl (Nat.le_of_ble_eq_true rfl) dX3_foresee_37 ⟨Nat.le_of_ble_eq_true rfl, Nat.le_of_ble_eq_true rfl⟩) ?_
  refine v_aload_n C 0 dX3_foresee_40 rfl ?_
  refine v_gX C 1 (by decide) k_427 rfl dX3_foresee_41 ?_
  refine v_iload_n C 1 dX3_foresee_44 rfl ?_
  refine go_I (run_VN C (c_X2_goBy (c := c) (by decide) (by rw [va_up_self]; exact hc) h12 hKF) k_194 k_2 (List.mem_of_getElem? (i := 10) rfl) k_193 ks_9 dd_X2_goBy ⟨Nat.le_of_ble_eq_true rfl, Nat.le_of_ble_eq_true rfl⟩ (rcT (by decide)) rfl (Nat.le_of_ble_eq_true rfl) dX3_foresee_45 ⟨Nat.le_of_ble_eq_true rfl, Nat.le_of_ble_eq_true rfl⟩) ?_
  refine v_pop C dX3_foresee_48 rfl ?_
  refine v_aload_n C 0 dX3_foresee_49 rfl ?_
  refine v_gX C 1 (by decide) k_427 rfl dX3_foresee_50 ?_
  refine v_iload_n C 2 dX3_foresee_53 rfl ?_
  refine go_I (run_VN C (c_X2_total_7 (by decide) hct h12) k_171 k_2 (List.mem_of_getElem? (i := 4) rfl) k_170 ks_5 dd_X2_total ⟨Nat.le_of_ble_eq_true rfl, Nat.le_of_ble_eq_true rfl⟩ (rcT (by decide)) rfl (Nat.le_of_ble_eq_true rfl) dX3_foresee_54 ⟨Nat.le_of_ble_eq_true rfl, Nat.le_of_ble_eq_true rfl⟩) ?_
  exact v_iret C dX3_foresee_57 rfl rfl
set_option maxHeartbeats 4000000 in
set_option maxRecDepth 100000 in
theorem c_X3_foresee_8 {l : Launch} {P : L5} {D : va_G} {N F T : Nat → Nat → Int32} {K : Nat → Int32} {A : Nat → Nat → Int32} {w : Int64} {c : Nat} (hc : T 0 1 = nI c) (h12 : c ≤ 12) (hKF : KF (cpN (c + 1) c (12 * 1) (12 * 0) 0 N) (12 * 1) c) {p : Int32} (h1 : ¬ p < 1) (h2 : p ≤ 240) (hct : (goB (fuel p 0) p 0 c 1 (cpN (c + 1) c (12 * 1) (12 * 0) 0 N) (cp4 F (4 * 1) (4 * 0)) (va_up T 1 (T 0)) 0).2.2.1 1 1 = nI c) : CtI l yX3_foresee cX3_foresee 3 .int 6 0 0 P D (nW P) (nW P) False (cw P N F T K A w) (cw P (goB (fuel p 0) p 0 c 1 (cpN (c + 1) c (12 * 1) (12 * 0) 0 N) (cp4 F (4 * 1) (4 * 0)) (va_up T 1 (T 0)) 0).1 (goB (fuel p 0) p 0 c 1 (cpN (c + 1) c (12 * 1) (12 * 0) 0 N) (cp4 F (4 * 1) (4 * 0)) (va_up T 1 (T 0)) 0).2.1 (goB (fuel p 0) p 0 c 1 (cpN (c + 1) c (12 * 1) (12 * 0) 0 N) (cp4 F (4 * 1) (4 * 0)) (va_up T 1 (T 0)) 0).2.2.1 K A w) [.ref (rX P), .int p, .int 8] (totN (goB (fuel p 0) p 0 c 1 (cpN (c + 1) c (12 * 1) (12 * 0) 0 N) (cp4 F (4 * 1) (4 * 0)) (va_up T 1 (T 0)) 0).1 (goB (fuel p 0) p 0 c 1 (cpN (c + 1) c (12 * 1) (12 * 0) 0 N) (cp4 F (4 * 1) (4 * 0)) (va_up T 1 (T 0)) 0).2.1 (goB (fuel p 0) p 0 c 1 (cpN (c + 1) c (12 * 1) (12 * 0) 0 N) (cp4 F (4 * 1) (4 * 0)) (va_up T 1 (T 0)) 0).2.2.1 1 c 8) := by
  refine mk_Met pl_X3 [(0, .ref (rX P)), (1, .int p), (2, .int 8)] rfl (Nat.le_of_ble_eq_true rfl) ?_
  intro pg en sg mg ag bg mt cd C
  refine v_iload_n C 1 dX3_foresee_0 rfl ?_
  refine v_iconst (v := 1) C dX3_foresee_1 rfl ?_
  refine v_sipush (v := 240) C dX3_foresee_2 rfl ?_
  refine go_V (run_S C (c_X3_needWithin h1 h2) k_96 k_1 k_94 k_95 dd_X3_needWithin ⟨Nat.le_of_ble_eq_true rfl, Nat.le_of_ble_eq_true rfl⟩ rfl (Nat.le_of_ble_eq_true rfl) dX3_foresee_5 ⟨Nat.le_of_ble_eq_true rfl, Nat.le_of_ble_eq_true rfl⟩) ?_
  refine v_iload_n C 2 dX3_foresee_8 rfl ?_
  refine v_iconst (v := 3) C dX3_foresee_9 rfl ?_
  refine v_icmp_lt (tgt := 19) C dX3_foresee_10 (by decide) (fun h9 => absurd h9 (by decide)) (fun _ => ?_)
  refine v_iload_n C 2 dX3_foresee_13 rfl ?_
  refine v_bipush (v := 8) C dX3_foresee_14 rfl ?_
  refine v_icmp_le (tgt := 29) C dX3_foresee_16 (by decide) (fun _ => ?_) (fun h9 => absurd (by decide) h9)
  refine v_aload_n C 0 dX3_foresee_29 rfl ?_
  refine v_gX C 1 (by decide) k_427 rfl dX3_foresee_30 ?_
  refine v_aload_n C 0 dX3_foresee_33 rfl ?_
  refine v_gX C 0 (by decide) k_426 rfl dX3_foresee_34 ?_
  refine go_V (run_VN C (c_X2_copyFrom (by decide) (by decide) (by decide) hc h12) k_268 k_2 (List.mem_of_getElem? (i := 17) rfl) k_267 ks_22 dd_X2_copyFrom ⟨Nat.le_of_ble_eq_true rfl, Nat.le_of_ble_eq_true rfl⟩ (rcT (by decide)) rfl (Nat.le_of_ble_eq_true rfl) dX3_foresee_37 ⟨Nat.le_of_ble_eq_true rfl, Nat.le_of_ble_eq_true rfl⟩) ?_
  refine v_aload_n C 0 dX3_foresee_40 rfl ?_
  refine v_gX C 1 (by decide) k_427 rfl dX3_foresee_41 ?_
  refine v_iload_n C 1 dX3_foresee_44 rfl ?_
  refine go_I (run_VN C (c_X2_goBy (c := c) (by decide) (by rw [va_up_self]; exact hc) h12 hKF) k_194 k_2 (List.mem_of_getElem? (i := 10) rfl) k_193 ks_9 dd_X2_goBy ⟨Nat.le_of_ble_eq_true rfl, Nat.le_of_ble_eq_true rfl⟩ (rcT (by decide)) rfl (Nat.le_of_ble_eq_true rfl) dX3_foresee_45 ⟨Nat.le_of_ble_eq_true rfl, Nat.le_of_ble_eq_true rfl⟩) ?_
  refine v_pop C dX3_foresee_48 rfl ?_
  refine v_aload_n C 0 dX3_foresee_49 rfl ?_
  refine v_gX C 1 (by decide) k_427 rfl dX3_foresee_50 ?_
  refine v_iload_n C 2 dX3_foresee_53 rfl ?_
  refine go_I (run_VN C (c_X2_total_8 (by decide) hct h12) k_171 k_2 (List.mem_of_getElem? (i := 4) rfl) k_170 ks_5 dd_X2_total ⟨Nat.le_of_ble_eq_true rfl, Nat.le_of_ble_eq_true rfl⟩ (rcT (by decide)) rfl (Nat.le_of_ble_eq_true rfl) dX3_foresee_54 ⟨Nat.le_of_ble_eq_true rfl, Nat.le_of_ble_eq_true rfl⟩) ?_
  exact v_iret C dX3_foresee_57 rfl rfl
set_option maxHeartbeats 4000000 in
set_option maxRecDepth 100000 in
theorem c_X3_nailer {l : Launch} {P : L5} {D : va_G} {N F T : Nat → Nat → Int32} {K : Nat → Int32} {A : Nat → Nat → Int32} {w : Int64} {c : Nat} (hc : T 0 1 = nI c) (h12 : c ≤ 12) {p q u : Int32} (h1 : ¬ q < 0) (h2 : q < 4) (h3 : ¬ u < 0) (h4 : u < 4) (h5 : ¬ p < 1) (h6 : p ≤ 9) (h7 : c < 12) : CtI l yX3_nailer cX3_nailer 5 .int 6 0 0 P D (nW P) (nW P) False (cw P N F T K A w) (cw P (va_up N (12 * 0 + c) (upd (upd (upd (N (12 * 0 + c)) 0 p) 1 q) 2 u)) F (va_up T 0 (upd (T 0) 1 (T 0 1 + 1))) K A w) [.ref (rX P), .int p, .int q, .int u] (T 0 1) := by
  refine mk_Met pl_X3 [(0, .ref (rX P)), (1, .int p), (2, .int q), (3, .int u)] rfl (Nat.le_of_ble_eq_true rfl) ?_
  intro pg en sg mg ag bg mt cd C
  refine v_iload_n C 2 dX3_nailer_0 rfl ?_
  refine v_iconst (v := 4) C dX3_nailer_1 rfl ?_
  refine go_V (run_S C (c_X3_needIndex h1 h2) k_23 k_1 k_21 k_22 dd_X3_needIndex ⟨Nat.le_of_ble_eq_true rfl, Nat.le_of_ble_eq_true rfl⟩ rfl (Nat.le_of_ble_eq_true rfl) dX3_nailer_2 ⟨Nat.le_of_ble_eq_true rfl, Nat.le_of_ble_eq_true rfl⟩) ?_
  refine v_iload_n C 3 dX3_nailer_5 rfl ?_
  refine v_iconst (v := 4) C dX3_nailer_6 rfl ?_
  refine go_V (run_S C (c_X3_needIndex h3 h4) k_23 k_1 k_21 k_22 dd_X3_needIndex ⟨Nat.le_of_ble_eq_true rfl, Nat.le_of_ble_eq_true rfl⟩ rfl (Nat.le_of_ble_eq_true rfl) dX3_nailer_7 ⟨Nat.le_of_ble_eq_true rfl, Nat.le_of_ble_eq_true rfl⟩) ?_
  refine v_iload_n C 1 dX3_nailer_10 rfl ?_
  refine v_iconst (v := 1) C dX3_nailer_11 rfl ?_
  refine v_bipush (v := 9) C dX3_nailer_12 rfl ?_
  refine go_V (run_S C (c_X3_needWithin h5 h6) k_96 k_1 k_94 k_95 dd_X3_needWithin ⟨Nat.le_of_ble_eq_true rfl, Nat.le_of_ble_eq_true rfl⟩ rfl (Nat.le_of_ble_eq_true rfl) dX3_nailer_14 ⟨Nat.le_of_ble_eq_true rfl, Nat.le_of_ble_eq_true rfl⟩) ?_
  refine v_aload_n C 0 dX3_nailer_17 rfl ?_
  refine v_gX C 0 (by decide) k_426 rfl dX3_nailer_18 ?_
  refine v_gTuN C (by decide) 1 (by decide) (List.mem_of_getElem? (i := 19) rfl) rfl dX3_nailer_21 ?_
  refine v_bipush (v := 12) C dX3_nailer_24 rfl ?_
  refine v_icmp_lt (tgt := 39) C dX3_nailer_26 (by decide) (fun _ => ?_) (fun h9 => absurd (by rw [hc]; exact (nI_ltI (b := 12) (by omega) (by omega)).mpr h7) h9)
  refine v_aload_n C 0 dX3_nailer_39 rfl ?_
  refine v_gX C 0 (by decide) k_426 rfl dX3_nailer_40 ?_
  refine v_gTuN C (by decide) 1 (by decide) (List.mem_of_getElem? (i := 19) rfl) rfl dX3_nailer_43 ?_
  refine v_top (fun x_1 ex_1 => ?_)
  refine v_istore (lv' := [(4, .int x_1), (0, .ref (rX P)), (1, .int p), (2, .int q), (3, .int u)]) C dX3_nailer_46 (by decide) rfl ?_
  refine v_aload_n C 1 dX3_nailer_48 rfl ?_
  refine v_gX C 0 (by decide) k_426 rfl dX3_nailer_49 ?_
  refine v_gTuN C (by decide) 2 (by decide) (List.mem_of_getElem? (i := 20) rfl) rfl dX3_nailer_52 ?_
  refine v_iload C 0 dX3_nailer_55 rfl ?_
  refine v_aaNk C c (by decide) (by rw [ex_1, hc]; exact nI_clamp (by omega)) (by rw [ex_1, hc]; exact vp_in_nI (by omega) (by omega)) dX3_nailer_57 ?_
  refine v_iload_n C 2 dX3_nailer_58 rfl ?_
  refine v_iload_n C 3 dX3_nailer_59 rfl ?_
  refine v_iload_n C 4 dX3_nailer_60 rfl ?_
  refine go_V (run_VN C (u_X1_begin (by omega)) k_444 k_3 (List.mem_of_getElem? (i := 8) rfl) k_443 ks_25 dd_X1_begin ⟨Nat.le_of_ble_eq_true rfl, Nat.le_of_ble_eq_true rfl⟩ (rcN (by omega)) rfl (Nat.le_of_ble_eq_true rfl) dX3_nailer_61 ⟨Nat.le_of_ble_eq_true rfl, Nat.le_of_ble_eq_true rfl⟩) ?_
  refine v_aload_n C 1 dX3_nailer_64 rfl ?_
  refine v_gX C 0 (by decide) k_426 rfl dX3_nailer_65 ?_
  refine v_iload C 0 dX3_nailer_68 rfl ?_
  refine v_iconst (v := 1) C dX3_nailer_70 rfl ?_
  refine v_iadd C dX3_nailer_71 ?_
  refine v_eq (f' := (cw P (va_up N (12 * 0 + c) (upd (upd (upd (N (12 * 0 + c)) 0 p) 1 q) 2 u)) F (va_up T 0 (T 0)) K A w)) (by rw [va_up_eta T]) ?_
  refine v_pTN C (by decide) 1 (by decide) (List.mem_of_getElem? (i := 19) rfl) dX3_nailer_72 ?_
  refine v_iload C 0 dX3_nailer_75 rfl ?_
  exact v_iret C dX3_nailer_77 (by rw [ex_1]) ex_1
end
section
/-! when, advise, richest, digest, mean: what they answer -/
theorem wHl_1 : ∀ (n : Nat) (h i : Int32) (v : Nat → Int32) (sm : Int32), (wHl n h i v sm).1 1 = v 1
  | 0, _, _, _, _ => rfl
  | n + 1, h, i, v, sm => by
    unfold wHl
    split
    · rfl
    · rw [wHl_1 n, workH_1]
def whenL : Nat → Int32 → Int32 → (Nat → Int32) → Int32 → (Nat → Int32) × Int32
  | 0, _, _, v, _ => (v, -1)
  | n + 1, q, h, v, hd => if 480 < h then (v, -1) else if hd + (whl1 v).2 < q then whenL n q (h + 1) (whl1 v).1 (hd + (whl1 v).2) else ((whl1 v).1, h)
theorem whl1_1 (v : Nat → Int32) : (whl1 v).1 1 = v 1 := wHl_1 _ _ _ _ _
theorem fuel481 {h : Int32} {n : Nat} (hf : fuel 481 h ≤ n + 1) (hh : ¬ 480 < h) : fuel 481 (h + 1) ≤ n := by
  refine fuel_step hf (fun z => hh ?_)
  rw [Int32.le_iff_toInt_le] at z
  rw [Int32.lt_iff_toInt_lt]
  have h1 : (481 : Int32).toInt = 481 := by decide
  have h2 : (480 : Int32).toInt = 480 := by decide
  omega
def advW (q : Int32) (i : Nat) (v : Nat → Int32) : (Nat → Int32) × Int32 := wHl (fuel q 0) q 0 (upd v 1 (nI i)) 0
def advL : Nat → Int32 → Nat → Nat → (Nat → Nat → Int32) → Int32 → Int32 → (Nat → Nat → Int32) × Int32
  | 0, _, _, _, N, best, _ => (N, best)
  | n + 1, q, j, i, N, best, bw => if 4 ≤ i then (N, best) else
    if (advW q i (N j)).2 * woT i ≤ bw then advL n q j (i + 1) (va_up N 24 (advW q i (N j)).1) best bw
    else advL n q j (i + 1) (va_up N 24 (advW q i (N j)).1) (nI i) ((advW q i (N j)).2 * woT i)
def wlth (v : Nat → Int32) : Int32 := v 7 - v 8
def ricL : Nat → Nat → Nat → Nat → (Nat → Nat → Int32) → Int32 → Int32 → Int32
  | 0, _, _, _, _, best, _ => best
  | n + 1, c, b, i, N, best, bw => if c ≤ i then best else
    if best < 0 then ricL n c b (i + 1) N (nI i) (wlth (N (b + i)))
    else if wlth (N (b + i)) ≤ bw then ricL n c b (i + 1) N best bw else ricL n c b (i + 1) N (nI i) (wlth (N (b + i)))
def digN : Nat → Nat → Nat → Nat → (Nat → Nat → Int32) → Int64 → Int64
  | 0, _, _, _, _, d => d
  | n + 1, c, b, i, N, d => if c ≤ i then d else digN n c b (i + 1) N (addD (N (b + i)) d)
def dgs : List Int32 → Int64 → Int64
  | [], d => d
  | x :: l, d => dgs l (dg d x)
def digC (N F T : Nat → Nat → Int32) (c : Nat) : Int64 :=
  dgs [fogN N F 0 c 0 0, fogN N F 0 c 0 1, fogN N F 0 c 0 2, fogN N F 0 c 0 3, fogN N F 0 c 0 4, fogN N F 0 c 0 5, fogN N F 0 c 1 0, fogN N F 0 c 1 1, fogN N F 0 c 1 2, fogN N F 0 c 1 3, fogN N F 0 c 1 4, fogN N F 0 c 1 5,
    fogN N F 0 c 2 0, fogN N F 0 c 2 1, fogN N F 0 c 2 2, fogN N F 0 c 2 3, fogN N F 0 c 2 4, fogN N F 0 c 2 5, fogN N F 0 c 3 0, fogN N F 0 c 3 1, fogN N F 0 c 3 2, fogN N F 0 c 3 3, fogN N F 0 c 3 4, fogN N F 0 c 3 5]
   (digN (c + 1) c (12 * 0) 0 N (dgs [totN N F T 0 c 0, totN N F T 0 c 1, totN N F T 0 c 2, totN N F T 0 c 3, totN N F T 0 c 4, totN N F T 0 c 5, totN N F T 0 c 6, totN N F T 0 c 7, totN N F T 0 c 8, totN N F T 0 c 9, totN N F T 0 c 10] 1259))
def heaS : Nat → Nat → Nat → Nat → (Nat → Nat → Int32) → Int32 → Int32
  | 0, _, _, _, _, sm => sm
  | n + 1, c, b, i, N, sm => if c ≤ i then sm else heaS n c b (i + 1) N (sm + N (b + i) 5)
def meanC (N : Nat → Nat → Int32) (c : Nat) (cnt : Int32) : UInt64 := if cnt = 0 then FP.dconst0 else FP.ddiv (FP.i2d (heaS (c + 1) c (12 * 0) 0 N 0)) (FP.i2d cnt)
theorem le4i {i : Nat} (h : i ≤ 4) : (4 : Int32) ≤ nI i ↔ 4 ≤ i := by
  rw [show (4 : Int32) = nI 4 from rfl]
  exact nI_leI (by omega) (by omega)
end
section
/-! NAILRODS: when, advise, richest, digest -/
set_option maxHeartbeats 4000000 in
set_option maxRecDepth 100000 in
theorem c_X3_advise {l : Launch} {P : L5} {D : va_G} {N F T : Nat → Nat → Int32} {K : Nat → Int32} {A : Nat → Nat → Int32} {w : Int64} {c : Nat} (hc : T 0 1 = nI c) (h12 : c ≤ 12) {p : Int32} (h1 : ¬ p < 0) (h2 : p < T 0 1) {q : Int32} (h3 : ¬ q < 1) (h4 : q ≤ 120) : CtI l yX3_advise cX3_advise 7 .int 6 0 0 P D (nW P) (nW P) False (cw P N F T K A w) (cw P (advL 5 q (12 * 0 + p.toNatClampNeg) 0 N 0 (-1)).1 F T K A w) [.ref (rX P), .int p, .int q] (advL 5 q (12 * 0 + p.toNatClampNeg) 0 N 0 (-1)).2 := by
  refine mk_Met pl_X3 [(0, .ref (rX P)), (1, .int p), (2, .int q)] rfl (Nat.le_of_ble_eq_true rfl) ?_
  intro pg en sg mg ag bg mt cd C
  obtain ⟨hin, hj⟩ := ixC h1 h2 hc h12
  refine v_aload_n C 0 dX3_advise_0 rfl ?_
  refine v_iload_n C 1 dX3_advise_1 rfl ?_
  refine go_V (run_V C (c_X3_needNailer h1 h2) k_20 k_1 k_16 k_18 ks_0 dd_X3_needNailer ⟨Nat.le_of_ble_eq_true rfl, Nat.le_of_ble_eq_true rfl⟩ rcX rfl (Nat.le_of_ble_eq_true rfl) dX3_advise_2 ⟨Nat.le_of_ble_eq_true rfl, Nat.le_of_ble_eq_true rfl⟩) ?_
  refine v_iload_n C 2 dX3_advise_5 rfl ?_
  refine v_iconst (v := 1) C dX3_advise_6 rfl ?_
  refine v_bipush (v := 120) C dX3_advise_7 rfl ?_
  refine go_V (run_S C (c_X3_needWithin h3 h4) k_96 k_1 k_94 k_95 dd_X3_needWithin ⟨Nat.le_of_ble_eq_true rfl, Nat.le_of_ble_eq_true rfl⟩ rfl (Nat.le_of_ble_eq_true rfl) dX3_advise_9 ⟨Nat.le_of_ble_eq_true rfl, Nat.le_of_ble_eq_true rfl⟩) ?_
  refine v_iconst (v := 0) C dX3_advise_12 rfl ?_
  refine v_istore_n (lv' := [(3, .int 0), (0, .ref (rX P)), (1, .int p), (2, .int q)]) C dX3_advise_13 rfl (by decide) rfl ?_
  refine v_iconst (v := (-1)) C dX3_advise_14 rfl ?_
  refine v_istore (lv' := [(4, .int (-1)), (3, .int 0), (0, .ref (rX P)), (1, .int p), (2, .int q)]) C dX3_advise_15 (by decide) rfl ?_
  refine v_iconst (v := 0) C dX3_advise_17 rfl ?_
  refine v_istore (lv' := [(5, .int 0), (4, .int (-1)), (3, .int 0), (0, .ref (rX P)), (1, .int p), (2, .int q)]) C dX3_advise_18 (by decide) rfl ?_
  have L_1 : ∀ (n : Nat) (i : Nat) (N9 : Nat → Nat → Int32) (best bw : Int32), i ≤ 4 → 4 < i + n → V pg l en (rmO 6 0 0) sg mg ag bg mt cd P D (MQ bg (QcI P D (nW P) False (cw P (advL 5 q (12 * 0 + p.toNatClampNeg) 0 N 0 (-1)).1 F T K A w) (advL 5 q (12 * 0 + p.toNatClampNeg) 0 N 0 (-1)).2) ag sg 0 0 (aO P)) 7 (nW P) False (cw P (advL n q (12 * 0 + p.toNatClampNeg) i N9 best bw).1 F T K A w) 0 0 88 [(3, .int ((advL n q (12 * 0 + p.toNatClampNeg) i N9 best bw).2))] [] → V pg l en (rmO 6 0 0) sg mg ag bg mt cd P D (MQ bg (QcI P D (nW P) False (cw P (advL 5 q (12 * 0 + p.toNatClampNeg) 0 N 0 (-1)).1 F T K A w) (advL 5 q (12 * 0 + p.toNatClampNeg) 0 N 0 (-1)).2) ag sg 0 0 (aO P)) 7 (nW P) False (cw P N9 F T K A w) 0 0 20 [(5, .int (nI i)), (4, .int bw), (3, .int best), (0, .ref (rX P)), (1, .int p), (2, .int q)] [] := by
    intro n
    induction n with
    | zero => intro i N9 best bw z1 z2; omega
    | succ n ih =>
      intro i N9 best bw z1 z2 hk9
      refine v_iload C 0 dX3_advise_20 rfl ?_
      refine v_iconst (v := 4) C dX3_advise_22 rfl ?_
      refine v_icmp_ge (tgt := 88) C dX3_advise_23 (by decide) (fun h23_1 => ?_) (fun h23_1 => ?_)
      · refine v_lv [2] rfl ?_
        have hic : 4 ≤ i := (le4i z1).mp h23_1
        have e9 : advL (n + 1) q (12 * 0 + p.toNatClampNeg) i N9 best bw = (N9, best) := by rw [advL, if_pos hic]
        rw [e9] at hk9
        exact hk9
      · have hic : i < 4 := Nat.not_le.mp (fun z => h23_1 ((le4i z1).mpr z))
        refine v_aload_n C 3 dX3_advise_26 rfl ?_
        refine v_gX C 2 (by decide) k_428 rfl dX3_advise_27 ?_
        refine v_aload_n C 3 dX3_advise_30 rfl ?_
        refine v_gX C 0 (by decide) k_426 rfl dX3_advise_31 ?_
        refine v_gTuN C (by decide) 2 (by decide) (List.mem_of_getElem? (i := 20) rfl) rfl dX3_advise_34 ?_
        refine v_iload_n C 4 dX3_advise_37 rfl ?_
        refine v_aaNk C p.toNatClampNeg (by decide) rfl hin dX3_advise_38 ?_
        refine go_V (run_VN C (u_X1_copyFrom (by decide) (by omega) (by omega)) k_254 k_3 (List.mem_of_getElem? (i := 15) rfl) k_253 ks_20 dd_X1_copyFrom ⟨Nat.le_of_ble_eq_true rfl, Nat.le_of_ble_eq_true rfl⟩ (rcN (by decide)) rfl (Nat.le_of_ble_eq_true rfl) dX3_advise_39 ⟨Nat.le_of_ble_eq_true rfl, Nat.le_of_ble_eq_true rfl⟩) ?_
        refine v_aload_n C 3 dX3_advise_42 rfl ?_
        refine v_gX C 2 (by decide) k_428 rfl dX3_advise_43 ?_
        refine v_iload C 0 dX3_advise_46 rfl ?_
        refine v_pNN C (by decide) 1 (by decide) (List.mem_of_getElem? (i := 0) rfl) dX3_advise_48 ?_
        refine v_aload_n C 3 dX3_advise_51 rfl ?_
        refine v_gX C 2 (by decide) k_428 rfl dX3_advise_52 ?_
        refine v_iload_n C 5 dX3_advise_55 rfl ?_
        refine go_I (run_VN C (c_X1_workHours (by decide) (show vp_in (nI i) 4 from vp_in_nI hic (by omega))) k_258 k_3 (List.mem_of_getElem? (i := 16) rfl) k_257 ks_21 dd_X1_workHours ⟨Nat.le_of_ble_eq_true rfl, Nat.le_of_ble_eq_true rfl⟩ (rcN (by decide)) rfl (Nat.le_of_ble_eq_true rfl) dX3_advise_56 ⟨Nat.le_of_ble_eq_true rfl, Nat.le_of_ble_eq_true rfl⟩) ?_
        refine v_gS C 1 rfl k_278 dX3_advise_59 ?_
        refine v_iload C 0 dX3_advise_62 rfl ?_
        refine v_ldS C 1 rfl (vp_in_nI hic (by omega)) dX3_advise_64 ?_
        refine v_imul C dX3_advise_65 ?_
        refine v_top (fun x_1 ex_1 => ?_)
        refine v_istore (lv' := [(6, .int x_1), (5, .int (nI i)), (4, .int bw), (3, .int best), (0, .ref (rX P)), (1, .int p), (2, .int q)]) C dX3_advise_66 (by decide) rfl ?_
        refine v_iload C 0 dX3_advise_68 rfl ?_
        refine v_iload C 2 dX3_advise_70 rfl ?_
        refine v_icmp_le (tgt := 82) C dX3_advise_72 (by decide) (fun h72_1 => ?_) (fun h72_1 => ?_)
        · refine v_iinc (b := (nI (i + 1))) (lv' := [(5, .int (nI (i + 1))), (6, .int x_1), (4, .int bw), (3, .int best), (0, .ref (rX P)), (1, .int p), (2, .int q)]) C 1 dX3_advise_82 rfl (nI_1 _) (by decide) rfl ?_
          refine v_goto (tgt := 20) C dX3_advise_85 (by decide) ?_
          refine v_lv [0, 2, 3, 4, 5, 6] rfl ?_
          replace ex_1 : x_1 = (advW q i (N9 (12 * 0 + p.toNatClampNeg))).2 * woT i := by
            rw [ex_1]; show _ * woT (nI i).toNatClampNeg = _; rw [nI_clamp (by omega)]; rfl
          have e9 : advL (n + 1) q (12 * 0 + p.toNatClampNeg) i N9 best bw = advL n q (12 * 0 + p.toNatClampNeg) (i + 1) (va_up N9 24 (advW q i (N9 (12 * 0 + p.toNatClampNeg))).1) best bw := by rw [advL, if_neg (by omega), if_pos (by exact (ex_1 ▸ h72_1))]
          rw [e9] at hk9
          exact ih _ _ _ _ (by omega) (by omega) hk9
        · refine v_iload C 1 dX3_advise_75 rfl ?_
          refine v_istore_n (lv' := [(3, .int (nI i)), (6, .int x_1), (5, .int (nI i)), (4, .int bw), (0, .ref (rX P)), (1, .int p), (2, .int q)]) C dX3_advise_77 rfl (by decide) rfl ?_
          refine v_iload C 1 dX3_advise_78 rfl ?_
          refine v_istore (lv' := [(4, .int x_1), (3, .int (nI i)), (6, .int x_1), (5, .int (nI i)), (0, .ref (rX P)), (1, .int p), (2, .int q)]) C dX3_advise_80 (by decide) rfl ?_
          refine v_iinc (b := (nI (i + 1))) (lv' := [(5, .int (nI (i + 1))), (4, .int x_1), (3, .int (nI i)), (6, .int x_1), (0, .ref (rX P)), (1, .int p), (2, .int q)]) C 3 dX3_advise_82 rfl (nI_1 _) (by decide) rfl ?_
          refine v_goto (tgt := 20) C dX3_advise_85 (by decide) ?_
          refine v_lv [0, 1, 2, 4, 5, 6] rfl ?_
          replace ex_1 : x_1 = (advW q i (N9 (12 * 0 + p.toNatClampNeg))).2 * woT i := by
            rw [ex_1]; show _ * woT (nI i).toNatClampNeg = _; rw [nI_clamp (by omega)]; rfl
          have e9 : advL (n + 1) q (12 * 0 + p.toNatClampNeg) i N9 best bw = advL n q (12 * 0 + p.toNatClampNeg) (i + 1) (va_up N9 24 (advW q i (N9 (12 * 0 + p.toNatClampNeg))).1) (nI i) ((advW q i (N9 (12 * 0 + p.toNatClampNeg))).2 * woT i) := by rw [advL, if_neg (by omega), if_neg (by exact (ex_1 ▸ h72_1))]
          rw [e9] at hk9
          subst ex_1
          exact ih _ _ _ _ (by omega) (by omega) hk9
  refine L_1 5 0 N 0 (-1) (by omega) (by omega) ?_
  refine v_iload_n C 0 dX3_advise_88 rfl ?_
  exact v_iret C dX3_advise_89 rfl rfl
set_option maxHeartbeats 4000000 in
set_option maxRecDepth 100000 in
theorem c_X3_richest {l : Launch} {P : L5} {D : va_G} {N F T : Nat → Nat → Int32} {K : Nat → Int32} {A : Nat → Nat → Int32} {w : Int64} {c : Nat} (hc : T 0 1 = nI c) (h12 : c ≤ 12) : CtI l yX3_richest cX3_richest 5 .int 6 0 0 P D (nW P) (nW P) False (cw P N F T K A w) (cw P N F T K A w) [.ref (rX P)] (ricL (c + 1) c (12 * 0) 0 N (-1) 0) := by
  refine mk_Met pl_X3 [(0, .ref (rX P))] rfl (Nat.le_of_ble_eq_true rfl) ?_
  intro pg en sg mg ag bg mt cd C
  refine v_iconst (v := (-1)) C dX3_richest_0 rfl ?_
  refine v_istore_n (lv' := [(1, .int (-1)), (0, .ref (rX P))]) C dX3_richest_1 rfl (by decide) rfl ?_
  refine v_iconst (v := 0) C dX3_richest_2 rfl ?_
  refine v_istore_n (lv' := [(2, .int 0), (1, .int (-1)), (0, .ref (rX P))]) C dX3_richest_3 rfl (by decide) rfl ?_
  refine v_iconst (v := 0) C dX3_richest_4 rfl ?_
  refine v_istore_n (lv' := [(3, .int 0), (2, .int 0), (1, .int (-1)), (0, .ref (rX P))]) C dX3_richest_5 rfl (by decide) rfl ?_
  have L_1 : ∀ (n : Nat) (i : Nat) (best bw : Int32), i ≤ c → c < i + n → V pg l en (rmO 6 0 0) sg mg ag bg mt cd P D (MQ bg (QcI P D (nW P) False (cw P N F T K A w) (ricL (c + 1) c (12 * 0) 0 N (-1) 0)) ag sg 0 0 (aO P)) 5 (nW P) False (cw P N F T K A w) 0 0 65 [(1, .int (ricL n c (12 * 0) i N best bw))] [] → V pg l en (rmO 6 0 0) sg mg ag bg mt cd P D (MQ bg (QcI P D (nW P) False (cw P N F T K A w) (ricL (c + 1) c (12 * 0) 0 N (-1) 0)) ag sg 0 0 (aO P)) 5 (nW P) False (cw P N F T K A w) 0 0 6 [(3, .int (nI i)), (2, .int bw), (1, .int best), (0, .ref (rX P))] [] := by
    intro n
    induction n with
    | zero => intro i best bw z1 z2; omega
    | succ n ih =>
      intro i best bw z1 z2 hk9
      refine v_iload_n C 0 dX3_richest_6 rfl ?_
      refine v_aload_n C 3 dX3_richest_7 rfl ?_
      refine v_gX C 0 (by decide) k_426 rfl dX3_richest_8 ?_
      refine v_gTuN C (by decide) 1 (by decide) (List.mem_of_getElem? (i := 19) rfl) rfl dX3_richest_11 ?_
      refine v_icmp_ge (tgt := 65) C dX3_richest_14 (by decide) (fun h14_1 => ?_) (fun h14_1 => ?_)
      · refine v_lv [2] rfl ?_
        have hic : c ≤ i := (leC hc h12 z1).mp h14_1
        have e9 : ricL (n + 1) c (12 * 0) i N best bw = best := by rw [ricL, if_pos hic]
        rw [e9] at hk9
        exact hk9
      · have hic : i < c := Nat.not_le.mp (fun z => h14_1 ((leC hc h12 z1).mpr z))
        refine v_aload_n C 3 dX3_richest_17 rfl ?_
        refine v_gX C 0 (by decide) k_426 rfl dX3_richest_18 ?_
        refine v_gTuN C (by decide) 2 (by decide) (List.mem_of_getElem? (i := 20) rfl) rfl dX3_richest_21 ?_
        refine v_iload_n C 0 dX3_richest_24 rfl ?_
        refine v_aaNk C i (by decide) (nI_clamp (by omega)) (vp_in_nI (by omega) (by omega)) dX3_richest_25 ?_
        refine v_gNuN C (by omega) 7 (by decide) (List.mem_of_getElem? (i := 7) rfl) rfl dX3_richest_26 ?_
        refine v_aload_n C 3 dX3_richest_29 rfl ?_
        refine v_gX C 0 (by decide) k_426 rfl dX3_richest_30 ?_
        refine v_gTuN C (by decide) 2 (by decide) (List.mem_of_getElem? (i := 20) rfl) rfl dX3_richest_33 ?_
        refine v_iload_n C 0 dX3_richest_36 rfl ?_
        refine v_aaNk C i (by decide) (nI_clamp (by omega)) (vp_in_nI (by omega) (by omega)) dX3_richest_37 ?_
        refine v_gNuN C (by omega) 8 (by decide) (List.mem_of_getElem? (i := 8) rfl) rfl dX3_richest_38 ?_
        refine v_isub C dX3_richest_41 ?_
        refine v_top (fun x_1 ex_1 => ?_)
        refine v_istore (lv' := [(4, .int x_1), (3, .int (nI i)), (2, .int bw), (1, .int best), (0, .ref (rX P))]) C dX3_richest_42 (by decide) rfl ?_
        refine v_iload_n C 3 dX3_richest_44 rfl ?_
        refine v_if_lt (tgt := 54) C dX3_richest_45 (by decide) (fun h45_1 => ?_) (fun h45_1 => ?_)
        · refine v_iload_n C 1 dX3_richest_54 rfl ?_
          refine v_istore_n (lv' := [(1, .int (nI i)), (4, .int x_1), (3, .int (nI i)), (2, .int bw), (0, .ref (rX P))]) C dX3_richest_55 rfl (by decide) rfl ?_
          refine v_iload C 1 dX3_richest_56 rfl ?_
          refine v_istore_n (lv' := [(2, .int x_1), (1, .int (nI i)), (4, .int x_1), (3, .int (nI i)), (0, .ref (rX P))]) C dX3_richest_58 rfl (by decide) rfl ?_
          refine v_iinc (b := (nI (i + 1))) (lv' := [(3, .int (nI (i + 1))), (2, .int x_1), (1, .int (nI i)), (4, .int x_1), (0, .ref (rX P))]) C 3 dX3_richest_59 rfl (nI_1 _) (by decide) rfl ?_
          refine v_goto (tgt := 6) C dX3_richest_62 (by decide) ?_
          refine v_lv [0, 1, 2, 4] rfl ?_
          replace ex_1 : x_1 = wlth (N (12 * 0 + i)) := ex_1
          have e9 : ricL (n + 1) c (12 * 0) i N best bw = ricL n c (12 * 0) (i + 1) N (nI i) (wlth (N (12 * 0 + i))) := by rw [ricL, if_neg (by omega), if_pos h45_1]
          rw [e9] at hk9
          subst ex_1
          exact ih _ _ _ (by omega) (by omega) hk9
        · refine v_iload C 0 dX3_richest_48 rfl ?_
          refine v_iload_n C 2 dX3_richest_50 rfl ?_
          refine v_icmp_le (tgt := 59) C dX3_richest_51 (by decide) (fun h51_1 => ?_) (fun h51_1 => ?_)
          · refine v_iinc (b := (nI (i + 1))) (lv' := [(3, .int (nI (i + 1))), (4, .int x_1), (2, .int bw), (1, .int best), (0, .ref (rX P))]) C 1 dX3_richest_59 rfl (nI_1 _) (by decide) rfl ?_
            refine v_goto (tgt := 6) C dX3_richest_62 (by decide) ?_
            refine v_lv [0, 2, 3, 4] rfl ?_
            replace ex_1 : x_1 = wlth (N (12 * 0 + i)) := ex_1
            have e9 : ricL (n + 1) c (12 * 0) i N best bw = ricL n c (12 * 0) (i + 1) N best bw := by rw [ricL, if_neg (by omega), if_neg h45_1, if_pos (by exact (ex_1 ▸ h51_1))]
            rw [e9] at hk9
            exact ih _ _ _ (by omega) (by omega) hk9
          · refine v_iload_n C 1 dX3_richest_54 rfl ?_
            refine v_istore_n (lv' := [(1, .int (nI i)), (4, .int x_1), (3, .int (nI i)), (2, .int bw), (0, .ref (rX P))]) C dX3_richest_55 rfl (by decide) rfl ?_
            refine v_iload C 1 dX3_richest_56 rfl ?_
            refine v_istore_n (lv' := [(2, .int x_1), (1, .int (nI i)), (4, .int x_1), (3, .int (nI i)), (0, .ref (rX P))]) C dX3_richest_58 rfl (by decide) rfl ?_
            refine v_iinc (b := (nI (i + 1))) (lv' := [(3, .int (nI (i + 1))), (2, .int x_1), (1, .int (nI i)), (4, .int x_1), (0, .ref (rX P))]) C 3 dX3_richest_59 rfl (nI_1 _) (by decide) rfl ?_
            refine v_goto (tgt := 6) C dX3_richest_62 (by decide) ?_
            refine v_lv [0, 1, 2, 4] rfl ?_
            replace ex_1 : x_1 = wlth (N (12 * 0 + i)) := ex_1
            have e9 : ricL (n + 1) c (12 * 0) i N best bw = ricL n c (12 * 0) (i + 1) N (nI i) (wlth (N (12 * 0 + i))) := by rw [ricL, if_neg (by omega), if_neg h45_1, if_neg (by exact (ex_1 ▸ h51_1))]
            rw [e9] at hk9
            subst ex_1
            exact ih _ _ _ (by omega) (by omega) hk9
  refine L_1 (c + 1) 0 (-1) 0 (by omega) (by omega) ?_
  refine v_iload_n C 0 dX3_richest_65 rfl ?_
  exact v_iret C dX3_richest_66 rfl rfl
set_option maxHeartbeats 4000000 in
set_option maxRecDepth 100000 in
theorem c_X3_digest {l : Launch} {P : L5} {D : va_G} {N F T : Nat → Nat → Int32} {K : Nat → Int32} {A : Nat → Nat → Int32} {w : Int64} {c : Nat} (hc : T 0 1 = nI c) (h12 : c ≤ 12) : CtL l yX3_digest cX3_digest 5 6 0 0 P D (nW P) (nW P) False (cw P N F T K A w) (cw P N F T K A w) [.ref (rX P)] (digC N F T c) := by
  refine mk_Met pl_X3 [(0, .ref (rX P))] rfl (Nat.le_of_ble_eq_true rfl) ?_
  intro pg en sg mg ag bg mt cd C
  refine v_ldc2 (v := 1259) C dX3_digest_0 k_287 ?_
  refine v_lstore_n (lv' := [(1, .long 1259), (0, .ref (rX P))]) C dX3_digest_3 rfl (by decide) rfl ?_
  refine v_iconst (v := 0) C dX3_digest_4 rfl ?_
  refine v_istore_n (lv' := [(3, .int 0), (1, .long 1259), (0, .ref (rX P))]) C dX3_digest_5 rfl (by decide) rfl ?_
  refine v_iload_n C 0 dX3_digest_6 rfl ?_
  refine v_bipush (v := 11) C dX3_digest_7 rfl ?_
  refine v_icmp_ge (tgt := 34) C dX3_digest_9 (by decide) (fun h9 => absurd h9 (by decide)) (fun _ => ?_)
  refine v_lload_n C 1 dX3_digest_12 rfl ?_
  refine v_ldc2 (v := 31) C dX3_digest_13 k_288 ?_
  refine v_lmul C dX3_digest_16 ?_
  refine v_aload_n C 2 dX3_digest_17 rfl ?_
  refine v_gX C 0 (by decide) k_426 rfl dX3_digest_18 ?_
  refine v_iload_n C 0 dX3_digest_21 rfl ?_
  refine go_I (run_VN C (c_X2_total_0 (by decide) hc h12) k_171 k_2 (List.mem_of_getElem? (i := 4) rfl) k_170 ks_5 dd_X2_total ⟨Nat.le_of_ble_eq_true rfl, Nat.le_of_ble_eq_true rfl⟩ (rcT (by decide)) rfl (Nat.le_of_ble_eq_true rfl) dX3_digest_22 ⟨Nat.le_of_ble_eq_true rfl, Nat.le_of_ble_eq_true rfl⟩) ?_
  refine v_i2l C dX3_digest_25 ?_
  refine v_ladd C dX3_digest_26 ?_
  refine v_topl (fun y_1 ey_1 => ?_)
  replace ey_1 : y_1 = dg 1259 (totN N F T 0 c 0) := ey_1
  refine v_lstore_n (lv' := [(1, .long y_1), (3, .int 0), (0, .ref (rX P))]) C dX3_digest_27 rfl (by decide) rfl ?_
  refine v_iinc (b := 1) (lv' := [(3, .int 1), (1, .long y_1), (0, .ref (rX P))]) C 1 dX3_digest_28 rfl rfl (by decide) rfl ?_
  refine v_goto (tgt := 6) C dX3_digest_31 (by decide) ?_
  refine v_iload_n C 0 dX3_digest_6 rfl ?_
  refine v_bipush (v := 11) C dX3_digest_7 rfl ?_
  refine v_icmp_ge (tgt := 34) C dX3_digest_9 (by decide) (fun h9 => absurd h9 (by decide)) (fun _ => ?_)
  refine v_lload_n C 1 dX3_digest_12 rfl ?_
  refine v_ldc2 (v := 31) C dX3_digest_13 k_288 ?_
  refine v_lmul C dX3_digest_16 ?_
  refine v_aload_n C 2 dX3_digest_17 rfl ?_
  refine v_gX C 0 (by decide) k_426 rfl dX3_digest_18 ?_
  refine v_iload_n C 0 dX3_digest_21 rfl ?_
  refine go_I (run_VN C (c_X2_total_1 (by decide) hc h12) k_171 k_2 (List.mem_of_getElem? (i := 4) rfl) k_170 ks_5 dd_X2_total ⟨Nat.le_of_ble_eq_true rfl, Nat.le_of_ble_eq_true rfl⟩ (rcT (by decide)) rfl (Nat.le_of_ble_eq_true rfl) dX3_digest_22 ⟨Nat.le_of_ble_eq_true rfl, Nat.le_of_ble_eq_true rfl⟩) ?_
  refine v_i2l C dX3_digest_25 ?_
  refine v_ladd C dX3_digest_26 ?_
  refine v_topl (fun y_2 ey_2 => ?_)
  replace ey_2 : y_2 = dg y_1 (totN N F T 0 c 1) := ey_2
  refine v_lstore_n (lv' := [(1, .long y_2), (3, .int 1), (0, .ref (rX P))]) C dX3_digest_27 rfl (by decide) rfl ?_
  refine v_iinc (b := 2) (lv' := [(3, .int 2), (1, .long y_2), (0, .ref (rX P))]) C 1 dX3_digest_28 rfl rfl (by decide) rfl ?_
  refine v_goto (tgt := 6) C dX3_digest_31 (by decide) ?_
  refine v_iload_n C 0 dX3_digest_6 rfl ?_
  refine v_bipush (v := 11) C dX3_digest_7 rfl ?_
  refine v_icmp_ge (tgt := 34) C dX3_digest_9 (by decide) (fun h9 => absurd h9 (by decide)) (fun _ => ?_)
  refine v_lload_n C 1 dX3_digest_12 rfl ?_
  refine v_ldc2 (v := 31) C dX3_digest_13 k_288 ?_
  refine v_lmul C dX3_digest_16 ?_
  refine v_aload_n C 2 dX3_digest_17 rfl ?_
  refine v_gX C 0 (by decide) k_426 rfl dX3_digest_18 ?_
  refine v_iload_n C 0 dX3_digest_21 rfl ?_
  refine go_I (run_VN C (c_X2_total_2 (by decide) hc h12) k_171 k_2 (List.mem_of_getElem? (i := 4) rfl) k_170 ks_5 dd_X2_total ⟨Nat.le_of_ble_eq_true rfl, Nat.le_of_ble_eq_true rfl⟩ (rcT (by decide)) rfl (Nat.le_of_ble_eq_true rfl) dX3_digest_22 ⟨Nat.le_of_ble_eq_true rfl, Nat.le_of_ble_eq_true rfl⟩) ?_
  refine v_i2l C dX3_digest_25 ?_
  refine v_ladd C dX3_digest_26 ?_
  refine v_topl (fun y_3 ey_3 => ?_)
  replace ey_3 : y_3 = dg y_2 (totN N F T 0 c 2) := ey_3
  refine v_lstore_n (lv' := [(1, .long y_3), (3, .int 2), (0, .ref (rX P))]) C dX3_digest_27 rfl (by decide) rfl ?_
  refine v_iinc (b := 3) (lv' := [(3, .int 3), (1, .long y_3), (0, .ref (rX P))]) C 1 dX3_digest_28 rfl rfl (by decide) rfl ?_
  refine v_goto (tgt := 6) C dX3_digest_31 (by decide) ?_
  refine v_iload_n C 0 dX3_digest_6 rfl ?_
  refine v_bipush (v := 11) C dX3_digest_7 rfl ?_
  refine v_icmp_ge (tgt := 34) C dX3_digest_9 (by decide) (fun h9 => absurd h9 (by decide)) (fun _ => ?_)
  refine v_lload_n C 1 dX3_digest_12 rfl ?_
  refine v_ldc2 (v := 31) C dX3_digest_13 k_288 ?_
  refine v_lmul C dX3_digest_16 ?_
  refine v_aload_n C 2 dX3_digest_17 rfl ?_
  refine v_gX C 0 (by decide) k_426 rfl dX3_digest_18 ?_
  refine v_iload_n C 0 dX3_digest_21 rfl ?_
  refine go_I (run_VN C (c_X2_total_3 (by decide) hc h12) k_171 k_2 (List.mem_of_getElem? (i := 4) rfl) k_170 ks_5 dd_X2_total ⟨Nat.le_of_ble_eq_true rfl, Nat.le_of_ble_eq_true rfl⟩ (rcT (by decide)) rfl (Nat.le_of_ble_eq_true rfl) dX3_digest_22 ⟨Nat.le_of_ble_eq_true rfl, Nat.le_of_ble_eq_true rfl⟩) ?_
  refine v_i2l C dX3_digest_25 ?_
  refine v_ladd C dX3_digest_26 ?_
  refine v_topl (fun y_4 ey_4 => ?_)
  replace ey_4 : y_4 = dg y_3 (totN N F T 0 c 3) := ey_4
  refine v_lstore_n (lv' := [(1, .long y_4), (3, .int 3), (0, .ref (rX P))]) C dX3_digest_27 rfl (by decide) rfl ?_
  refine v_iinc (b := 4) (lv' := [(3, .int 4), (1, .long y_4), (0, .ref (rX P))]) C 1 dX3_digest_28 rfl rfl (by decide) rfl ?_
  refine v_goto (tgt := 6) C dX3_digest_31 (by decide) ?_
  refine v_iload_n C 0 dX3_digest_6 rfl ?_
  refine v_bipush (v := 11) C dX3_digest_7 rfl ?_
  refine v_icmp_ge (tgt := 34) C dX3_digest_9 (by decide) (fun h9 => absurd h9 (by decide)) (fun _ => ?_)
  refine v_lload_n C 1 dX3_digest_12 rfl ?_
  refine v_ldc2 (v := 31) C dX3_digest_13 k_288 ?_
  refine v_lmul C dX3_digest_16 ?_
  refine v_aload_n C 2 dX3_digest_17 rfl ?_
  refine v_gX C 0 (by decide) k_426 rfl dX3_digest_18 ?_
  refine v_iload_n C 0 dX3_digest_21 rfl ?_
  refine go_I (run_VN C (c_X2_total_4 (by decide) hc h12) k_171 k_2 (List.mem_of_getElem? (i := 4) rfl) k_170 ks_5 dd_X2_total ⟨Nat.le_of_ble_eq_true rfl, Nat.le_of_ble_eq_true rfl⟩ (rcT (by decide)) rfl (Nat.le_of_ble_eq_true rfl) dX3_digest_22 ⟨Nat.le_of_ble_eq_true rfl, Nat.le_of_ble_eq_true rfl⟩) ?_
  refine v_i2l C dX3_digest_25 ?_
  refine v_ladd C dX3_digest_26 ?_
  refine v_topl (fun y_5 ey_5 => ?_)
  replace ey_5 : y_5 = dg y_4 (totN N F T 0 c 4) := ey_5
  refine v_lstore_n (lv' := [(1, .long y_5), (3, .int 4), (0, .ref (rX P))]) C dX3_digest_27 rfl (by decide) rfl ?_
  refine v_iinc (b := 5) (lv' := [(3, .int 5), (1, .long y_5), (0, .ref (rX P))]) C 1 dX3_digest_28 rfl rfl (by decide) rfl ?_
  refine v_goto (tgt := 6) C dX3_digest_31 (by decide) ?_
  refine v_iload_n C 0 dX3_digest_6 rfl ?_
  refine v_bipush (v := 11) C dX3_digest_7 rfl ?_
  refine v_icmp_ge (tgt := 34) C dX3_digest_9 (by decide) (fun h9 => absurd h9 (by decide)) (fun _ => ?_)
  refine v_lload_n C 1 dX3_digest_12 rfl ?_
  refine v_ldc2 (v := 31) C dX3_digest_13 k_288 ?_
  refine v_lmul C dX3_digest_16 ?_
  refine v_aload_n C 2 dX3_digest_17 rfl ?_
  refine v_gX C 0 (by decide) k_426 rfl dX3_digest_18 ?_
  refine v_iload_n C 0 dX3_digest_21 rfl ?_
  refine go_I (run_VN C (c_X2_total_5 (by decide) hc h12) k_171 k_2 (List.mem_of_getElem? (i := 4) rfl) k_170 ks_5 dd_X2_total ⟨Nat.le_of_ble_eq_true rfl, Nat.le_of_ble_eq_true rfl⟩ (rcT (by decide)) rfl (Nat.le_of_ble_eq_true rfl) dX3_digest_22 ⟨Nat.le_of_ble_eq_true rfl, Nat.le_of_ble_eq_true rfl⟩) ?_
  refine v_i2l C dX3_digest_25 ?_
  refine v_ladd C dX3_digest_26 ?_
  refine v_topl (fun y_6 ey_6 => ?_)
  replace ey_6 : y_6 = dg y_5 (totN N F T 0 c 5) := ey_6
  refine v_lstore_n (lv' := [(1, .long y_6), (3, .int 5), (0, .ref (rX P))]) C dX3_digest_27 rfl (by decide) rfl ?_
  refine v_iinc (b := 6) (lv' := [(3, .int 6), (1, .long y_6), (0, .ref (rX P))]) C 1 dX3_digest_28 rfl rfl (by decide) rfl ?_
  refine v_goto (tgt := 6) C dX3_digest_31 (by decide) ?_
  refine v_iload_n C 0 dX3_digest_6 rfl ?_
  refine v_bipush (v := 11) C dX3_digest_7 rfl ?_
  refine v_icmp_ge (tgt := 34) C dX3_digest_9 (by decide) (fun h9 => absurd h9 (by decide)) (fun _ => ?_)
  refine v_lload_n C 1 dX3_digest_12 rfl ?_
  refine v_ldc2 (v := 31) C dX3_digest_13 k_288 ?_
  refine v_lmul C dX3_digest_16 ?_
  refine v_aload_n C 2 dX3_digest_17 rfl ?_
  refine v_gX C 0 (by decide) k_426 rfl dX3_digest_18 ?_
  refine v_iload_n C 0 dX3_digest_21 rfl ?_
  refine go_I (run_VN C (c_X2_total_6 (by decide) hc h12) k_171 k_2 (List.mem_of_getElem? (i := 4) rfl) k_170 ks_5 dd_X2_total ⟨Nat.le_of_ble_eq_true rfl, Nat.le_of_ble_eq_true rfl⟩ (rcT (by decide)) rfl (Nat.le_of_ble_eq_true rfl) dX3_digest_22 ⟨Nat.le_of_ble_eq_true rfl, Nat.le_of_ble_eq_true rfl⟩) ?_
  refine v_i2l C dX3_digest_25 ?_
  refine v_ladd C dX3_digest_26 ?_
  refine v_topl (fun y_7 ey_7 => ?_)
  replace ey_7 : y_7 = dg y_6 (totN N F T 0 c 6) := ey_7
  refine v_lstore_n (lv' := [(1, .long y_7), (3, .int 6), (0, .ref (rX P))]) C dX3_digest_27 rfl (by decide) rfl ?_
  refine v_iinc (b := 7) (lv' := [(3, .int 7), (1, .long y_7), (0, .ref (rX P))]) C 1 dX3_digest_28 rfl rfl (by decide) rfl ?_
  refine v_goto (tgt := 6) C dX3_digest_31 (by decide) ?_
  refine v_iload_n C 0 dX3_digest_6 rfl ?_
  refine v_bipush (v := 11) C dX3_digest_7 rfl ?_
  refine v_icmp_ge (tgt := 34) C dX3_digest_9 (by decide) (fun h9 => absurd h9 (by decide)) (fun _ => ?_)
  refine v_lload_n C 1 dX3_digest_12 rfl ?_
  refine v_ldc2 (v := 31) C dX3_digest_13 k_288 ?_
  refine v_lmul C dX3_digest_16 ?_
  refine v_aload_n C 2 dX3_digest_17 rfl ?_
  refine v_gX C 0 (by decide) k_426 rfl dX3_digest_18 ?_
  refine v_iload_n C 0 dX3_digest_21 rfl ?_
  refine go_I (run_VN C (c_X2_total_7 (by decide) hc h12) k_171 k_2 (List.mem_of_getElem? (i := 4) rfl) k_170 ks_5 dd_X2_total ⟨Nat.le_of_ble_eq_true rfl, Nat.le_of_ble_eq_true rfl⟩ (rcT (by decide)) rfl (Nat.le_of_ble_eq_true rfl) dX3_digest_22 ⟨Nat.le_of_ble_eq_true rfl, Nat.le_of_ble_eq_true rfl⟩) ?_
  refine v_i2l C dX3_digest_25 ?_
  refine v_ladd C dX3_digest_26 ?_
  refine v_topl (fun y_8 ey_8 => ?_)
  replace ey_8 : y_8 = dg y_7 (totN N F T 0 c 7) := ey_8
  refine v_lstore_n (lv' := [(1, .long y_8), (3, .int 7), (0, .ref (rX P))]) C dX3_digest_27 rfl (by decide) rfl ?_
  refine v_iinc (b := 8) (lv' := [(3, .int 8), (1, .long y_8), (0, .ref (rX P))]) C 1 dX3_digest_28 rfl rfl (by decide) rfl ?_
  refine v_goto (tgt := 6) C dX3_digest_31 (by decide) ?_
  refine v_iload_n C 0 dX3_digest_6 rfl ?_
  refine v_bipush (v := 11) C dX3_digest_7 rfl ?_
  refine v_icmp_ge (tgt := 34) C dX3_digest_9 (by decide) (fun h9 => absurd h9 (by decide)) (fun _ => ?_)
  refine v_lload_n C 1 dX3_digest_12 rfl ?_
  refine v_ldc2 (v := 31) C dX3_digest_13 k_288 ?_
  refine v_lmul C dX3_digest_16 ?_
  refine v_aload_n C 2 dX3_digest_17 rfl ?_
  refine v_gX C 0 (by decide) k_426 rfl dX3_digest_18 ?_
  refine v_iload_n C 0 dX3_digest_21 rfl ?_
  refine go_I (run_VN C (c_X2_total_8 (by decide) hc h12) k_171 k_2 (List.mem_of_getElem? (i := 4) rfl) k_170 ks_5 dd_X2_total ⟨Nat.le_of_ble_eq_true rfl, Nat.le_of_ble_eq_true rfl⟩ (rcT (by decide)) rfl (Nat.le_of_ble_eq_true rfl) dX3_digest_22 ⟨Nat.le_of_ble_eq_true rfl, Nat.le_of_ble_eq_true rfl⟩) ?_
  refine v_i2l C dX3_digest_25 ?_
  refine v_ladd C dX3_digest_26 ?_
  refine v_topl (fun y_9 ey_9 => ?_)
  replace ey_9 : y_9 = dg y_8 (totN N F T 0 c 8) := ey_9
  refine v_lstore_n (lv' := [(1, .long y_9), (3, .int 8), (0, .ref (rX P))]) C dX3_digest_27 rfl (by decide) rfl ?_
  refine v_iinc (b := 9) (lv' := [(3, .int 9), (1, .long y_9), (0, .ref (rX P))]) C 1 dX3_digest_28 rfl rfl (by decide) rfl ?_
  refine v_goto (tgt := 6) C dX3_digest_31 (by decide) ?_
  refine v_iload_n C 0 dX3_digest_6 rfl ?_
  refine v_bipush (v := 11) C dX3_digest_7 rfl ?_
  refine v_icmp_ge (tgt := 34) C dX3_digest_9 (by decide) (fun h9 => absurd h9 (by decide)) (fun _ => ?_)
  refine v_lload_n C 1 dX3_digest_12 rfl ?_
  refine v_ldc2 (v := 31) C dX3_digest_13 k_288 ?_
  refine v_lmul C dX3_digest_16 ?_
  refine v_aload_n C 2 dX3_digest_17 rfl ?_
  refine v_gX C 0 (by decide) k_426 rfl dX3_digest_18 ?_
  refine v_iload_n C 0 dX3_digest_21 rfl ?_
  refine go_I (run_VN C (c_X2_total_9 (by decide) hc h12) k_171 k_2 (List.mem_of_getElem? (i := 4) rfl) k_170 ks_5 dd_X2_total ⟨Nat.le_of_ble_eq_true rfl, Nat.le_of_ble_eq_true rfl⟩ (rcT (by decide)) rfl (Nat.le_of_ble_eq_true rfl) dX3_digest_22 ⟨Nat.le_of_ble_eq_true rfl, Nat.le_of_ble_eq_true rfl⟩) ?_
  refine v_i2l C dX3_digest_25 ?_
  refine v_ladd C dX3_digest_26 ?_
  refine v_topl (fun y_10 ey_10 => ?_)
  replace ey_10 : y_10 = dg y_9 (totN N F T 0 c 9) := ey_10
  refine v_lstore_n (lv' := [(1, .long y_10), (3, .int 9), (0, .ref (rX P))]) C dX3_digest_27 rfl (by decide) rfl ?_
  refine v_iinc (b := 10) (lv' := [(3, .int 10), (1, .long y_10), (0, .ref (rX P))]) C 1 dX3_digest_28 rfl rfl (by decide) rfl ?_
  refine v_goto (tgt := 6) C dX3_digest_31 (by decide) ?_
  refine v_iload_n C 0 dX3_digest_6 rfl ?_
  refine v_bipush (v := 11) C dX3_digest_7 rfl ?_
  refine v_icmp_ge (tgt := 34) C dX3_digest_9 (by decide) (fun h9 => absurd h9 (by decide)) (fun _ => ?_)
  refine v_lload_n C 1 dX3_digest_12 rfl ?_
  refine v_ldc2 (v := 31) C dX3_digest_13 k_288 ?_
  refine v_lmul C dX3_digest_16 ?_
  refine v_aload_n C 2 dX3_digest_17 rfl ?_
  refine v_gX C 0 (by decide) k_426 rfl dX3_digest_18 ?_
  refine v_iload_n C 0 dX3_digest_21 rfl ?_
  refine go_I (run_VN C (c_X2_total_10 (by decide) hc h12) k_171 k_2 (List.mem_of_getElem? (i := 4) rfl) k_170 ks_5 dd_X2_total ⟨Nat.le_of_ble_eq_true rfl, Nat.le_of_ble_eq_true rfl⟩ (rcT (by decide)) rfl (Nat.le_of_ble_eq_true rfl) dX3_digest_22 ⟨Nat.le_of_ble_eq_true rfl, Nat.le_of_ble_eq_true rfl⟩) ?_
  refine v_i2l C dX3_digest_25 ?_
  refine v_ladd C dX3_digest_26 ?_
  refine v_topl (fun y_11 ey_11 => ?_)
  replace ey_11 : y_11 = dg y_10 (totN N F T 0 c 10) := ey_11
  refine v_lstore_n (lv' := [(1, .long y_11), (3, .int 10), (0, .ref (rX P))]) C dX3_digest_27 rfl (by decide) rfl ?_
  refine v_iinc (b := 11) (lv' := [(3, .int 11), (1, .long y_11), (0, .ref (rX P))]) C 1 dX3_digest_28 rfl rfl (by decide) rfl ?_
  refine v_goto (tgt := 6) C dX3_digest_31 (by decide) ?_
  refine v_iload_n C 0 dX3_digest_6 rfl ?_
  refine v_bipush (v := 11) C dX3_digest_7 rfl ?_
  refine v_icmp_ge (tgt := 34) C dX3_digest_9 (by decide) (fun _ => ?_) (fun h9 => absurd (by decide) h9)
  refine v_iconst (v := 0) C dX3_digest_34 rfl ?_
  refine v_istore_n (lv' := [(3, .int 0), (1, .long y_11), (0, .ref (rX P))]) C dX3_digest_35 rfl (by decide) rfl ?_
  have L_1 : ∀ (n : Nat) (i : Nat) (d : Int64), i ≤ c → c < i + n → V pg l en (rmO 6 0 0) sg mg ag bg mt cd P D (MQ bg (QcL P D (nW P) False (cw P N F T K A w) (digC N F T c)) ag sg 0 0 (aO P)) 5 (nW P) False (cw P N F T K A w) 0 0 67 [(1, .long (digN n c (12 * 0) i N d)), (0, .ref (rX P))] [] → V pg l en (rmO 6 0 0) sg mg ag bg mt cd P D (MQ bg (QcL P D (nW P) False (cw P N F T K A w) (digC N F T c)) ag sg 0 0 (aO P)) 5 (nW P) False (cw P N F T K A w) 0 0 36 [(3, .int (nI i)), (1, .long d), (0, .ref (rX P))] [] := by
    intro n
    induction n with
    | zero => intro i d z1 z2; omega
    | succ n ih =>
      intro i d z1 z2 hk9
      refine v_iload_n C 0 dX3_digest_36 rfl ?_
      refine v_aload_n C 2 dX3_digest_37 rfl ?_
      refine v_gX C 0 (by decide) k_426 rfl dX3_digest_38 ?_
      refine v_gTuN C (by decide) 1 (by decide) (List.mem_of_getElem? (i := 19) rfl) rfl dX3_digest_41 ?_
      refine v_icmp_ge (tgt := 67) C dX3_digest_44 (by decide) (fun h44_1 => ?_) (fun h44_1 => ?_)
      · refine v_lv [1, 2] rfl ?_
        have hic : c ≤ i := (leC hc h12 z1).mp h44_1
        have e9 : digN (n + 1) c (12 * 0) i N d = d := by rw [digN, if_pos hic]
        rw [e9] at hk9
        exact hk9
      · have hic : i < c := Nat.not_le.mp (fun z => h44_1 ((leC hc h12 z1).mpr z))
        refine v_aload_n C 2 dX3_digest_47 rfl ?_
        refine v_gX C 0 (by decide) k_426 rfl dX3_digest_48 ?_
        refine v_gTuN C (by decide) 2 (by decide) (List.mem_of_getElem? (i := 20) rfl) rfl dX3_digest_51 ?_
        refine v_iload_n C 0 dX3_digest_54 rfl ?_
        refine v_aaNk C i (by decide) (nI_clamp (by omega)) (vp_in_nI (by omega) (by omega)) dX3_digest_55 ?_
        refine v_lload_n C 1 dX3_digest_56 rfl ?_
        refine go_L (run_VN C (c_X1_addToDigest (by omega)) k_292 k_3 (List.mem_of_getElem? (i := 6) rfl) k_291 ks_24 dd_X1_addToDigest ⟨Nat.le_of_ble_eq_true rfl, Nat.le_of_ble_eq_true rfl⟩ (rcN (by omega)) rfl (Nat.le_of_ble_eq_true rfl) dX3_digest_57 ⟨Nat.le_of_ble_eq_true rfl, Nat.le_of_ble_eq_true rfl⟩) ?_
        refine v_topl (fun y_12 ey_12 => ?_)
        replace ey_12 : y_12 = addD (N (12 * 0 + i)) d := ey_12
        refine v_lstore_n (lv' := [(1, .long y_12), (3, .int (nI i)), (0, .ref (rX P))]) C dX3_digest_60 rfl (by decide) rfl ?_
        refine v_iinc (b := (nI (i + 1))) (lv' := [(3, .int (nI (i + 1))), (1, .long y_12), (0, .ref (rX P))]) C 1 dX3_digest_61 rfl (nI_1 _) (by decide) rfl ?_
        refine v_goto (tgt := 36) C dX3_digest_64 (by decide) ?_
        have e9 : digN (n + 1) c (12 * 0) i N d = digN n c (12 * 0) (i + 1) N (addD (N (12 * 0 + i)) d) := by rw [digN, if_neg (by omega)]
        rw [e9] at hk9
        subst ey_12
        exact ih _ _ (by omega) (by omega) hk9
  refine L_1 (c + 1) 0 y_11 (by omega) (by omega) ?_
  obtain ⟨d0, ed0⟩ : ∃ z, z = digN (c + 1) c (12 * 0) 0 N y_11 := ⟨_, rfl⟩
  rw [← ed0]
  refine v_iconst (v := 0) C dX3_digest_67 rfl ?_
  refine v_istore_n (lv' := [(3, .int 0), (1, .long d0), (0, .ref (rX P))]) C dX3_digest_68 rfl (by decide) rfl ?_
  refine v_iload_n C 0 dX3_digest_69 rfl ?_
  refine v_iconst (v := 4) C dX3_digest_70 rfl ?_
  refine v_icmp_ge (tgt := 114) C dX3_digest_71 (by decide) (fun h9 => absurd h9 (by decide)) (fun _ => ?_)
  refine v_iconst (v := 0) C dX3_digest_74 rfl ?_
  refine v_istore (lv' := [(4, .int 0), (3, .int 0), (1, .long d0), (0, .ref (rX P))]) C dX3_digest_75 (by decide) rfl ?_
  refine v_iload C 0 dX3_digest_77 rfl ?_
  refine v_bipush (v := 6) C dX3_digest_79 rfl ?_
  refine v_icmp_ge (tgt := 108) C dX3_digest_81 (by decide) (fun h9 => absurd h9 (by decide)) (fun _ => ?_)
  refine v_lload_n C 2 dX3_digest_84 rfl ?_
  refine v_ldc2 (v := 31) C dX3_digest_85 k_288 ?_
  refine v_lmul C dX3_digest_88 ?_
  refine v_aload_n C 3 dX3_digest_89 rfl ?_
  refine v_gX C 0 (by decide) k_426 rfl dX3_digest_90 ?_
  refine v_iload_n C 1 dX3_digest_93 rfl ?_
  refine v_iload C 0 dX3_digest_94 rfl ?_
  refine go_I (run_VN C (c_X2_foggerNumber_0 (by decide) hc h12 in4_0) k_159 k_2 (List.mem_of_getElem? (i := 7) rfl) k_157 ks_3 dd_X2_foggerNumber ⟨Nat.le_of_ble_eq_true rfl, Nat.le_of_ble_eq_true rfl⟩ (rcT (by decide)) rfl (Nat.le_of_ble_eq_true rfl) dX3_digest_96 ⟨Nat.le_of_ble_eq_true rfl, Nat.le_of_ble_eq_true rfl⟩) ?_
  refine v_i2l C dX3_digest_99 ?_
  refine v_ladd C dX3_digest_100 ?_
  refine v_topl (fun y_13 ey_13 => ?_)
  replace ey_13 : y_13 = dg d0 (fogN N F 0 c 0 0) := ey_13
  refine v_lstore_n (lv' := [(1, .long y_13), (4, .int 0), (3, .int 0), (0, .ref (rX P))]) C dX3_digest_101 rfl (by decide) rfl ?_
  refine v_iinc (b := 1) (lv' := [(4, .int 1), (1, .long y_13), (3, .int 0), (0, .ref (rX P))]) C 1 dX3_digest_102 rfl rfl (by decide) rfl ?_
  refine v_goto (tgt := 77) C dX3_digest_105 (by decide) ?_
  refine v_iload C 0 dX3_digest_77 rfl ?_
  refine v_bipush (v := 6) C dX3_digest_79 rfl ?_
  refine v_icmp_ge (tgt := 108) C dX3_digest_81 (by decide) (fun h9 => absurd h9 (by decide)) (fun _ => ?_)
  refine v_lload_n C 1 dX3_digest_84 rfl ?_
  refine v_ldc2 (v := 31) C dX3_digest_85 k_288 ?_
  refine v_lmul C dX3_digest_88 ?_
  refine v_aload_n C 3 dX3_digest_89 rfl ?_
  refine v_gX C 0 (by decide) k_426 rfl dX3_digest_90 ?_
  refine v_iload_n C 2 dX3_digest_93 rfl ?_
  refine v_iload C 0 dX3_digest_94 rfl ?_
  refine go_I (run_VN C (c_X2_foggerNumber_1 (by decide) hc h12 in4_0) k_159 k_2 (List.mem_of_getElem? (i := 7) rfl) k_157 ks_3 dd_X2_foggerNumber ⟨Nat.le_of_ble_eq_true rfl, Nat.le_of_ble_eq_true rfl⟩ (rcT (by decide)) rfl (Nat.le_of_ble_eq_true rfl) dX3_digest_96 ⟨Nat.le_of_ble_eq_true rfl, Nat.le_of_ble_eq_true rfl⟩) ?_
  refine v_i2l C dX3_digest_99 ?_
  refine v_ladd C dX3_digest_100 ?_
  refine v_topl (fun y_14 ey_14 => ?_)
  replace ey_14 : y_14 = dg y_13 (fogN N F 0 c 0 1) := ey_14
  refine v_lstore_n (lv' := [(1, .long y_14), (4, .int 1), (3, .int 0), (0, .ref (rX P))]) C dX3_digest_101 rfl (by decide) rfl ?_
  refine v_iinc (b := 2) (lv' := [(4, .int 2), (1, .long y_14), (3, .int 0), (0, .ref (rX P))]) C 1 dX3_digest_102 rfl rfl (by decide) rfl ?_
  refine v_goto (tgt := 77) C dX3_digest_105 (by decide) ?_
  refine v_iload C 0 dX3_digest_77 rfl ?_
  refine v_bipush (v := 6) C dX3_digest_79 rfl ?_
  refine v_icmp_ge (tgt := 108) C dX3_digest_81 (by decide) (fun h9 => absurd h9 (by decide)) (fun _ => ?_)
  refine v_lload_n C 1 dX3_digest_84 rfl ?_
  refine v_ldc2 (v := 31) C dX3_digest_85 k_288 ?_
  refine v_lmul C dX3_digest_88 ?_
  refine v_aload_n C 3 dX3_digest_89 rfl ?_
  refine v_gX C 0 (by decide) k_426 rfl dX3_digest_90 ?_
  refine v_iload_n C 2 dX3_digest_93 rfl ?_
  refine v_iload C 0 dX3_digest_94 rfl ?_
  refine go_I (run_VN C (c_X2_foggerNumber_2 (by decide) hc h12 in4_0) k_159 k_2 (List.mem_of_getElem? (i := 7) rfl) k_157 ks_3 dd_X2_foggerNumber ⟨Nat.le_of_ble_eq_true rfl, Nat.le_of_ble_eq_true rfl⟩ (rcT (by decide)) rfl (Nat.le_of_ble_eq_true rfl) dX3_digest_96 ⟨Nat.le_of_ble_eq_true rfl, Nat.le_of_ble_eq_true rfl⟩) ?_
  refine v_i2l C dX3_digest_99 ?_
  refine v_ladd C dX3_digest_100 ?_
  refine v_topl (fun y_15 ey_15 => ?_)
  replace ey_15 : y_15 = dg y_14 (fogN N F 0 c 0 2) := ey_15
  refine v_lstore_n (lv' := [(1, .long y_15), (4, .int 2), (3, .int 0), (0, .ref (rX P))]) C dX3_digest_101 rfl (by decide) rfl ?_
  refine v_iinc (b := 3) (lv' := [(4, .int 3), (1, .long y_15), (3, .int 0), (0, .ref (rX P))]) C 1 dX3_digest_102 rfl rfl (by decide) rfl ?_
  refine v_goto (tgt := 77) C dX3_digest_105 (by decide) ?_
  refine v_iload C 0 dX3_digest_77 rfl ?_
  refine v_bipush (v := 6) C dX3_digest_79 rfl ?_
  refine v_icmp_ge (tgt := 108) C dX3_digest_81 (by decide) (fun h9 => absurd h9 (by decide)) (fun _ => ?_)
  refine v_lload_n C 1 dX3_digest_84 rfl ?_
  refine v_ldc2 (v := 31) C dX3_digest_85 k_288 ?_
  refine v_lmul C dX3_digest_88 ?_
  refine v_aload_n C 3 dX3_digest_89 rfl ?_
  refine v_gX C 0 (by decide) k_426 rfl dX3_digest_90 ?_
  refine v_iload_n C 2 dX3_digest_93 rfl ?_
  refine v_iload C 0 dX3_digest_94 rfl ?_
  refine go_I (run_VN C (c_X2_foggerNumber_3 (by decide) hc h12 in4_0) k_159 k_2 (List.mem_of_getElem? (i := 7) rfl) k_157 ks_3 dd_X2_foggerNumber ⟨Nat.le_of_ble_eq_true rfl, Nat.le_of_ble_eq_true rfl⟩ (rcT (by decide)) rfl (Nat.le_of_ble_eq_true rfl) dX3_digest_96 ⟨Nat.le_of_ble_eq_true rfl, Nat.le_of_ble_eq_true rfl⟩) ?_
  refine v_i2l C dX3_digest_99 ?_
  refine v_ladd C dX3_digest_100 ?_
  refine v_topl (fun y_16 ey_16 => ?_)
  replace ey_16 : y_16 = dg y_15 (fogN N F 0 c 0 3) := ey_16
  refine v_lstore_n (lv' := [(1, .long y_16), (4, .int 3), (3, .int 0), (0, .ref (rX P))]) C dX3_digest_101 rfl (by decide) rfl ?_
  refine v_iinc (b := 4) (lv' := [(4, .int 4), (1, .long y_16), (3, .int 0), (0, .ref (rX P))]) C 1 dX3_digest_102 rfl rfl (by decide) rfl ?_
  refine v_goto (tgt := 77) C dX3_digest_105 (by decide) ?_
  refine v_iload C 0 dX3_digest_77 rfl ?_
  refine v_bipush (v := 6) C dX3_digest_79 rfl ?_
  refine v_icmp_ge (tgt := 108) C dX3_digest_81 (by decide) (fun h9 => absurd h9 (by decide)) (fun _ => ?_)
  refine v_lload_n C 1 dX3_digest_84 rfl ?_
  refine v_ldc2 (v := 31) C dX3_digest_85 k_288 ?_
  refine v_lmul C dX3_digest_88 ?_
  refine v_aload_n C 3 dX3_digest_89 rfl ?_
  refine v_gX C 0 (by decide) k_426 rfl dX3_digest_90 ?_
  refine v_iload_n C 2 dX3_digest_93 rfl ?_
  refine v_iload C 0 dX3_digest_94 rfl ?_
  refine go_I (run_VN C (c_X2_foggerNumber_4 (by decide) hc h12 in4_0) k_159 k_2 (List.mem_of_getElem? (i := 7) rfl) k_157 ks_3 dd_X2_foggerNumber ⟨Nat.le_of_ble_eq_true rfl, Nat.le_of_ble_eq_true rfl⟩ (rcT (by decide)) rfl (Nat.le_of_ble_eq_true rfl) dX3_digest_96 ⟨Nat.le_of_ble_eq_true rfl, Nat.le_of_ble_eq_true rfl⟩) ?_
  refine v_i2l C dX3_digest_99 ?_
  refine v_ladd C dX3_digest_100 ?_
  refine v_topl (fun y_17 ey_17 => ?_)
  replace ey_17 : y_17 = dg y_16 (fogN N F 0 c 0 4) := ey_17
  refine v_lstore_n (lv' := [(1, .long y_17), (4, .int 4), (3, .int 0), (0, .ref (rX P))]) C dX3_digest_101 rfl (by decide) rfl ?_
  refine v_iinc (b := 5) (lv' := [(4, .int 5), (1, .long y_17), (3, .int 0), (0, .ref (rX P))]) C 1 dX3_digest_102 rfl rfl (by decide) rfl ?_
  refine v_goto (tgt := 77) C dX3_digest_105 (by decide) ?_
  refine v_iload C 0 dX3_digest_77 rfl ?_
  refine v_bipush (v := 6) C dX3_digest_79 rfl ?_
  refine v_icmp_ge (tgt := 108) C dX3_digest_81 (by decide) (fun h9 => absurd h9 (by decide)) (fun _ => ?_)
  refine v_lload_n C 1 dX3_digest_84 rfl ?_
  refine v_ldc2 (v := 31) C dX3_digest_85 k_288 ?_
  refine v_lmul C dX3_digest_88 ?_
  refine v_aload_n C 3 dX3_digest_89 rfl ?_
  refine v_gX C 0 (by decide) k_426 rfl dX3_digest_90 ?_
  refine v_iload_n C 2 dX3_digest_93 rfl ?_
  refine v_iload C 0 dX3_digest_94 rfl ?_
  refine go_I (run_VN C (c_X2_foggerNumber_5 (by decide) hc h12 in4_0) k_159 k_2 (List.mem_of_getElem? (i := 7) rfl) k_157 ks_3 dd_X2_foggerNumber ⟨Nat.le_of_ble_eq_true rfl, Nat.le_of_ble_eq_true rfl⟩ (rcT (by decide)) rfl (Nat.le_of_ble_eq_true rfl) dX3_digest_96 ⟨Nat.le_of_ble_eq_true rfl, Nat.le_of_ble_eq_true rfl⟩) ?_
  refine v_i2l C dX3_digest_99 ?_
  refine v_ladd C dX3_digest_100 ?_
  refine v_topl (fun y_18 ey_18 => ?_)
  replace ey_18 : y_18 = dg y_17 (fogN N F 0 c 0 5) := ey_18
  refine v_lstore_n (lv' := [(1, .long y_18), (4, .int 5), (3, .int 0), (0, .ref (rX P))]) C dX3_digest_101 rfl (by decide) rfl ?_
  refine v_iinc (b := 6) (lv' := [(4, .int 6), (1, .long y_18), (3, .int 0), (0, .ref (rX P))]) C 1 dX3_digest_102 rfl rfl (by decide) rfl ?_
  refine v_goto (tgt := 77) C dX3_digest_105 (by decide) ?_
  refine v_iload C 0 dX3_digest_77 rfl ?_
  refine v_bipush (v := 6) C dX3_digest_79 rfl ?_
  refine v_icmp_ge (tgt := 108) C dX3_digest_81 (by decide) (fun _ => ?_) (fun h9 => absurd (by decide) h9)
  refine v_iinc (b := 1) (lv' := [(3, .int 1), (4, .int 6), (1, .long y_18), (0, .ref (rX P))]) C 2 dX3_digest_108 rfl rfl (by decide) rfl ?_
  refine v_goto (tgt := 69) C dX3_digest_111 (by decide) ?_
  refine v_iload_n C 0 dX3_digest_69 rfl ?_
  refine v_iconst (v := 4) C dX3_digest_70 rfl ?_
  refine v_icmp_ge (tgt := 114) C dX3_digest_71 (by decide) (fun h9 => absurd h9 (by decide)) (fun _ => ?_)
  refine v_iconst (v := 0) C dX3_digest_74 rfl ?_
  refine v_istore (lv' := [(4, .int 0), (3, .int 1), (1, .long y_18), (0, .ref (rX P))]) C dX3_digest_75 (by decide) rfl ?_
  refine v_iload C 0 dX3_digest_77 rfl ?_
  refine v_bipush (v := 6) C dX3_digest_79 rfl ?_
  refine v_icmp_ge (tgt := 108) C dX3_digest_81 (by decide) (fun h9 => absurd h9 (by decide)) (fun _ => ?_)
  refine v_lload_n C 2 dX3_digest_84 rfl ?_
  refine v_ldc2 (v := 31) C dX3_digest_85 k_288 ?_
  refine v_lmul C dX3_digest_88 ?_
  refine v_aload_n C 3 dX3_digest_89 rfl ?_
  refine v_gX C 0 (by decide) k_426 rfl dX3_digest_90 ?_
  refine v_iload_n C 1 dX3_digest_93 rfl ?_
  refine v_iload C 0 dX3_digest_94 rfl ?_
  refine go_I (run_VN C (c_X2_foggerNumber_0 (by decide) hc h12 in4_1) k_159 k_2 (List.mem_of_getElem? (i := 7) rfl) k_157 ks_3 dd_X2_foggerNumber ⟨Nat.le_of_ble_eq_true rfl, Nat.le_of_ble_eq_true rfl⟩ (rcT (by decide)) rfl (Nat.le_of_ble_eq_true rfl) dX3_digest_96 ⟨Nat.le_of_ble_eq_true rfl, Nat.le_of_ble_eq_true rfl⟩) ?_
  refine v_i2l C dX3_digest_99 ?_
  refine v_ladd C dX3_digest_100 ?_
  refine v_topl (fun y_19 ey_19 => ?_)
  replace ey_19 : y_19 = dg y_18 (fogN N F 0 c 1 0) := ey_19
  refine v_lstore_n (lv' := [(1, .long y_19), (4, .int 0), (3, .int 1), (0, .ref (rX P))]) C dX3_digest_101 rfl (by decide) rfl ?_
  refine v_iinc (b := 1) (lv' := [(4, .int 1), (1, .long y_19), (3, .int 1), (0, .ref (rX P))]) C 1 dX3_digest_102 rfl rfl (by decide) rfl ?_
  refine v_goto (tgt := 77) C dX3_digest_105 (by decide) ?_
  refine v_iload C 0 dX3_digest_77 rfl ?_
  refine v_bipush (v := 6) C dX3_digest_79 rfl ?_
  refine v_icmp_ge (tgt := 108) C dX3_digest_81 (by decide) (fun h9 => absurd h9 (by decide)) (fun _ => ?_)
  refine v_lload_n C 1 dX3_digest_84 rfl ?_
  refine v_ldc2 (v := 31) C dX3_digest_85 k_288 ?_
  refine v_lmul C dX3_digest_88 ?_
  refine v_aload_n C 3 dX3_digest_89 rfl ?_
  refine v_gX C 0 (by decide) k_426 rfl dX3_digest_90 ?_
  refine v_iload_n C 2 dX3_digest_93 rfl ?_
  refine v_iload C 0 dX3_digest_94 rfl ?_
  refine go_I (run_VN C (c_X2_foggerNumber_1 (by decide) hc h12 in4_1) k_159 k_2 (List.mem_of_getElem? (i := 7) rfl) k_157 ks_3 dd_X2_foggerNumber ⟨Nat.le_of_ble_eq_true rfl, Nat.le_of_ble_eq_true rfl⟩ (rcT (by decide)) rfl (Nat.le_of_ble_eq_true rfl) dX3_digest_96 ⟨Nat.le_of_ble_eq_true rfl, Nat.le_of_ble_eq_true rfl⟩) ?_
  refine v_i2l C dX3_digest_99 ?_
  refine v_ladd C dX3_digest_100 ?_
  refine v_topl (fun y_20 ey_20 => ?_)
  replace ey_20 : y_20 = dg y_19 (fogN N F 0 c 1 1) := ey_20
  refine v_lstore_n (lv' := [(1, .long y_20), (4, .int 1), (3, .int 1), (0, .ref (rX P))]) C dX3_digest_101 rfl (by decide) rfl ?_
  refine v_iinc (b := 2) (lv' := [(4, .int 2), (1, .long y_20), (3, .int 1), (0, .ref (rX P))]) C 1 dX3_digest_102 rfl rfl (by decide) rfl ?_
  refine v_goto (tgt := 77) C dX3_digest_105 (by decide) ?_
  refine v_iload C 0 dX3_digest_77 rfl ?_
  refine v_bipush (v := 6) C dX3_digest_79 rfl ?_
  refine v_icmp_ge (tgt := 108) C dX3_digest_81 (by decide) (fun h9 => absurd h9 (by decide)) (fun _ => ?_)
  refine v_lload_n C 1 dX3_digest_84 rfl ?_
  refine v_ldc2 (v := 31) C dX3_digest_85 k_288 ?_
  refine v_lmul C dX3_digest_88 ?_
  refine v_aload_n C 3 dX3_digest_89 rfl ?_
  refine v_gX C 0 (by decide) k_426 rfl dX3_digest_90 ?_
  refine v_iload_n C 2 dX3_digest_93 rfl ?_
  refine v_iload C 0 dX3_digest_94 rfl ?_
  refine go_I (run_VN C (c_X2_foggerNumber_2 (by decide) hc h12 in4_1) k_159 k_2 (List.mem_of_getElem? (i := 7) rfl) k_157 ks_3 dd_X2_foggerNumber ⟨Nat.le_of_ble_eq_true rfl, Nat.le_of_ble_eq_true rfl⟩ (rcT (by decide)) rfl (Nat.le_of_ble_eq_true rfl) dX3_digest_96 ⟨Nat.le_of_ble_eq_true rfl, Nat.le_of_ble_eq_true rfl⟩) ?_
  refine v_i2l C dX3_digest_99 ?_
  refine v_ladd C dX3_digest_100 ?_
  refine v_topl (fun y_21 ey_21 => ?_)
  replace ey_21 : y_21 = dg y_20 (fogN N F 0 c 1 2) := ey_21
  refine v_lstore_n (lv' := [(1, .long y_21), (4, .int 2), (3, .int 1), (0, .ref (rX P))]) C dX3_digest_101 rfl (by decide) rfl ?_
  refine v_iinc (b := 3) (lv' := [(4, .int 3), (1, .long y_21), (3, .int 1), (0, .ref (rX P))]) C 1 dX3_digest_102 rfl rfl (by decide) rfl ?_
  refine v_goto (tgt := 77) C dX3_digest_105 (by decide) ?_
  refine v_iload C 0 dX3_digest_77 rfl ?_
  refine v_bipush (v := 6) C dX3_digest_79 rfl ?_
  refine v_icmp_ge (tgt := 108) C dX3_digest_81 (by decide) (fun h9 => absurd h9 (by decide)) (fun _ => ?_)
  refine v_lload_n C 1 dX3_digest_84 rfl ?_
  refine v_ldc2 (v := 31) C dX3_digest_85 k_288 ?_
  refine v_lmul C dX3_digest_88 ?_
  refine v_aload_n C 3 dX3_digest_89 rfl ?_
  refine v_gX C 0 (by decide) k_426 rfl dX3_digest_90 ?_
  refine v_iload_n C 2 dX3_digest_93 rfl ?_
  refine v_iload C 0 dX3_digest_94 rfl ?_
  refine go_I (run_VN C (c_X2_foggerNumber_3 (by decide) hc h12 in4_1) k_159 k_2 (List.mem_of_getElem? (i := 7) rfl) k_157 ks_3 dd_X2_foggerNumber ⟨Nat.le_of_ble_eq_true rfl, Nat.le_of_ble_eq_true rfl⟩ (rcT (by decide)) rfl (Nat.le_of_ble_eq_true rfl) dX3_digest_96 ⟨Nat.le_of_ble_eq_true rfl, Nat.le_of_ble_eq_true rfl⟩) ?_
  refine v_i2l C dX3_digest_99 ?_
  refine v_ladd C dX3_digest_100 ?_
  refine v_topl (fun y_22 ey_22 => ?_)
  replace ey_22 : y_22 = dg y_21 (fogN N F 0 c 1 3) := ey_22
  refine v_lstore_n (lv' := [(1, .long y_22), (4, .int 3), (3, .int 1), (0, .ref (rX P))]) C dX3_digest_101 rfl (by decide) rfl ?_
  refine v_iinc (b := 4) (lv' := [(4, .int 4), (1, .long y_22), (3, .int 1), (0, .ref (rX P))]) C 1 dX3_digest_102 rfl rfl (by decide) rfl ?_
  refine v_goto (tgt := 77) C dX3_digest_105 (by decide) ?_
  refine v_iload C 0 dX3_digest_77 rfl ?_
  refine v_bipush (v := 6) C dX3_digest_79 rfl ?_
  refine v_icmp_ge (tgt := 108) C dX3_digest_81 (by decide) (fun h9 => absurd h9 (by decide)) (fun _ => ?_)
  refine v_lload_n C 1 dX3_digest_84 rfl ?_
  refine v_ldc2 (v := 31) C dX3_digest_85 k_288 ?_
  refine v_lmul C dX3_digest_88 ?_
  refine v_aload_n C 3 dX3_digest_89 rfl ?_
  refine v_gX C 0 (by decide) k_426 rfl dX3_digest_90 ?_
  refine v_iload_n C 2 dX3_digest_93 rfl ?_
  refine v_iload C 0 dX3_digest_94 rfl ?_
  refine go_I (run_VN C (c_X2_foggerNumber_4 (by decide) hc h12 in4_1) k_159 k_2 (List.mem_of_getElem? (i := 7) rfl) k_157 ks_3 dd_X2_foggerNumber ⟨Nat.le_of_ble_eq_true rfl, Nat.le_of_ble_eq_true rfl⟩ (rcT (by decide)) rfl (Nat.le_of_ble_eq_true rfl) dX3_digest_96 ⟨Nat.le_of_ble_eq_true rfl, Nat.le_of_ble_eq_true rfl⟩) ?_
  refine v_i2l C dX3_digest_99 ?_
  refine v_ladd C dX3_digest_100 ?_
  refine v_topl (fun y_23 ey_23 => ?_)
  replace ey_23 : y_23 = dg y_22 (fogN N F 0 c 1 4) := ey_23
  refine v_lstore_n (lv' := [(1, .long y_23), (4, .int 4), (3, .int 1), (0, .ref (rX P))]) C dX3_digest_101 rfl (by decide) rfl ?_
  refine v_iinc (b := 5) (lv' := [(4, .int 5), (1, .long y_23), (3, .int 1), (0, .ref (rX P))]) C 1 dX3_digest_102 rfl rfl (by decide) rfl ?_
  refine v_goto (tgt := 77) C dX3_digest_105 (by decide) ?_
  refine v_iload C 0 dX3_digest_77 rfl ?_
  refine v_bipush (v := 6) C dX3_digest_79 rfl ?_
  refine v_icmp_ge (tgt := 108) C dX3_digest_81 (by decide) (fun h9 => absurd h9 (by decide)) (fun _ => ?_)
  refine v_lload_n C 1 dX3_digest_84 rfl ?_
  refine v_ldc2 (v := 31) C dX3_digest_85 k_288 ?_
  refine v_lmul C dX3_digest_88 ?_
  refine v_aload_n C 3 dX3_digest_89 rfl ?_
  refine v_gX C 0 (by decide) k_426 rfl dX3_digest_90 ?_
  refine v_iload_n C 2 dX3_digest_93 rfl ?_
  refine v_iload C 0 dX3_digest_94 rfl ?_
  refine go_I (run_VN C (c_X2_foggerNumber_5 (by decide) hc h12 in4_1) k_159 k_2 (List.mem_of_getElem? (i := 7) rfl) k_157 ks_3 dd_X2_foggerNumber ⟨Nat.le_of_ble_eq_true rfl, Nat.le_of_ble_eq_true rfl⟩ (rcT (by decide)) rfl (Nat.le_of_ble_eq_true rfl) dX3_digest_96 ⟨Nat.le_of_ble_eq_true rfl, Nat.le_of_ble_eq_true rfl⟩) ?_
  refine v_i2l C dX3_digest_99 ?_
  refine v_ladd C dX3_digest_100 ?_
  refine v_topl (fun y_24 ey_24 => ?_)
  replace ey_24 : y_24 = dg y_23 (fogN N F 0 c 1 5) := ey_24
  refine v_lstore_n (lv' := [(1, .long y_24), (4, .int 5), (3, .int 1), (0, .ref (rX P))]) C dX3_digest_101 rfl (by decide) rfl ?_
  refine v_iinc (b := 6) (lv' := [(4, .int 6), (1, .long y_24), (3, .int 1), (0, .ref (rX P))]) C 1 dX3_digest_102 rfl rfl (by decide) rfl ?_
  refine v_goto (tgt := 77) C dX3_digest_105 (by decide) ?_
  refine v_iload C 0 dX3_digest_77 rfl ?_
  refine v_bipush (v := 6) C dX3_digest_79 rfl ?_
  refine v_icmp_ge (tgt := 108) C dX3_digest_81 (by decide) (fun _ => ?_) (fun h9 => absurd (by decide) h9)
  refine v_iinc (b := 2) (lv' := [(3, .int 2), (4, .int 6), (1, .long y_24), (0, .ref (rX P))]) C 2 dX3_digest_108 rfl rfl (by decide) rfl ?_
  refine v_goto (tgt := 69) C dX3_digest_111 (by decide) ?_
  refine v_iload_n C 0 dX3_digest_69 rfl ?_
  refine v_iconst (v := 4) C dX3_digest_70 rfl ?_
  refine v_icmp_ge (tgt := 114) C dX3_digest_71 (by decide) (fun h9 => absurd h9 (by decide)) (fun _ => ?_)
  refine v_iconst (v := 0) C dX3_digest_74 rfl ?_
  refine v_istore (lv' := [(4, .int 0), (3, .int 2), (1, .long y_24), (0, .ref (rX P))]) C dX3_digest_75 (by decide) rfl ?_
  refine v_iload C 0 dX3_digest_77 rfl ?_
  refine v_bipush (v := 6) C dX3_digest_79 rfl ?_
  refine v_icmp_ge (tgt := 108) C dX3_digest_81 (by decide) (fun h9 => absurd h9 (by decide)) (fun _ => ?_)
  refine v_lload_n C 2 dX3_digest_84 rfl ?_
  refine v_ldc2 (v := 31) C dX3_digest_85 k_288 ?_
  refine v_lmul C dX3_digest_88 ?_
  refine v_aload_n C 3 dX3_digest_89 rfl ?_
  refine v_gX C 0 (by decide) k_426 rfl dX3_digest_90 ?_
  refine v_iload_n C 1 dX3_digest_93 rfl ?_
  refine v_iload C 0 dX3_digest_94 rfl ?_
  refine go_I (run_VN C (c_X2_foggerNumber_0 (by decide) hc h12 in4_2) k_159 k_2 (List.mem_of_getElem? (i := 7) rfl) k_157 ks_3 dd_X2_foggerNumber ⟨Nat.le_of_ble_eq_true rfl, Nat.le_of_ble_eq_true rfl⟩ (rcT (by decide)) rfl (Nat.le_of_ble_eq_true rfl) dX3_digest_96 ⟨Nat.le_of_ble_eq_true rfl, Nat.le_of_ble_eq_true rfl⟩) ?_
  refine v_i2l C dX3_digest_99 ?_
  refine v_ladd C dX3_digest_100 ?_
  refine v_topl (fun y_25 ey_25 => ?_)
  replace ey_25 : y_25 = dg y_24 (fogN N F 0 c 2 0) := ey_25
  refine v_lstore_n (lv' := [(1, .long y_25), (4, .int 0), (3, .int 2), (0, .ref (rX P))]) C dX3_digest_101 rfl (by decide) rfl ?_
  refine v_iinc (b := 1) (lv' := [(4, .int 1), (1, .long y_25), (3, .int 2), (0, .ref (rX P))]) C 1 dX3_digest_102 rfl rfl (by decide) rfl ?_
  refine v_goto (tgt := 77) C dX3_digest_105 (by decide) ?_
  refine v_iload C 0 dX3_digest_77 rfl ?_
  refine v_bipush (v := 6) C dX3_digest_79 rfl ?_
  refine v_icmp_ge (tgt := 108) C dX3_digest_81 (by decide) (fun h9 => absurd h9 (by decide)) (fun _ => ?_)
  refine v_lload_n C 1 dX3_digest_84 rfl ?_
  refine v_ldc2 (v := 31) C dX3_digest_85 k_288 ?_
  refine v_lmul C dX3_digest_88 ?_
  refine v_aload_n C 3 dX3_digest_89 rfl ?_
  refine v_gX C 0 (by decide) k_426 rfl dX3_digest_90 ?_
  refine v_iload_n C 2 dX3_digest_93 rfl ?_
  refine v_iload C 0 dX3_digest_94 rfl ?_
  refine go_I (run_VN C (c_X2_foggerNumber_1 (by decide) hc h12 in4_2) k_159 k_2 (List.mem_of_getElem? (i := 7) rfl) k_157 ks_3 dd_X2_foggerNumber ⟨Nat.le_of_ble_eq_true rfl, Nat.le_of_ble_eq_true rfl⟩ (rcT (by decide)) rfl (Nat.le_of_ble_eq_true rfl) dX3_digest_96 ⟨Nat.le_of_ble_eq_true rfl, Nat.le_of_ble_eq_true rfl⟩) ?_
  refine v_i2l C dX3_digest_99 ?_
  refine v_ladd C dX3_digest_100 ?_
  refine v_topl (fun y_26 ey_26 => ?_)
  replace ey_26 : y_26 = dg y_25 (fogN N F 0 c 2 1) := ey_26
  refine v_lstore_n (lv' := [(1, .long y_26), (4, .int 1), (3, .int 2), (0, .ref (rX P))]) C dX3_digest_101 rfl (by decide) rfl ?_
  refine v_iinc (b := 2) (lv' := [(4, .int 2), (1, .long y_26), (3, .int 2), (0, .ref (rX P))]) C 1 dX3_digest_102 rfl rfl (by decide) rfl ?_
  refine v_goto (tgt := 77) C dX3_digest_105 (by decide) ?_
  refine v_iload C 0 dX3_digest_77 rfl ?_
  refine v_bipush (v := 6) C dX3_digest_79 rfl ?_
  refine v_icmp_ge (tgt := 108) C dX3_digest_81 (by decide) (fun h9 => absurd h9 (by decide)) (fun _ => ?_)
  refine v_lload_n C 1 dX3_digest_84 rfl ?_
  refine v_ldc2 (v := 31) C dX3_digest_85 k_288 ?_
  refine v_lmul C dX3_digest_88 ?_
  refine v_aload_n C 3 dX3_digest_89 rfl ?_
  refine v_gX C 0 (by decide) k_426 rfl dX3_digest_90 ?_
  refine v_iload_n C 2 dX3_digest_93 rfl ?_
  refine v_iload C 0 dX3_digest_94 rfl ?_
  refine go_I (run_VN C (c_X2_foggerNumber_2 (by decide) hc h12 in4_2) k_159 k_2 (List.mem_of_getElem? (i := 7) rfl) k_157 ks_3 dd_X2_foggerNumber ⟨Nat.le_of_ble_eq_true rfl, Nat.le_of_ble_eq_true rfl⟩ (rcT (by decide)) rfl (Nat.le_of_ble_eq_true rfl) dX3_digest_96 ⟨Nat.le_of_ble_eq_true rfl, Nat.le_of_ble_eq_true rfl⟩) ?_
  refine v_i2l C dX3_digest_99 ?_
  refine v_ladd C dX3_digest_100 ?_
  refine v_topl (fun y_27 ey_27 => ?_)
  replace ey_27 : y_27 = dg y_26 (fogN N F 0 c 2 2) := ey_27
  refine v_lstore_n (lv' := [(1, .long y_27), (4, .int 2), (3, .int 2), (0, .ref (rX P))]) C dX3_digest_101 rfl (by decide) rfl ?_
  refine v_iinc (b := 3) (lv' := [(4, .int 3), (1, .long y_27), (3, .int 2), (0, .ref (rX P))]) C 1 dX3_digest_102 rfl rfl (by decide) rfl ?_
  refine v_goto (tgt := 77) C dX3_digest_105 (by decide) ?_
  refine v_iload C 0 dX3_digest_77 rfl ?_
  refine v_bipush (v := 6) C dX3_digest_79 rfl ?_
  refine v_icmp_ge (tgt := 108) C dX3_digest_81 (by decide) (fun h9 => absurd h9 (by decide)) (fun _ => ?_)
  refine v_lload_n C 1 dX3_digest_84 rfl ?_
  refine v_ldc2 (v := 31) C dX3_digest_85 k_288 ?_
  refine v_lmul C dX3_digest_88 ?_
  refine v_aload_n C 3 dX3_digest_89 rfl ?_
  refine v_gX C 0 (by decide) k_426 rfl dX3_digest_90 ?_
  refine v_iload_n C 2 dX3_digest_93 rfl ?_
  refine v_iload C 0 dX3_digest_94 rfl ?_
  refine go_I (run_VN C (c_X2_foggerNumber_3 (by decide) hc h12 in4_2) k_159 k_2 (List.mem_of_getElem? (i := 7) rfl) k_157 ks_3 dd_X2_foggerNumber ⟨Nat.le_of_ble_eq_true rfl, Nat.le_of_ble_eq_true rfl⟩ (rcT (by decide)) rfl (Nat.le_of_ble_eq_true rfl) dX3_digest_96 ⟨Nat.le_of_ble_eq_true rfl, Nat.le_of_ble_eq_true rfl⟩) ?_
  refine v_i2l C dX3_digest_99 ?_
  refine v_ladd C dX3_digest_100 ?_
  refine v_topl (fun y_28 ey_28 => ?_)
  replace ey_28 : y_28 = dg y_27 (fogN N F 0 c 2 3) := ey_28
  refine v_lstore_n (lv' := [(1, .long y_28), (4, .int 3), (3, .int 2), (0, .ref (rX P))]) C dX3_digest_101 rfl (by decide) rfl ?_
  refine v_iinc (b := 4) (lv' := [(4, .int 4), (1, .long y_28), (3, .int 2), (0, .ref (rX P))]) C 1 dX3_digest_102 rfl rfl (by decide) rfl ?_
  refine v_goto (tgt := 77) C dX3_digest_105 (by decide) ?_
  refine v_iload C 0 dX3_digest_77 rfl ?_
  refine v_bipush (v := 6) C dX3_digest_79 rfl ?_
  refine v_icmp_ge (tgt := 108) C dX3_digest_81 (by decide) (fun h9 => absurd h9 (by decide)) (fun _ => ?_)
  refine v_lload_n C 1 dX3_digest_84 rfl ?_
  refine v_ldc2 (v := 31) C dX3_digest_85 k_288 ?_
  refine v_lmul C dX3_digest_88 ?_
  refine v_aload_n C 3 dX3_digest_89 rfl ?_
  refine v_gX C 0 (by decide) k_426 rfl dX3_digest_90 ?_
  refine v_iload_n C 2 dX3_digest_93 rfl ?_
  refine v_iload C 0 dX3_digest_94 rfl ?_
  refine go_I (run_VN C (c_X2_foggerNumber_4 (by decide) hc h12 in4_2) k_159 k_2 (List.mem_of_getElem? (i := 7) rfl) k_157 ks_3 dd_X2_foggerNumber ⟨Nat.le_of_ble_eq_true rfl, Nat.le_of_ble_eq_true rfl⟩ (rcT (by decide)) rfl (Nat.le_of_ble_eq_true rfl) dX3_digest_96 ⟨Nat.le_of_ble_eq_true rfl, Nat.le_of_ble_eq_true rfl⟩) ?_
  refine v_i2l C dX3_digest_99 ?_
  refine v_ladd C dX3_digest_100 ?_
  refine v_topl (fun y_29 ey_29 => ?_)
  replace ey_29 : y_29 = dg y_28 (fogN N F 0 c 2 4) := ey_29
  refine v_lstore_n (lv' := [(1, .long y_29), (4, .int 4), (3, .int 2), (0, .ref (rX P))]) C dX3_digest_101 rfl (by decide) rfl ?_
  refine v_iinc (b := 5) (lv' := [(4, .int 5), (1, .long y_29), (3, .int 2), (0, .ref (rX P))]) C 1 dX3_digest_102 rfl rfl (by decide) rfl ?_
  refine v_goto (tgt := 77) C dX3_digest_105 (by decide) ?_
  refine v_iload C 0 dX3_digest_77 rfl ?_
  refine v_bipush (v := 6) C dX3_digest_79 rfl ?_
  refine v_icmp_ge (tgt := 108) C dX3_digest_81 (by decide) (fun h9 => absurd h9 (by decide)) (fun _ => ?_)
  refine v_lload_n C 1 dX3_digest_84 rfl ?_
  refine v_ldc2 (v := 31) C dX3_digest_85 k_288 ?_
  refine v_lmul C dX3_digest_88 ?_
  refine v_aload_n C 3 dX3_digest_89 rfl ?_
  refine v_gX C 0 (by decide) k_426 rfl dX3_digest_90 ?_
  refine v_iload_n C 2 dX3_digest_93 rfl ?_
  refine v_iload C 0 dX3_digest_94 rfl ?_
  refine go_I (run_VN C (c_X2_foggerNumber_5 (by decide) hc h12 in4_2) k_159 k_2 (List.mem_of_getElem? (i := 7) rfl) k_157 ks_3 dd_X2_foggerNumber ⟨Nat.le_of_ble_eq_true rfl, Nat.le_of_ble_eq_true rfl⟩ (rcT (by decide)) rfl (Nat.le_of_ble_eq_true rfl) dX3_digest_96 ⟨Nat.le_of_ble_eq_true rfl, Nat.le_of_ble_eq_true rfl⟩) ?_
  refine v_i2l C dX3_digest_99 ?_
  refine v_ladd C dX3_digest_100 ?_
  refine v_topl (fun y_30 ey_30 => ?_)
  replace ey_30 : y_30 = dg y_29 (fogN N F 0 c 2 5) := ey_30
  refine v_lstore_n (lv' := [(1, .long y_30), (4, .int 5), (3, .int 2), (0, .ref (rX P))]) C dX3_digest_101 rfl (by decide) rfl ?_
  refine v_iinc (b := 6) (lv' := [(4, .int 6), (1, .long y_30), (3, .int 2), (0, .ref (rX P))]) C 1 dX3_digest_102 rfl rfl (by decide) rfl ?_
  refine v_goto (tgt := 77) C dX3_digest_105 (by decide) ?_
  refine v_iload C 0 dX3_digest_77 rfl ?_
  refine v_bipush (v := 6) C dX3_digest_79 rfl ?_
  refine v_icmp_ge (tgt := 108) C dX3_digest_81 (by decide) (fun _ => ?_) (fun h9 => absurd (by decide) h9)
  refine v_iinc (b := 3) (lv' := [(3, .int 3), (4, .int 6), (1, .long y_30), (0, .ref (rX P))]) C 2 dX3_digest_108 rfl rfl (by decide) rfl ?_
  refine v_goto (tgt := 69) C dX3_digest_111 (by decide) ?_
  refine v_iload_n C 0 dX3_digest_69 rfl ?_
  refine v_iconst (v := 4) C dX3_digest_70 rfl ?_
  refine v_icmp_ge (tgt := 114) C dX3_digest_71 (by decide) (fun h9 => absurd h9 (by decide)) (fun _ => ?_)
  refine v_iconst (v := 0) C dX3_digest_74 rfl ?_
  refine v_istore (lv' := [(4, .int 0), (3, .int 3), (1, .long y_30), (0, .ref (rX P))]) C dX3_digest_75 (by decide) rfl ?_
  refine v_iload C 0 dX3_digest_77 rfl ?_
  refine v_bipush (v := 6) C dX3_digest_79 rfl ?_
  refine v_icmp_ge (tgt := 108) C dX3_digest_81 (by decide) (fun h9 => absurd h9 (by decide)) (fun _ => ?_)
  refine v_lload_n C 2 dX3_digest_84 rfl ?_
  refine v_ldc2 (v := 31) C dX3_digest_85 k_288 ?_
  refine v_lmul C dX3_digest_88 ?_
  refine v_aload_n C 3 dX3_digest_89 rfl ?_
  refine v_gX C 0 (by decide) k_426 rfl dX3_digest_90 ?_
  refine v_iload_n C 1 dX3_digest_93 rfl ?_
  refine v_iload C 0 dX3_digest_94 rfl ?_
  refine go_I (run_VN C (c_X2_foggerNumber_0 (by decide) hc h12 in4_3) k_159 k_2 (List.mem_of_getElem? (i := 7) rfl) k_157 ks_3 dd_X2_foggerNumber ⟨Nat.le_of_ble_eq_true rfl, Nat.le_of_ble_eq_true rfl⟩ (rcT (by decide)) rfl (Nat.le_of_ble_eq_true rfl) dX3_digest_96 ⟨Nat.le_of_ble_eq_true rfl, Nat.le_of_ble_eq_true rfl⟩) ?_
  refine v_i2l C dX3_digest_99 ?_
  refine v_ladd C dX3_digest_100 ?_
  refine v_topl (fun y_31 ey_31 => ?_)
  replace ey_31 : y_31 = dg y_30 (fogN N F 0 c 3 0) := ey_31
  refine v_lstore_n (lv' := [(1, .long y_31), (4, .int 0), (3, .int 3), (0, .ref (rX P))]) C dX3_digest_101 rfl (by decide) rfl ?_
  refine v_iinc (b := 1) (lv' := [(4, .int 1), (1, .long y_31), (3, .int 3), (0, .ref (rX P))]) C 1 dX3_digest_102 rfl rfl (by decide) rfl ?_
  refine v_goto (tgt := 77) C dX3_digest_105 (by decide) ?_
  refine v_iload C 0 dX3_digest_77 rfl ?_
  refine v_bipush (v := 6) C dX3_digest_79 rfl ?_
  refine v_icmp_ge (tgt := 108) C dX3_digest_81 (by decide) (fun h9 => absurd h9 (by decide)) (fun _ => ?_)
  refine v_lload_n C 1 dX3_digest_84 rfl ?_
  refine v_ldc2 (v := 31) C dX3_digest_85 k_288 ?_
  refine v_lmul C dX3_digest_88 ?_
  refine v_aload_n C 3 dX3_digest_89 rfl ?_
  refine v_gX C 0 (by decide) k_426 rfl dX3_digest_90 ?_
  refine v_iload_n C 2 dX3_digest_93 rfl ?_
  refine v_iload C 0 dX3_digest_94 rfl ?_
  refine go_I (run_VN C (c_X2_foggerNumber_1 (by decide) hc h12 in4_3) k_159 k_2 (List.mem_of_getElem? (i := 7) rfl) k_157 ks_3 dd_X2_foggerNumber ⟨Nat.le_of_ble_eq_true rfl, Nat.le_of_ble_eq_true rfl⟩ (rcT (by decide)) rfl (Nat.le_of_ble_eq_true rfl) dX3_digest_96 ⟨Nat.le_of_ble_eq_true rfl, Nat.le_of_ble_eq_true rfl⟩) ?_
  refine v_i2l C dX3_digest_99 ?_
  refine v_ladd C dX3_digest_100 ?_
  refine v_topl (fun y_32 ey_32 => ?_)
  replace ey_32 : y_32 = dg y_31 (fogN N F 0 c 3 1) := ey_32
  refine v_lstore_n (lv' := [(1, .long y_32), (4, .int 1), (3, .int 3), (0, .ref (rX P))]) C dX3_digest_101 rfl (by decide) rfl ?_
  refine v_iinc (b := 2) (lv' := [(4, .int 2), (1, .long y_32), (3, .int 3), (0, .ref (rX P))]) C 1 dX3_digest_102 rfl rfl (by decide) rfl ?_
  refine v_goto (tgt := 77) C dX3_digest_105 (by decide) ?_
  refine v_iload C 0 dX3_digest_77 rfl ?_
  refine v_bipush (v := 6) C dX3_digest_79 rfl ?_
  refine v_icmp_ge (tgt := 108) C dX3_digest_81 (by decide) (fun h9 => absurd h9 (by decide)) (fun _ => ?_)
  refine v_lload_n C 1 dX3_digest_84 rfl ?_
  refine v_ldc2 (v := 31) C dX3_digest_85 k_288 ?_
  refine v_lmul C dX3_digest_88 ?_
  refine v_aload_n C 3 dX3_digest_89 rfl ?_
  refine v_gX C 0 (by decide) k_426 rfl dX3_digest_90 ?_
  refine v_iload_n C 2 dX3_digest_93 rfl ?_
  refine v_iload C 0 dX3_digest_94 rfl ?_
  refine go_I (run_VN C (c_X2_foggerNumber_2 (by decide) hc h12 in4_3) k_159 k_2 (List.mem_of_getElem? (i := 7) rfl) k_157 ks_3 dd_X2_foggerNumber ⟨Nat.le_of_ble_eq_true rfl, Nat.le_of_ble_eq_true rfl⟩ (rcT (by decide)) rfl (Nat.le_of_ble_eq_true rfl) dX3_digest_96 ⟨Nat.le_of_ble_eq_true rfl, Nat.le_of_ble_eq_true rfl⟩) ?_
  refine v_i2l C dX3_digest_99 ?_
  refine v_ladd C dX3_digest_100 ?_
  refine v_topl (fun y_33 ey_33 => ?_)
  replace ey_33 : y_33 = dg y_32 (fogN N F 0 c 3 2) := ey_33
  refine v_lstore_n (lv' := [(1, .long y_33), (4, .int 2), (3, .int 3), (0, .ref (rX P))]) C dX3_digest_101 rfl (by decide) rfl ?_
  refine v_iinc (b := 3) (lv' := [(4, .int 3), (1, .long y_33), (3, .int 3), (0, .ref (rX P))]) C 1 dX3_digest_102 rfl rfl (by decide) rfl ?_
  refine v_goto (tgt := 77) C dX3_digest_105 (by decide) ?_
  refine v_iload C 0 dX3_digest_77 rfl ?_
  refine v_bipush (v := 6) C dX3_digest_79 rfl ?_
  refine v_icmp_ge (tgt := 108) C dX3_digest_81 (by decide) (fun h9 => absurd h9 (by decide)) (fun _ => ?_)
  refine v_lload_n C 1 dX3_digest_84 rfl ?_
  refine v_ldc2 (v := 31) C dX3_digest_85 k_288 ?_
  refine v_lmul C dX3_digest_88 ?_
  refine v_aload_n C 3 dX3_digest_89 rfl ?_
  refine v_gX C 0 (by decide) k_426 rfl dX3_digest_90 ?_
  refine v_iload_n C 2 dX3_digest_93 rfl ?_
  refine v_iload C 0 dX3_digest_94 rfl ?_
  refine go_I (run_VN C (c_X2_foggerNumber_3 (by decide) hc h12 in4_3) k_159 k_2 (List.mem_of_getElem? (i := 7) rfl) k_157 ks_3 dd_X2_foggerNumber ⟨Nat.le_of_ble_eq_true rfl, Nat.le_of_ble_eq_true rfl⟩ (rcT (by decide)) rfl (Nat.le_of_ble_eq_true rfl) dX3_digest_96 ⟨Nat.le_of_ble_eq_true rfl, Nat.le_of_ble_eq_true rfl⟩) ?_
  refine v_i2l C dX3_digest_99 ?_
  refine v_ladd C dX3_digest_100 ?_
  refine v_topl (fun y_34 ey_34 => ?_)
  replace ey_34 : y_34 = dg y_33 (fogN N F 0 c 3 3) := ey_34
  refine v_lstore_n (lv' := [(1, .long y_34), (4, .int 3), (3, .int 3), (0, .ref (rX P))]) C dX3_digest_101 rfl (by decide) rfl ?_
  refine v_iinc (b := 4) (lv' := [(4, .int 4), (1, .long y_34), (3, .int 3), (0, .ref (rX P))]) C 1 dX3_digest_102 rfl rfl (by decide) rfl ?_
  refine v_goto (tgt := 77) C dX3_digest_105 (by decide) ?_
  refine v_iload C 0 dX3_digest_77 rfl ?_
  refine v_bipush (v := 6) C dX3_digest_79 rfl ?_
  refine v_icmp_ge (tgt := 108) C dX3_digest_81 (by decide) (fun h9 => absurd h9 (by decide)) (fun _ => ?_)
  refine v_lload_n C 1 dX3_digest_84 rfl ?_
  refine v_ldc2 (v := 31) C dX3_digest_85 k_288 ?_
  refine v_lmul C dX3_digest_88 ?_
  refine v_aload_n C 3 dX3_digest_89 rfl ?_
  refine v_gX C 0 (by decide) k_426 rfl dX3_digest_90 ?_
  refine v_iload_n C 2 dX3_digest_93 rfl ?_
  refine v_iload C 0 dX3_digest_94 rfl ?_
  refine go_I (run_VN C (c_X2_foggerNumber_4 (by decide) hc h12 in4_3) k_159 k_2 (List.mem_of_getElem? (i := 7) rfl) k_157 ks_3 dd_X2_foggerNumber ⟨Nat.le_of_ble_eq_true rfl, Nat.le_of_ble_eq_true rfl⟩ (rcT (by decide)) rfl (Nat.le_of_ble_eq_true rfl) dX3_digest_96 ⟨Nat.le_of_ble_eq_true rfl, Nat.le_of_ble_eq_true rfl⟩) ?_
  refine v_i2l C dX3_digest_99 ?_
  refine v_ladd C dX3_digest_100 ?_
  refine v_topl (fun y_35 ey_35 => ?_)
  replace ey_35 : y_35 = dg y_34 (fogN N F 0 c 3 4) := ey_35
  refine v_lstore_n (lv' := [(1, .long y_35), (4, .int 4), (3, .int 3), (0, .ref (rX P))]) C dX3_digest_101 rfl (by decide) rfl ?_
  refine v_iinc (b := 5) (lv' := [(4, .int 5), (1, .long y_35), (3, .int 3), (0, .ref (rX P))]) C 1 dX3_digest_102 rfl rfl (by decide) rfl ?_
  refine v_goto (tgt := 77) C dX3_digest_105 (by decide) ?_
  refine v_iload C 0 dX3_digest_77 rfl ?_
  refine v_bipush (v := 6) C dX3_digest_79 rfl ?_
  refine v_icmp_ge (tgt := 108) C dX3_digest_81 (by decide) (fun h9 => absurd h9 (by decide)) (fun _ => ?_)
  refine v_lload_n C 1 dX3_digest_84 rfl ?_
  refine v_ldc2 (v := 31) C dX3_digest_85 k_288 ?_
  refine v_lmul C dX3_digest_88 ?_
  refine v_aload_n C 3 dX3_digest_89 rfl ?_
  refine v_gX C 0 (by decide) k_426 rfl dX3_digest_90 ?_
  refine v_iload_n C 2 dX3_digest_93 rfl ?_
  refine v_iload C 0 dX3_digest_94 rfl ?_
  refine go_I (run_VN C (c_X2_foggerNumber_5 (by decide) hc h12 in4_3) k_159 k_2 (List.mem_of_getElem? (i := 7) rfl) k_157 ks_3 dd_X2_foggerNumber ⟨Nat.le_of_ble_eq_true rfl, Nat.le_of_ble_eq_true rfl⟩ (rcT (by decide)) rfl (Nat.le_of_ble_eq_true rfl) dX3_digest_96 ⟨Nat.le_of_ble_eq_true rfl, Nat.le_of_ble_eq_true rfl⟩) ?_
  refine v_i2l C dX3_digest_99 ?_
  refine v_ladd C dX3_digest_100 ?_
  refine v_topl (fun y_36 ey_36 => ?_)
  replace ey_36 : y_36 = dg y_35 (fogN N F 0 c 3 5) := ey_36
  refine v_lstore_n (lv' := [(1, .long y_36), (4, .int 5), (3, .int 3), (0, .ref (rX P))]) C dX3_digest_101 rfl (by decide) rfl ?_
  refine v_iinc (b := 6) (lv' := [(4, .int 6), (1, .long y_36), (3, .int 3), (0, .ref (rX P))]) C 1 dX3_digest_102 rfl rfl (by decide) rfl ?_
  refine v_goto (tgt := 77) C dX3_digest_105 (by decide) ?_
  refine v_iload C 0 dX3_digest_77 rfl ?_
  refine v_bipush (v := 6) C dX3_digest_79 rfl ?_
  refine v_icmp_ge (tgt := 108) C dX3_digest_81 (by decide) (fun _ => ?_) (fun h9 => absurd (by decide) h9)
  refine v_iinc (b := 4) (lv' := [(3, .int 4), (4, .int 6), (1, .long y_36), (0, .ref (rX P))]) C 2 dX3_digest_108 rfl rfl (by decide) rfl ?_
  refine v_goto (tgt := 69) C dX3_digest_111 (by decide) ?_
  refine v_iload_n C 0 dX3_digest_69 rfl ?_
  refine v_iconst (v := 4) C dX3_digest_70 rfl ?_
  refine v_icmp_ge (tgt := 114) C dX3_digest_71 (by decide) (fun _ => ?_) (fun h9 => absurd (by decide) h9)
  refine v_lload_n C 2 dX3_digest_114 rfl ?_
  exact v_lret C dX3_digest_115 rfl (by rw [ey_36 , ey_35 , ey_34 , ey_33 , ey_32 , ey_31 , ey_30 , ey_29 , ey_28 , ey_27 , ey_26 , ey_25 , ey_24 , ey_23 , ey_22 , ey_21 , ey_20 , ey_19 , ey_18 , ey_17 , ey_16 , ey_15 , ey_14 , ey_13, ed0, ey_11, ey_10, ey_9, ey_8, ey_7, ey_6, ey_5, ey_4, ey_3, ey_2, ey_1]; rfl)
end
section
/-! ROWS THAT MAKE CELLS -/
theorem wl_succ {o n : Nat} {f : Nat → va_E} : wl o (n + 1) f = wl o n f ++ [(o + n, f n)] := by
  unfold wl
  rw [List.range_succ, List.map_append]
  rfl
theorem wl_pus2 {o n : Nat} {f : Nat → va_E} {e : va_E} : wl o n f ++ [(o + n, e)] = wl o (n + 1) (va_up f n e) := by
  rw [wl_succ, va_up_self, wl_cong (o := o) (n := n) (f := va_up f n e) (g := f) (fun a ha => va_up_ne _ _ (by omega))]
section VMake
variable {p : Program} {l : Launch} {e : Env} {R : Room} {s : State} {m : MethodId} {args : Array Value} {below : List Frame} {meth : Method} {c : Code} {P : L5} {D : va_G} {Q : State → Prop} {nL n : Nat} {f : Nat → va_E} {k z pc : Nat} {lv : List (Nat × Value)} {st : List Value} {cc : ByteArray} {ret : Option FieldType} {own : String}
theorem c_cong {f' : Nat → va_E} (h : ∀ a, a < n → f a = f' a) (kk : V p l e R s m args below meth c P D Q nL n True f' k z pc lv st) : V p l e R s m args below meth c P D Q nL n True f k z pc lv st := by
  intro H locs ls hP hz hS hl
  rw [wl_cong h] at hP
  exact kk H locs ls hP hz hS hl
theorem c_new (C : Cx p l s m args meth c P D cc nL ret own) {ci index : Nat} {r : vw_C} (hc : vwCl[ci]? = some r) (hin : ∀ w ∈ u_ws r.1 r.2.1 r.2.2, w ∈ gtb) (ty : Nat → FieldType) (hty : ∀ k, k < r.2.2 → parseFieldDescriptor (r.2.1 k).2.2.1 = some (ty k)) (hcl : Cond.classLink own index r.1 ∈ gtb) (hinst : Cond.instantiable r.1 r.2.2 ∈ gtb) (hini : Cond.initialized r.1 ∈ gtb) {fs : List Value} (hfs : ∀ j, j < r.2.2 → defaultValue (ty j) = vp_V fs j) (hcells : k + 1 ≤ R.cells) (hslots : z + r.2.2 ≤ R.slots) (hdg : decode cc pc = .ok (.new index, 3))
    (kk : V p l e R s m args below meth c P D Q nL (n + 1) True (va_up f n (.inr (ci, fs))) (k + 1) (z + r.2.2) (pc + 3) lv (.ref (P.1 + n) :: st)) : V p l e R s m args below meth c P D Q nL n True f k z pc lv st := by
  obtain ⟨C0, T0, N0⟩ := r
  intro H locs ls hP hz hS hl
  obtain ⟨hx, hb, hml, hown, hts, hr, hlk, hK, ho, hST⟩ := C
  have hsz := hz trivial
  have hKn := hK.1 ci _ hc
  refine W.newcK hx hb hown (hts _ hcl) (hts _ hinst) (hts _ hini) rfl hdg hcells hslots hKn.2.1 hsz fun H1 kC hkC e1 z1 o1 => ?_
  have hk : ∀ (k : Nat) (x : Nat × va_E), (wl P.1 n f)[k]? = some x → H1[x.1]? = H[x.1]? := fun k x hx => o1 x.1 (by rw [← hsz]; exact (hP k x hx).lt)
  have hS0 := hS.1
  refine kk H1 locs ls ?_ (fun _ => by rw [z1]; rfl) ⟨by omega, fun x h1 h2 => (o1 x (by omega)).trans (hS.2.1 x h1 h2), hS.2.2⟩ hl
  rw [← wl_pus2]
  refine (hP.kept hk).app (fun k x hx => ?_)
  have hz0 : k < 1 := (List.getElem?_eq_some_iff.mp hx).1
  rw [show k = 0 by omega] at hx
  cases hx
  exact ⟨_, hc, (u_born ty hts hin hKn hkC e1 hty).to hfs⟩
theorem c_newa (C : Cx p l s m args meth c P D cc nL ret own) {atype : ArrayType} {ty : FieldType} {a0 : vp_A} {N' t0 : Nat} {cA0 : ClassId} {i : Int32} (harr : Cond.arrayClass (newarray.typeOf atype) ∈ gtb) (hty : newarray.typeOf atype = ty) (ht : (tyP P)[t0]? = some (cA0, ty)) (hra : va_RA s cA0 ty → s.vm.findClass ("[" ++ ty.toString) = some cA0) (ha : ∀ cA : ClassId, vp_cell cA a0 = arrV cA N' (fun _ => defaultValue ty)) (hn : ¬ i < 0) (hN : i.toNatClampNeg = N') (hbytes : N' * componentBytes ty ≤ 536870912) (hcells : k + 1 ≤ R.cells) (hslots : z + N' ≤ R.slots) (hdg : decode cc pc = .ok (.newarray atype, 2))
    (kk : V p l e R s m args below meth c P D Q nL (n + 1) True (va_up f n (.inl (cA0, a0))) (k + 1) (z + N') (pc + 2) lv (.ref (P.1 + n) :: st)) : V p l e R s m args below meth c P D Q nL n True f k z pc lv (.int i :: st) := by
  subst hty
  intro H locs ls hP hz hS hl
  obtain ⟨hx, hb, hml, hown, hts, hr, hlk, hK, ho, hST⟩ := C
  have hsz := hz trivial
  refine va_newaK hx hb (hts _ harr) rfl hdg rfl hn hN hbytes hcells hslots hsz fun H1 cA e1 z1 o1 hAr hNm => ?_
  have hcA : cA = cA0 := Option.some.inj (hNm.symm.trans (hra (hK.2 t0 _ ht).2))
  subst hcA
  have hk : ∀ (k : Nat) (x : Nat × va_E), (wl P.1 n f)[k]? = some x → H1[x.1]? = H[x.1]? := fun k x hx => o1 x.1 (by rw [← hsz]; exact (hP k x hx).lt)
  have hS0 := hS.1
  refine kk H1 locs ls ?_ (fun _ => by rw [z1]; rfl) ⟨by omega, fun x h1 h2 => (o1 x (by omega)).trans (hS.2.1 x h1 h2), hS.2.2⟩ hl
  rw [← wl_pus2]
  refine (hP.kept hk).app (fun k x hx => ?_)
  have hz0 : k < 1 := (List.getElem?_eq_some_iff.mp hx).1
  rw [show k = 0 by omega] at hx
  cases hx
  show H1[P.1 + n]? = some (vp_cell _ _)
  rw [ha]
  exact e1
theorem c_newq (C : Cx p l s m args meth c P D cc nL ret own) {Cn : String} {index N' t0 : Nat} {cA0 : ClassId} {i : Int32} (hcl : Cond.classLink own index Cn ∈ gtb) (hover : va_AO Cn s) (ht : (tyP P)[t0]? = some (cA0, .object Cn)) (hn : ¬ i < 0) (hN : i.toNatClampNeg = N') (hbytes : N' * 4 ≤ 536870912) (hcells : k + 1 ≤ R.cells) (hslots : z + N' ≤ R.slots) (hdg : decode cc pc = .ok (.anewarray index, 3))
    (kk : V p l e R s m args below meth c P D Q nL (n + 1) True (va_up f n (.inl (cA0, N', .inr (.inr (.inr (.inr (fun _ => none))))))) (k + 1) (z + N') (pc + 3) lv (.ref (P.1 + n) :: st)) : V p l e R s m args below meth c P D Q nL n True f k z pc lv (.int i :: st) := by
  subst hN
  intro H locs ls hP hz hS hl
  obtain ⟨hx, hb, hml, hown, hts, hr, hlk, hK, ho, hST⟩ := C
  have hsz := hz trivial
  refine W.anew hx hb hown (hts _ hcl) (va_AO.use hover) rfl hdg rfl hn hbytes hcells hslots fun cA kA comp f1 f2 f3 f4 => ?_
  obtain ⟨-, kA0, comp0, -, -, -, g4⟩ := hK.2 t0 _ ht
  have hcA : cA = cA0 := Option.some.inj (f1.symm.trans g4)
  subst hcA
  generalize hH1 : H.push ({ cls := cA, slots := Array.replicate i.toNatClampNeg .null, vm := .none } : Cell) = H1
  have z1 : H1.size = H.size + 1 := by rw [← hH1, Array.size_push]
  have e1 : H1[H.size]? = some (arrV cA i.toNatClampNeg (fun _ => .null)) := by rw [← hH1, Array.getElem?_push_size, ← arrV_new]
  have o1 : ∀ q : Nat, q < H.size → H1[q]? = H[q]? := fun q hq => by rw [← hH1, Array.getElem?_push, if_neg (Nat.ne_of_lt hq)]
  have hk : ∀ (k : Nat) (x : Nat × va_E), (wl P.1 n f)[k]? = some x → H1[x.1]? = H[x.1]? := fun k x hx => o1 x.1 ((hP k x hx).lt)
  have hS0 := hS.1
  rw [hsz] at e1 ⊢
  refine kk H1 locs ls ?_ (fun _ => by rw [z1, hsz]; rfl) ⟨by omega, fun x h1 h2 => (o1 x (by omega)).trans (hS.2.1 x h1 h2), hS.2.2⟩ hl
  rw [← wl_pus2]
  refine (hP.kept hk).app (fun k x hx => ?_)
  have hz0 : k < 1 := (List.getElem?_eq_some_iff.mp hx).1
  rw [show k = 0 by omega] at hx
  cases hx
  exact e1
theorem c_get (C : Cx p l s m args meth c P D cc nL ret own) (q0 : Nat) (hq0 : q0 < n) {ci index : Nat} {r : vw_C} {fs : List Value} (hf : f q0 = .inr (ci, fs)) (hc : vwCl[ci]? = some r) (hin : ∀ w ∈ u_ws r.1 r.2.1 r.2.2, w ∈ gtb) (kf : Nat) (hk : kf < r.2.2) (hlink : Cond.fieldLink own index (r.2.1 kf).1 (r.2.1 kf).2.1 (r.2.1 kf).2.2.1 ∈ gtb) {u : Value} (hv : fs[kf]? = some u) (hdg : decode cc pc = .ok (.getfield index, 3)) (kk : V p l e R s m args below meth c P D Q nL n True f k z (pc + 3) lv (u :: st)) : V p l e R s m args below meth c P D Q nL n True f k z pc lv (.ref (P.1 + q0) :: st) := by
  intro H locs ls hP hz hS hl
  obtain ⟨hx, hb, hml, hown, hts, hr, hlk, hK, ho, hST⟩ := C
  exact va_get hx hb hts hin hown hK hP q0 (by rw [wl_get hq0, hf]) hc kf hk (hts _ hlink) (fun _ h9 => h9) hv hdg (kk H locs ls hP hz hS hl)
theorem c_put (C : Cx p l s m args meth c P D cc nL ret own) (q0 : Nat) (hq0 : q0 < n) {ci index : Nat} {r : vw_C} {fs : List Value} (hf : f q0 = .inr (ci, fs)) (hc : vwCl[ci]? = some r) (hin : ∀ w ∈ u_ws r.1 r.2.1 r.2.2, w ∈ gtb) (ty0 : Nat → FieldType) (hty : ∀ k, k < r.2.2 → parseFieldDescriptor (r.2.1 k).2.2.1 = some (ty0 k)) (hnm : ∀ a, a < r.2.2 → ∀ b, b < r.2.2 → a ≠ b → (r.2.1 a).2.1 ≠ (r.2.1 b).2.1) (kf : Nat) (hk : kf < r.2.2) (hlink : Cond.fieldLink own index (r.2.1 kf).1 (r.2.1 kf).2.1 (r.2.1 kf).2.2.1 ∈ gtb) (hni : meth.name = "<init>") (hdecl : (r.2.1 kf).1 = own) {v : Value} (hn : narrow (ty0 kf) v = v) (hfit : fits (ty0 kf) v = true) (hlen : kf < fs.length) (hdg : decode cc pc = .ok (.putfield index, 3))
    (kk : V p l e R s m args below meth c P D Q nL n True (va_up f q0 (.inr (ci, fs.set kf v))) k z (pc + 3) lv st) : V p l e R s m args below meth c P D Q nL n True f k z pc lv (v :: .ref (P.1 + q0) :: st) := by
  obtain ⟨C0, T0, N0⟩ := r
  intro H locs ls hP hz hS0 hl
  obtain ⟨hx, hb, hml, hown, hts, hr, hlk, hK, ho, hST⟩ := C
  have he : (wl P.1 n f)[q0]? = some (P.1 + q0, .inr (ci, fs)) := by rw [wl_get hq0, hf]
  have hap := va_apart (own := own) hts hin ty0 hty hnm hK hc
  obtain ⟨r9, h1, cell, q1, q2, q3, q4⟩ := hP q0 _ he
  have hr9 : r9 = (C0, T0, N0) := Option.some.inj (h1.symm.trans hc)
  subst hr9
  obtain ⟨hS, hfc, kC, hkC, hkind⟩ := hK.1 ci _ hc
  obtain ⟨cf, kf', fi, f9, hi, hsl⟩ := hS kf hk
  have hlay := hts _ (hin _ (u_in_lay hk))
  have hst := (u_facts hfc hkC (u_lays hts hin hk) hi).1
  have fin : ∀ H' : Heap, H'[P.1 + q0]? = some (cell.setSlot f9.slot v) → H'.size = H.size → (∀ q, q ≠ P.1 + q0 → H'[q]? = H[q]?) → W p l e R s m args below meth c H' (locs ++ [⟨P.1 + q0, f9.slot⟩]) k z Q (F0 m (pc + 3) ls st) := by
    intro H' e1 e2 e3
    rw [hsl] at e1
    refine kk H' _ ls ?_ (fun h9 => by rw [e2]; exact hz h9) (hS0.put e2 e3 (Nat.le_add_right _ _)) hl
    rw [← wl_set hq0]
    exact hP.set (wl_D _ _ _) he ⟨_, hc, t_OB.to (V := updV (vp_V fs) kf v) ⟨_, e1, q2, q3, t_set q4 hap hk v⟩ (fun j _ => vp_updV_set hlen v j)⟩ e3
  unfold u_lay at hlay
  by_cases hfin : (T0 kf).2.2.2 = true
  · rw [if_pos hfin] at hlay
    have hcf : m.cls = cf := by
      obtain ⟨_, _, c', _, _, _, -, -, hf', -, -, -, hown2, -⟩ := Cond.laysFinal_spec hlay
      have e1 : c' = cf := by have := hi.symm.trans hf'; simp at this; exact this.1.symm
      rw [show (T0 kf).1 = own from hdecl] at hown2
      rw [← e1]; exact Option.some.inj (hown.symm.trans hown2)
    have h6 := u_fits hfc hkC hkind (Or.inr hlay) hi (hty kf hk) hn hfit
    exact W.putFinK hx hb hown (hts _ hlink) hi hst hcf hni (by rw [q2]; exact h6) q1 q3 (by rw [hsl]; exact k2_hasslot (q4 kf hk)) rfl rfl hdg fin
  · rw [if_neg hfin] at hlay
    have h6 := u_store hfc hkC hkind hlay hi (hty kf hk) hn hfit
    exact W.putK hx hb (f := f9) ⟨hown, hts _ hlink, ⟨_, _, _, hi⟩, hst⟩ (by rw [q2]; exact h6) q1 q3 (by rw [hsl]; exact k2_hasslot (q4 kf hk)) rfl rfl hdg fin
theorem c_obj (C : Cx p l s m args meth c P D cc nL ret own) {a index : Nat} (hlink : Cond.methodLink own index objectInit ∈ gtb) (hinst : Cond.instanceMethod objectInit ∈ gtb) (hcode : Cond.code objectInit ⟨#[0xb1]⟩ 1 none ∈ gtb) (hR : 1 ≤ R.frames) (hlo : (st.map fun v => v.category).sum + 12 ≤ R.locals) (hdg : decode cc pc = .ok (.invokespecial index, 3)) (kk : V p l e R s m args below meth c P D Q nL n True f k z (pc + 3) lv st) : V p l e R s m args below meth c P D Q nL n True f k z pc lv (.ref a :: st) := by
  intro H locs ls hP hz hS hl
  obtain ⟨hx, hb, hml, hown, hts, hr, hlk, hK, ho, hST⟩ := C
  exact W.objInit hx hb hown (hts _ hlink) (hts _ hinst) (hts _ hcode) rfl (by rw [hml]; exact hl.1) rfl hdg hR (by show 2 * 0 + _ + 12 ≤ _; omega) (kk H locs ls hP hz hS hl)
theorem c_iast (C : Cx p l s m args meth c P D cc nL ret own) (q0 : Nat) (hq0 : q0 < n) {len : Nat} {g : Nat → Int32} (hf : f q0 = .inl (P.2.1, len, .inl g)) {i a : Int32} (hin : vp_in i len) (hdg : decode cc pc = .ok (.iastore, 1)) (kk : V p l e R s m args below meth c P D Q nL n True (va_up f q0 (.inl (P.2.1, len, .inl (upd g i.toNatClampNeg a)))) k z (pc + 1) lv st) : V p l e R s m args below meth c P D Q nL n True f k z pc lv (.int a :: .int i :: .ref (P.1 + q0) :: st) := by
  intro H locs ls hP hz hS hl
  obtain ⟨hx, hb, hml, hown, hts, hr, hlk, hK, ho, hST⟩ := C
  have he : (wl P.1 n f)[q0]? = some (P.1 + q0, .inl (P.2.1, len, .inl g)) := by rw [wl_get hq0, hf]
  refine W.iast hx hb (hP q0 _ he) ((hK.2 0 _ rfl).1 len (fun j => .int (g j))) (fun q => by cases q) (by show ¬ (i < 0 ∨ (arrV _ _ _).slots.size ≤ _); rw [arrV_size]; exact hin) rfl rfl hdg fun H1 e1 z1 oq => ?_
  refine kk H1 _ ls ?_ (fun h9 => by rw [z1]; exact hz h9) (hS.put z1 oq (Nat.le_add_right _ _)) hl
  rw [← wl_set hq0]
  refine hP.set (wl_D _ _ _) he ?_ oq
  show H1[P.1 + q0]? = some (vp_cell _ _)
  rw [e1, vp_cell_i, vp_cell_i, arrV_store]
  congr 2
  funext q
  by_cases hq : q = i.toNatClampNeg
  · subst hq
    simp [updV, upd]
  · simp [updV, upd, hq]
theorem c_aast (C : Cx p l s m args meth c P D cc nL ret own) (q0 qv : Nat) (hq0 : q0 < n) (hqv : qv < n) {ci len t0 : Nat} {r : vw_C} {cA : ClassId} {vs : List Value} {g : Nat → Option Nat} (hf : f q0 = .inl (cA, len, .inr (.inr (.inr (.inr g))))) (ht : (tyP P)[t0]? = some (cA, .object r.1)) (hv : f qv = .inr (ci, vs)) (hc : vwCl[ci]? = some r) {i : Int32} (hin : vp_in i len) (hdg : decode cc pc = .ok (.aastore, 1)) (kk : V p l e R s m args below meth c P D Q nL n True (va_up f q0 (.inl (cA, len, .inr (.inr (.inr (.inr (va_up g i.toNatClampNeg (some (P.1 + qv))))))))) k z (pc + 1) lv st) : V p l e R s m args below meth c P D Q nL n True f k z pc lv (.ref (P.1 + qv) :: .int i :: .ref (P.1 + q0) :: st) := by
  intro H locs ls hP hz hS hl
  obtain ⟨hx, hb, hml, hown, hts, hr, hlk, hK, ho, hST⟩ := C
  have he : (wl P.1 n f)[q0]? = some (P.1 + q0, .inl (cA, len, .inr (.inr (.inr (.inr g))))) := by rw [wl_get hq0, hf]
  have hev : (wl P.1 n f)[qv]? = some (P.1 + qv, .inr (ci, vs)) := by rw [wl_get hqv, hv]
  have hlt : i.toNatClampNeg < len := Nat.not_le.mp fun q => hin (Or.inr q)
  have h0 : ¬ i < 0 := fun q => hin (Or.inl q)
  obtain ⟨r', hr', cellV, g1, g2, g3, -⟩ := hP qv _ hev
  have hcls := (hK.1 ci r hc).2
  obtain ⟨kA, comp, k1, k2, k3, -⟩ := (hK.2 t0 _ ht).2
  have hcomp : comp = D.1 ci := Option.some.inj (k3.symm.trans hcls.1)
  subst hcomp
  obtain ⟨kC, hkC, -⟩ := hcls.2
  refine W.aast hx hb (hP q0 _ he) (fun q h => by cases h) (fun h => by cases h) k1 k2 rfl hkC ⟨h0, by show _ < (arrV _ _ _).slots.size; rw [arrV_size]; exact hlt⟩ g1 (fun q h => by rw [g3] at h; cases h) (by rw [g2]; exact hkC) (by rw [g2]; exact va_assign hcls) rfl rfl hdg fun H1 e1 z1 oq => ?_
  refine kk H1 _ ls ?_ (fun h9 => by rw [z1]; exact hz h9) (hS.put z1 oq (Nat.le_add_right _ _)) hl
  rw [← wl_set hq0]
  refine hP.set (wl_D _ _ _) he ?_ oq
  show H1[P.1 + q0]? = some (vp_cell _ _)
  rw [e1, vp_cell_q, vp_cell_q, arrV_store]
  congr 2
  funext q
  by_cases hq : q = i.toNatClampNeg
  · subst hq
    simp [updV, va_up, va_rf]
  · simp [updV, va_up, hq]
end VMake
end
section
/-! THE CLASS'S CONSTRUCTORS -/
theorem va_up_two {α : Type} (f : Nat → α) (k : Nat) (a b : α) : va_up (va_up f k a) k b = va_up f k b := by
  funext i
  by_cases h : i = k
  · rw [h, va_up_self, va_up_self]
  · rw [va_up_ne _ _ h, va_up_ne _ _ h, va_up_ne _ _ h]
theorem va_up_swap {α : Type} (f : Nat → α) {k j : Nat} (a b : α) (h : k ≠ j) : va_up (va_up f k a) j b = va_up (va_up f j b) k a := by
  funext i
  by_cases h1 : i = k
  · rw [h1, va_up_ne _ _ h, va_up_self, va_up_self]
  · by_cases h2 : i = j
    · rw [h2, va_up_self, va_up_ne _ _ (Ne.symm h), va_up_self]
    · rw [va_up_ne _ _ h2, va_up_ne _ _ h1, va_up_ne _ _ h1, va_up_ne _ _ h2]
theorem mk_MetI {l : Launch} {y : MethodName} {b : ByteArray} {nL : Nat} {rt : Option FieldType} {h mc ms : Nat} {P : L5} {D : va_G} {n : Nat} {x : Prop} {f : Nat → va_E} {av : List Value} {Qc : Array Value → State → Outcome → State → Prop} (hy : plainName y.cls = true) (hni : y.name = "<init>") (lv : List (Nat × Value)) (hlv : lv_args 0 av = lv) (hlen : (lg_sl av).length ≤ nL)
    (body : ∀ (p : Program) (e : Env) (s : State) (m : MethodId) (args : Array Value) (below : List Frame) (meth : Method) (c : Code), Cx p l s m args meth c P D b nL rt y.cls → meth.name = "<init>" → V p l e (rmO h mc ms) s m args below meth c P D (MQ below Qc args s mc ms (aO P)) nL n x f 0 0 0 lv []) :
    Met l y (.code y b nL rt :: gtb) (rmO h mc ms) (va_Pc av (PreI P D n x f)) Qc mc ms (aO P) := by
  refine Met.ofW (cc := b) (maxL := nL) (ret := rt) hy rfl ?_
  intro p e s m args below meth c s₁ B hml hv
  obtain ⟨rfl, hP, hK, ho, hz, hST⟩ := hv
  have hts := atoms_spec (ws := (.code y b nL rt :: gtb)) B.pre
  have hown : s.vm.findClass y.cls = some m.cls := findClass_of_methodNamed B.named
  have C : Cx p l s m av.toArray meth c P D b nL rt y.cls := ⟨B.exec, B.bytes, hml, hown, fun w hw => hts w (List.mem_cons_of_mem _ hw), B.returns, B.notSynchronized, hK, ho, hST⟩
  have hl := lv_entry av hlen
  rw [lg_entry_eq]
  rw [hlv] at hl
  exact body p e s m av.toArray below meth c C ((name_of_methodNamed B.named B.method).1.trans hni) s.heap [] _ hP hz va_S.rf hl
section VRunI
variable {p : Program} {l : Launch} {e : Env} {R : Room} {s : State} {m : MethodId} {args : Array Value} {below : List Frame} {meth : Method} {c : Code} {P : L5} {D : va_G} {Q : State → Prop} {nL n : Nat} {x : Prop} {f : Nat → va_E} {k z pc : Nat} {lv : List (Nat × Value)} {st : List Value} {cc : ByteArray} {ret : Option FieldType} {own : String}
theorem run_I (C : Cx p l s m args meth c P D cc nL ret own) {y : MethodName} {b : ByteArray} {nb : Nat} {h mc ms : Nat} {As rest : List Value} {a index : Nat} {Qc : Array Value → State → Outcome → State → Prop} (hM : Met l y (.code y b nb none :: gtb) (rmO h mc ms) (va_Pc (.ref a :: As) (PreI P D n x f)) Qc mc ms (aO P)) (hk : Cond.code y b nb none ∈ gtb) (hini : Cond.initialized y.cls ∈ gtb) (hl9 : Cond.methodLink own index y ∈ gtb) (hin : Cond.instanceMethod y ∈ gtb) (hy1 : y.name = "<init>") (hd : y.cls ≠ "java/lang/invoke/MethodHandle" ∧ y.cls ≠ "java/lang/invoke/VarHandle" ∧ (parseMethodDescriptor y.desc).map (fun d => d.parameters.length) = some As.length) (hR : h + 1 ≤ R.frames ∧ 8 + (nb + 11) + 28 * h ≤ R.locals) (hst : st = As.reverse ++ .ref a :: rest) (hW : (rest.map fun v => v.category).sum ≤ 8) (hdg : decode cc pc = .ok (.invokespecial index, 3)) (hf : k + mc ≤ R.cells ∧ z + ms ≤ R.slots) : ∀ (H : Heap) (locs : List Loc) (ls : Array Slot), va_P D vwCl (wl P.1 n f) H → (x → H.size = P.1 + n) → va_S (fun q => P.1 ≤ q) s.heap H locs → lv_has ls nL lv → va_Run p l e R s m args below meth c H locs k z mc ms (F0 m pc ls st) rest (Qc (Value.ref a :: As).toArray) (aO P) := by
  intro H locs ls hP hz hS hl
  obtain ⟨hx, hb, hml, hown, hts, hr, hlk, hK, ho, hST⟩ := id C
  have hG := gtb_in (w0 := .code y b nb none) hk
  have hts' : ∀ w ∈ (.code y b nb none :: gtb : List Cond), w.before args s = true := fun w hw => (List.mem_cons.mp hw).elim (fun e9 => by rw [e9]; exact hts _ hk) (hts w)
  exact va_runI (Ts := (.code y b nb none :: gtb)) ⟨hx, hb, hml, hown, hts'⟩ hM ⟨callB_of As.length hts' hG rfl rfl rfl (hts _ hini) (hts _ hl9) hd hR, hy1, hts _ hin⟩ ⟨PreI.blind, pre_of C hP hz hS⟩ rfl rfl hl.1 hst (lv_room hW) hdg hf
end VRunI
/-- fresh ones -/
def frN : Nat → Int32 := upd (upd (fun _ => 0) 6 10) 7 5
def frF : Nat → Int32 := upd (upd (fun _ => 0) 0 20) 1 60
def bkN : List Value := [.int 0, .int 0, .int 0, .int 0, .int 0, .int 0, .int 0, .int 0, .int 0, .int 0, .int 0, .int 0, .null, .null]
def bkF : List Value := [.int 0, .int 0, .int 0, .int 0, .int 0, .int 0]
def bkT : List Value := [.int 0, .int 0, .null, .null]
def bkX : List Value := [.null, .null, .null]
def frNv (P : L5) (b : Nat) : List Value := [.int 0, .int 0, .int 0, .int 0, .int 0, .int 0, .int 10, .int 5, .int 0, .int 0, .int 0, .int 0, .ref (P.1 + (b + 1)), .ref (P.1 + (b + 2))]
def frFv : List Value := [.int 20, .int 60, .int 0, .int 0, .int 0, .int 0]
def z4 (P : L5) : va_E := .inl (P.2.1, 4, .inl (fun _ => 0))
def niW (P : L5) (f : Nat → va_E) (b : Nat) : Nat → va_E := va_up (va_up (va_up f b (.inr (1, frNv P b))) (b + 1) (z4 P)) (b + 2) (z4 P)
set_option maxHeartbeats 4000000 in
theorem c_X0_init {l : Launch} {P : L5} {D : va_G} {n b : Nat} {f : Nat → va_E} (hb : b < n) (hf : f b = .inr (0, bkF)) : CtV l yX0_init cX0_init 1 1 0 0 P D n n True f (va_up f b (.inr (0, frFv))) [.ref (P.1 + b)] := by
  refine mk_MetI pl_X0 rfl [(0, .ref (P.1 + b))] rfl (Nat.le_of_ble_eq_true rfl) ?_
  intro pg en sg mg ag bg mt cd C hni
  refine v_aload_n C 0 dX0_init_0 rfl ?_
  refine c_obj C k_382 k_50 k_51 (Nat.le_of_ble_eq_true rfl) (Nat.le_of_ble_eq_true rfl) dX0_init_1 ?_
  refine v_aload_n C 0 dX0_init_4 rfl ?_
  refine v_bipush (v := 20) C dX0_init_5 rfl ?_
  refine c_put C b hb (r := (RX0, TX0, 6)) hf rfl inX0g tyX0 tyX0_ok nmX0 0 (by decide) k_383 hni rfl rfl rfl (by decide) dX0_init_7 ?_
  refine v_aload_n C 0 dX0_init_10 rfl ?_
  refine v_bipush (v := 60) C dX0_init_11 rfl ?_
  refine c_put C b hb (r := (RX0, TX0, 6)) (va_up_self _ _ _) rfl inX0g tyX0 tyX0_ok nmX0 1 (by decide) k_386 hni rfl rfl rfl (by decide) dX0_init_13 ?_
  exact v_vret C dX0_init_16 (by rw [va_up_two]; rfl)
set_option maxHeartbeats 4000000 in
theorem c_X1_init {l : Launch} {P : L5} {D : va_G} {b : Nat} {f : Nat → va_E} (hf : f b = .inr (1, bkN)) : CtV l yX1_init cX1_init 1 1 2 8 P D (b + 1) (b + 3) True f (niW P f b) [.ref (P.1 + b)] := by
  refine mk_MetI pl_X1 rfl [(0, .ref (P.1 + b))] rfl (Nat.le_of_ble_eq_true rfl) ?_
  intro pg en sg mg ag bg mt cd C hni
  refine v_aload_n C 0 dX1_init_0 rfl ?_
  refine c_obj C k_321 k_50 k_51 (Nat.le_of_ble_eq_true rfl) (Nat.le_of_ble_eq_true rfl) dX1_init_1 ?_
  refine v_aload_n C 0 dX1_init_4 rfl ?_
  refine v_bipush (v := 10) C dX1_init_5 rfl ?_
  refine c_put C b (by omega) (r := (RX1, TX1, 14)) hf rfl inX1g tyX1 tyX1_ok nmX1 6 (by decide) k_331 hni rfl rfl rfl (by decide) dX1_init_7 ?_
  refine v_aload_n C 0 dX1_init_10 rfl ?_
  refine v_iconst (v := 5) C dX1_init_11 rfl ?_
  refine c_put C b (by omega) (r := (RX1, TX1, 14)) (va_up_self _ _ _) rfl inX1g tyX1 tyX1_ok nmX1 7 (by decide) k_333 hni rfl rfl rfl (by decide) dX1_init_12 ?_
  refine v_aload_n C 0 dX1_init_15 rfl ?_
  refine v_iconst (v := 4) C dX1_init_16 rfl ?_
  refine c_newa (atype := .int) (ty := .int) (t0 := 0) (a0 := (4, .inl (fun _ => 0))) (N' := 4) C k_376 rfl rfl (fun h => h) (fun _ => rfl) (by decide) (by decide) (by decide) (Nat.le_of_ble_eq_true rfl) (Nat.le_of_ble_eq_true rfl) dX1_init_17 ?_
  refine c_put C b (by omega) (r := (RX1, TX1, 14)) ((va_up_ne _ _ (by omega)).trans (va_up_self _ _ _)) rfl inX1g tyX1 tyX1_ok nmX1 12 (by decide) k_342 hni rfl rfl rfl (Nat.le_of_ble_eq_true rfl) dX1_init_19 ?_
  refine v_aload_n C 0 dX1_init_22 rfl ?_
  refine v_iconst (v := 4) C dX1_init_23 rfl ?_
  refine c_newa (atype := .int) (ty := .int) (t0 := 0) (a0 := (4, .inl (fun _ => 0))) (N' := 4) C k_376 rfl rfl (fun h => h) (fun _ => rfl) (by decide) (by decide) (by decide) (Nat.le_of_ble_eq_true rfl) (Nat.le_of_ble_eq_true rfl) dX1_init_24 ?_
  refine c_put C b (by omega) (r := (RX1, TX1, 14)) ((va_up_ne _ _ (by omega)).trans (va_up_self _ _ _)) rfl inX1g tyX1 tyX1_ok nmX1 13 (by decide) k_344 hni rfl rfl rfl (Nat.le_of_ble_eq_true rfl) dX1_init_26 ?_
  refine c_cong (f' := niW P f b) (fun a ha => ?_) (v_vret C dX1_init_29 rfl)
  by_cases h0 : a = b
  · subst h0
    rw [va_up_self]
    unfold niW
    rw [va_up_ne _ _ (by omega), va_up_ne _ _ (by omega), va_up_self]
    rfl
  · by_cases h1 : a = b + 1
    · subst h1
      unfold niW
      rw [va_up_ne _ _ (by omega), va_up_ne _ _ (by omega), va_up_ne _ _ (by omega), va_up_self, va_up_ne _ _ (by omega), va_up_self]
      rfl
    · by_cases h2 : a = b + 2
      · subst h2
        unfold niW
        rw [va_up_ne _ _ (by omega), va_up_self, va_up_self]
        rfl
      · unfold niW
        rw [va_up_ne _ _ h0, va_up_ne _ _ h2, va_up_ne _ _ h0, va_up_ne _ _ h1, va_up_ne _ _ h0, va_up_ne _ _ h0, va_up_ne _ _ h2, va_up_ne _ _ h1, va_up_ne _ _ h0]
end
section
/-! THE CONSTRUCTORS OF TRADE AND NAILRODS -/
theorem arrV_cong {cI : ClassId} {N : Nat} {f g : Nat → Value} (h : ∀ j, j < N → f j = g j) : arrV cI N f = arrV cI N g := by
  have e : (fun j : Fin N => f j.val) = (fun j : Fin N => g j.val) := funext fun j => h j.val j.isLt
  show ({ cls := cI, slots := Array.ofFn (n := N) fun j => f j.val, vm := .none } : Cell) = _
  rw [e]
  rfl
section VCell
variable {p : Program} {l : Launch} {e : Env} {R : Room} {s : State} {m : MethodId} {args : Array Value} {below : List Frame} {meth : Method} {c : Code} {P : L5} {D : va_G} {Q : State → Prop} {nL n : Nat} {f : Nat → va_E} {k z pc : Nat} {lv : List (Nat × Value)} {st : List Value} {x : Prop}
theorem c_cell (q0 : Nat) (hq0 : q0 < n) {cI : ClassId} {a1 a2 : vp_A} (hf : f q0 = .inl (cI, a1)) (he : vp_cell cI a1 = vp_cell cI a2) (kk : V p l e R s m args below meth c P D Q nL n x (va_up f q0 (.inl (cI, a2))) k z pc lv st) : V p l e R s m args below meth c P D Q nL n x f k z pc lv st := by
  intro H locs ls hP hz hS hl
  refine kk H locs ls ?_ hz hS hl
  have h9 : (wl P.1 n f)[q0]? = some (P.1 + q0, .inl (cI, a1)) := by rw [wl_get hq0, hf]
  rw [← wl_set hq0]
  refine hP.set (wl_D _ _ _) h9 ?_ (fun _ _ => rfl)
  show H[P.1 + q0]? = some (vp_cell _ _)
  rw [← he]
  exact hP q0 _ h9
end VCell
theorem bkN_ok : ∀ j, j < 14 → defaultValue (tyX1 j) = vp_V bkN j := by
  intro j hj
  rcases (show j = 0 ∨ j = 1 ∨ j = 2 ∨ j = 3 ∨ j = 4 ∨ j = 5 ∨ j = 6 ∨ j = 7 ∨ j = 8 ∨ j = 9 ∨ j = 10 ∨ j = 11 ∨ j = 12 ∨ j = 13 by omega) with rfl | rfl | rfl | rfl | rfl | rfl | rfl | rfl | rfl | rfl | rfl | rfl | rfl | rfl <;> rfl
theorem bkF_ok : ∀ j, j < 6 → defaultValue (tyX0 j) = vp_V bkF j := by
  intro j hj
  rcases (show j = 0 ∨ j = 1 ∨ j = 2 ∨ j = 3 ∨ j = 4 ∨ j = 5 by omega) with rfl | rfl | rfl | rfl | rfl | rfl <;> rfl
theorem bkT_ok : ∀ j, j < 4 → defaultValue (tyX2 j) = vp_V bkT j := by
  intro j hj
  rcases (show j = 0 ∨ j = 1 ∨ j = 2 ∨ j = 3 by omega) with rfl | rfl | rfl | rfl <;> rfl
theorem bkX_ok : ∀ j, j < 3 → defaultValue (tyX3 j) = vp_V bkX j := by
  intro j hj
  rcases (show j = 0 ∨ j = 1 ∨ j = 2 by omega) with rfl | rfl | rfl <;> rfl
/-- fresh: what the cells hold behind the constructors -/
def cwF0 (P : L5) (K : Nat → Int32) (A : Nat → Nat → Int32) (w : Int64) : Nat → va_E := cw P (fun _ => frN) (fun _ => frF) (fun _ _ => 0) K A w
def bT (t : Nat) : Nat := 1 + 43 * t
def tw (f g : Nat → va_E) (B : Nat) (ob nr fr : va_E) : Nat → va_E := fun a => if a < B then f a else if a = B then ob else if a = B + 1 then nr else if a = B + 38 then fr else g a
theorem tw_0 {f g : Nat → va_E} {B : Nat} {ob nr fr : va_E} : tw f g B ob nr fr B = ob := by
  unfold tw
  rw [if_neg (by omega), if_pos rfl]
theorem tw_1 {f g : Nat → va_E} {B : Nat} {ob nr fr : va_E} : tw f g B ob nr fr (B + 1) = nr := by
  unfold tw
  rw [if_neg (by omega), if_neg (by omega), if_pos rfl]
theorem tw_38 {f g : Nat → va_E} {B : Nat} {ob nr fr : va_E} : tw f g B ob nr fr (B + 38) = fr := by
  unfold tw
  rw [if_neg (by omega), if_neg (by omega), if_neg (by omega), if_pos rfl]
theorem tw_lo {f g : Nat → va_E} {B a : Nat} {ob nr fr : va_E} (h : a < B) : tw f g B ob nr fr a = f a := if_pos h
theorem tw_hi {f g : Nat → va_E} {B a : Nat} {ob nr fr : va_E} (h : B + 1 < a) (h2 : a ≠ B + 38) : tw f g B ob nr fr a = g a := by
  unfold tw
  rw [if_neg (by omega), if_neg (by omega), if_neg (by omega), if_neg h2]
def ob1 (P : L5) (B : Nat) : va_E := .inr (2, [.int 0, .int 0, .ref (P.1 + (B + 1)), .null])
def ob2 (P : L5) (B : Nat) : va_E := .inr (2, [.int 0, .int 0, .ref (P.1 + (B + 1)), .ref (P.1 + (B + 38))])
def nrI (P : L5) (t i : Nat) : va_E := .inl (P.2.2.1, 12, .inr (.inr (.inr (.inr (fun k => if k < i then some (rN P (12 * t + k)) else none)))))
def frI (P : L5) (t i : Nat) : va_E := .inl (P.2.2.2.1, 4, .inr (.inr (.inr (.inr (fun k => if k < i then some (rF P (4 * t + k)) else none)))))
theorem nA_t {t i : Nat} (ht : t < 2) (hi : i < 12) : nA (12 * t + i) = bT t + 2 + 3 * i := by
  unfold nA bT
  rcases (show t = 0 ∨ t = 1 by omega) with rfl | rfl
  · rw [if_pos (by omega)]
    omega
  · rw [if_neg (by omega), if_pos (by omega)]
    omega
theorem fA_t {t i : Nat} (ht : t < 2) (hi : i < 4) : fA (4 * t + i) = bT t + 39 + i := by
  unfold fA bT
  rcases (show t = 0 ∨ t = 1 by omega) with rfl | rfl
  · rw [if_pos (by omega)]
    omega
  · rw [if_neg (by omega)]
    omega
section Fresh
variable {P : L5} {K : Nat → Int32} {A : Nat → Nat → Int32} {w : Int64} {t i : Nat}
theorem cwF_N (ht : t < 2) (hi : i < 12) : cwF0 P K A w (bT t + 2 + 3 * i) = .inr (1, frNv P (bT t + 2 + 3 * i)) := by
  have h := (kdN (12 * t + i) (by omega)).1
  rw [show ik (3, 12 * t + i) = bT t + 2 + 3 * i from nA_t ht hi] at h
  unfold cwF0 cw
  rw [h]
  show (.inr (1, nF P (12 * t + i) frN) : va_E) = _
  unfold nF rL rB
  rw [nA_t ht hi]
  rfl
theorem cwF_L (ht : t < 2) (hi : i < 12) : cwF0 P K A w (bT t + 2 + 3 * i + 1) = z4 P := by
  have h := (kdL (12 * t + i) (by omega)).1
  rw [show ik (4, 12 * t + i) = bT t + 2 + 3 * i + 1 from by show nA _ + 1 = _; rw [nA_t ht hi]] at h
  unfold cwF0 cw
  rw [h]
  show (.inl (P.2.1, 4, .inl (fun i => if i < 4 then frN (12 + i) else 0)) : va_E) = _
  unfold z4
  congr 4
  funext q
  split
  · show upd (upd (fun _ => 0) 6 10) 7 5 (12 + q) = 0
    rw [upd_ge (by omega), upd_ge (by omega)]
  · rfl
theorem cwF_B (ht : t < 2) (hi : i < 12) : cwF0 P K A w (bT t + 2 + 3 * i + 2) = z4 P := by
  have h := (kdB (12 * t + i) (by omega)).1
  rw [show ik (5, 12 * t + i) = bT t + 2 + 3 * i + 2 from by show nA _ + 2 = _; rw [nA_t ht hi]] at h
  unfold cwF0 cw
  rw [h]
  show (.inl (P.2.1, 4, .inl (fun i => if i < 4 then frN (16 + i) else 0)) : va_E) = _
  unfold z4
  congr 4
  funext q
  split
  · show upd (upd (fun _ => 0) 6 10) 7 5 (16 + q) = 0
    rw [upd_ge (by omega), upd_ge (by omega)]
  · rfl
theorem cwF_F (ht : t < 2) (hi : i < 4) : cwF0 P K A w (bT t + 39 + i) = .inr (0, frFv) := by
  have h := (kdF (4 * t + i) (by omega)).1
  rw [show ik (7, 4 * t + i) = bT t + 39 + i from fA_t ht hi] at h
  unfold cwF0 cw
  rw [h]
  rfl
theorem cwF_T (ht : t < 2) : cwF0 P K A w (bT t) = ob2 P (bT t) := by
  rcases (show t = 0 ∨ t = 1 by omega) with rfl | rfl <;> rfl
theorem cwF_NA (ht : t < 2) : cwF0 P K A w (bT t + 1) = .inl (P.2.2.1, 12, .inr (.inr (.inr (.inr (fun k => some (rN P (12 * t + k))))))) := by
  rcases (show t = 0 ∨ t = 1 by omega) with rfl | rfl <;> rfl
theorem cwF_FA (ht : t < 2) : cwF0 P K A w (bT t + 38) = .inl (P.2.2.2.1, 4, .inr (.inr (.inr (.inr (fun k => some (rF P (4 * t + k))))))) := by
  rcases (show t = 0 ∨ t = 1 by omega) with rfl | rfl <;> rfl
end Fresh
end
section
/-! THE CONSTRUCTOR OF TRADE -/
section VN
variable {p : Program} {l : Launch} {e : Env} {R : Room} {s : State} {m : MethodId} {args : Array Value} {below : List Frame} {meth : Method} {c : Code} {P : L5} {D : va_G} {Q : State → Prop} {nL n : Nat} {f : Nat → va_E} {k z pc : Nat} {lv : List (Nat × Value)} {st : List Value} {x : Prop}
theorem c_n {n' : Nat} (h : n = n') (kk : V p l e R s m args below meth c P D Q nL n' x f k z pc lv st) : V p l e R s m args below meth c P D Q nL n x f k z pc lv st := by subst h; exact kk
end VN
theorem cellq_cong {cI : ClassId} {N : Nat} {f g : Nat → Option Nat} (h : ∀ j, j < N → f j = g j) : vp_cell cI (N, .inr (.inr (.inr (.inr f)))) = vp_cell cI (N, .inr (.inr (.inr (.inr g)))) := by
  rw [vp_cell_q, vp_cell_q]
  exact arrV_cong fun j hj => by rw [h j hj]
theorem nrI_0 {P : L5} {t : Nat} : nrI P t 0 = .inl (P.2.2.1, 12, .inr (.inr (.inr (.inr (fun _ => none))))) := rfl
theorem frI_0 {P : L5} {t : Nat} : frI P t 0 = .inl (P.2.2.2.1, 4, .inr (.inr (.inr (.inr (fun _ => none))))) := rfl
theorem nrI_s {P : L5} {t i : Nat} (ht : t < 2) (hi : i < 12) : (.inl (P.2.2.1, 12, .inr (.inr (.inr (.inr (va_up (fun k => if k < i then some (rN P (12 * t + k)) else none) (nI i).toNatClampNeg (some (P.1 + (bT t + 2 + 3 * i)))))))) : va_E) = nrI P t (i + 1) := by
  unfold nrI
  congr 7
  funext k
  rw [nI_clamp (by omega)]
  by_cases h : k = i
  · subst h
    rw [va_up_self, if_pos (by omega)]
    unfold rN
    rw [nA_t ht hi]
  · rw [va_up_ne _ _ h]
    by_cases h2 : k < i
    · rw [if_pos h2, if_pos (by omega)]
    · rw [if_neg h2, if_neg (by omega)]
theorem frI_s {P : L5} {t i : Nat} (ht : t < 2) (hi : i < 4) : (.inl (P.2.2.2.1, 4, .inr (.inr (.inr (.inr (va_up (fun k => if k < i then some (rF P (4 * t + k)) else none) (nI i).toNatClampNeg (some (P.1 + (bT t + 39 + i)))))))) : va_E) = frI P t (i + 1) := by
  unfold frI
  congr 7
  funext k
  rw [nI_clamp (by omega)]
  by_cases h : k = i
  · subst h
    rw [va_up_self, if_pos (by omega)]
    unfold rF
    rw [fA_t ht hi]
  · rw [va_up_ne _ _ h]
    by_cases h2 : k < i
    · rw [if_pos h2, if_pos (by omega)]
    · rw [if_neg h2, if_neg (by omega)]
/-- one more nailer, one more fogger -/
theorem tw_N {P : L5} {K : Nat → Int32} {A : Nat → Nat → Int32} {w : Int64} {f : Nat → va_E} {t i : Nat} (ht : t < 2) (hi : i < 12) {ob fr nr nr' : va_E} : ∀ a, a < bT t + 2 + 3 * (i + 1) → va_up (niW P (va_up (tw f (cwF0 P K A w) (bT t) ob nr fr) (bT t + 2 + 3 * i) (.inr (1, bkN))) (bT t + 2 + 3 * i)) (bT t + 1) nr' a = tw f (cwF0 P K A w) (bT t) ob nr' fr a := by
  intro a ha
  by_cases h1 : a = bT t + 1
  · subst h1
    rw [va_up_self, tw_1]
  · rw [va_up_ne _ _ h1]
    unfold niW
    by_cases h2 : a = bT t + 2 + 3 * i
    · subst h2
      rw [va_up_ne _ _ (by omega), va_up_ne _ _ (by omega), va_up_self, tw_hi (by omega) (by omega), cwF_N ht hi]
    · by_cases h3 : a = bT t + 2 + 3 * i + 1
      · subst h3
        rw [va_up_ne _ _ (by omega), va_up_self, tw_hi (by omega) (by omega), cwF_L ht hi]
      · by_cases h4 : a = bT t + 2 + 3 * i + 2
        · subst h4
          rw [va_up_self, tw_hi (by omega) (by omega), cwF_B ht hi]
        · rw [va_up_ne _ _ h4, va_up_ne _ _ h3, va_up_ne _ _ h2, va_up_ne _ _ h2]
          unfold tw
          rw [if_neg h1, if_neg h1]
theorem tw_F {P : L5} {K : Nat → Int32} {A : Nat → Nat → Int32} {w : Int64} {f : Nat → va_E} {t i : Nat} (ht : t < 2) (hi : i < 4) {ob fr nr fr' : va_E} : ∀ a, a < bT t + 39 + (i + 1) → va_up (va_up (va_up (tw f (cwF0 P K A w) (bT t) ob nr fr) (bT t + 39 + i) (.inr (0, bkF))) (bT t + 39 + i) (.inr (0, frFv))) (bT t + 38) fr' a = tw f (cwF0 P K A w) (bT t) ob nr fr' a := by
  intro a ha
  by_cases h1 : a = bT t + 38
  · subst h1
    rw [va_up_self, tw_38]
  · rw [va_up_ne _ _ h1]
    by_cases h2 : a = bT t + 39 + i
    · subst h2
      rw [va_up_self, tw_hi (by omega) (by omega), cwF_F ht hi]
    · rw [va_up_ne _ _ h2, va_up_ne _ _ h2]
      unfold tw
      rw [if_neg h1, if_neg h1]
set_option maxHeartbeats 4000000 in
theorem c_X2_init {l : Launch} {P : L5} {D : va_G} {K : Nat → Int32} {A : Nat → Nat → Int32} {w : Int64} {t : Nat} (ht : t < 2) {f : Nat → va_E} (hf : f (bT t) = .inr (2, bkT)) : CtV l yX2_init cX2_init 2 2 42 304 P D (bT t + 1) (bT t + 43) True f (fun a => if a < bT t then f a else cwF0 P K A w a) [.ref (P.1 + bT t)] := by
  refine mk_MetI pl_X2 rfl [(0, .ref (P.1 + bT t))] rfl (Nat.le_of_ble_eq_true rfl) ?_
  intro pg en sg mg ag bg mt cd C hni
  have hAO := C.2.2.2.2.2.2.2.2.2.2.2.2.2.2.1
  obtain ⟨g, hg⟩ : ∃ z, z = cwF0 P K A w := ⟨_, rfl⟩
  refine v_aload_n C 0 dX2_init_0 rfl ?_
  refine c_obj C k_315 k_50 k_51 (Nat.le_of_ble_eq_true rfl) (Nat.le_of_ble_eq_true rfl) dX2_init_1 ?_
  refine v_aload_n C 0 dX2_init_4 rfl ?_
  refine v_bipush (v := 12) C dX2_init_5 rfl ?_
  refine c_newq (Cn := RX1) (t0 := 1) (cA0 := P.2.2.1) (N' := 12) C k_316 hAO.1 rfl (by decide) (by decide) (by decide) (Nat.le_of_ble_eq_true rfl) (Nat.le_of_ble_eq_true rfl) dX2_init_7 ?_
  refine c_put C (bT t) (by omega) (r := (RX2, TX2, 4)) ((va_up_ne _ _ (by omega)).trans hf) rfl inX2g tyX2 tyX2_ok nmX2 2 (by decide) k_411 hni rfl rfl rfl (Nat.le_of_ble_eq_true rfl) dX2_init_10 ?_
  refine v_iconst (v := 0) C dX2_init_13 rfl ?_
  refine v_istore_n (lv' := [(1, .int 0), (0, .ref (P.1 + bT t))]) C dX2_init_14 rfl (by decide) rfl ?_
  have E50 : V pg l en (rmO 2 42 304) sg mg ag bg mt cd P D (MQ bg (QcV P D (bT t + 43) True (fun a => if a < bT t then f a else cwF0 P K A w a)) ag sg 42 304 (aO P)) 2 (bT t + 43) True (tw f g (bT t) (ob2 P (bT t)) (nrI P t 12) (frI P t 4)) 42 304 74 [] [] := by
    refine c_cell (bT t + 1) (by omega) (cI := P.2.2.1) (a1 := (12, .inr (.inr (.inr (.inr (fun k => if k < 12 then some (rN P (12 * t + k)) else none)))))) (a2 := (12, .inr (.inr (.inr (.inr (fun k => some (rN P (12 * t + k)))))))) tw_1 (cellq_cong fun j hj => if_pos hj) ?_
    refine c_cell (bT t + 38) (by omega) (cI := P.2.2.2.1) (a1 := (4, .inr (.inr (.inr (.inr (fun k => if k < 4 then some (rF P (4 * t + k)) else none)))))) (a2 := (4, .inr (.inr (.inr (.inr (fun k => some (rF P (4 * t + k)))))))) ((va_up_ne _ _ (by omega)).trans tw_38) (cellq_cong fun j hj => if_pos hj) ?_
    refine c_cong (f' := fun a => if a < bT t then f a else cwF0 P K A w a) (fun a ha => ?_) (v_vret C dX2_init_74 rfl)
    show _ = if a < bT t then f a else cwF0 P K A w a
    by_cases h1 : a = bT t + 38
    · subst h1
      rw [va_up_self, if_neg (by omega), cwF_FA ht]
    · by_cases h2 : a = bT t + 1
      · subst h2
        rw [va_up_ne _ _ h1, va_up_self, if_neg (by omega), cwF_NA ht]
      · rw [va_up_ne _ _ h1, va_up_ne _ _ h2]
        unfold tw
        rw [if_neg h1, if_neg h2]
        by_cases h3 : a = bT t
        · subst h3
          rw [if_neg (by omega), if_pos rfl, if_neg (by omega), cwF_T ht]
        · rw [if_neg h3, hg]
  have L50 : ∀ m i, i + m = 4 → V pg l en (rmO 2 42 304) sg mg ag bg mt cd P D (MQ bg (QcV P D (bT t + 43) True (fun a => if a < bT t then f a else cwF0 P K A w a)) ag sg 42 304 (aO P)) 2 (bT t + 39 + i) True (tw f g (bT t) (ob2 P (bT t)) (nrI P t 12) (frI P t i)) (38 + i) (280 + 6 * i) 50 [(1, .int (nI i)), (0, .ref (P.1 + bT t))] [] := by
    intro m
    induction m with
    | zero =>
      intro i him
      obtain rfl : i = 4 := by omega
      refine v_iload_n C 0 dX2_init_50 rfl ?_
      refine v_iconst (v := 4) C dX2_init_51 rfl ?_
      refine v_icmp_ge (tgt := 74) C dX2_init_52 (by decide) (fun _ => ?_) (fun h => absurd (by decide) h)
      exact v_lv [] rfl (c_n (by omega) E50)
    | succ m ih =>
      intro i him
      have hi : i < 4 := by omega
      refine v_iload_n C 0 dX2_init_50 rfl ?_
      refine v_iconst (v := 4) C dX2_init_51 rfl ?_
      refine v_icmp_ge (tgt := 74) C dX2_init_52 (by decide) (fun h => absurd h (by rw [le4i (by omega)]; omega)) (fun _ => ?_)
      refine v_aload_n C 1 dX2_init_55 rfl ?_
      refine c_get C (bT t) (by omega) (r := (RX2, TX2, 4)) tw_0 rfl inX2g 3 (by decide) k_413 rfl dX2_init_56 ?_
      refine v_iload_n C 0 dX2_init_59 rfl ?_
      refine c_new (ci := 0) C (r := (RX0, TX0, 6)) rfl inX0g tyX0 tyX0_ok k_377 k_234 k_4 (fs := bkF) bkF_ok (show _ ≤ 42 by omega) (show 280 + 6 * i + 6 ≤ 304 by omega) dX2_init_60 ?_
      refine v_dup C dX2_init_63 rfl ?_
      refine go_V (run_IN C (c_X0_init (b := bT t + 39 + i) (by omega) (va_up_self _ _ _)) k_381 k_4 (List.mem_of_getElem? (i := 2) rfl) k_380 rfl dd_X0_init ⟨Nat.le_of_ble_eq_true rfl, Nat.le_of_ble_eq_true rfl⟩ rfl (Nat.le_of_ble_eq_true rfl) dX2_init_64 ⟨show _ ≤ 42 by omega, show 280 + 6 * i + 6 + 0 ≤ 304 by omega⟩) ?_
      refine c_aast C (bT t + 38) (bT t + 39 + i) (by omega) (by omega) (ci := 0) (len := 4) (t0 := 2) (r := (RX0, TX0, 6)) ((va_up_ne _ _ (by omega)).trans ((va_up_ne _ _ (by omega)).trans tw_38)) rfl (va_up_self _ _ _) rfl (vp_in_nI hi (by omega)) dX2_init_67 ?_
      rw [frI_s ht hi]
      refine v_iinc (b := nI (i + 1)) (lv' := [(1, .int (nI (i + 1))), (0, .ref (P.1 + bT t))]) C 0 dX2_init_68 rfl (nI_1 _) (by decide) rfl ?_
      refine v_goto (tgt := 50) C dX2_init_71 (by decide) ?_
      refine v_widen (k' := 38 + (i + 1)) (z' := 280 + 6 * (i + 1)) (by omega) (show 280 + 6 * i + 6 + 0 ≤ _ by omega) ?_
      refine c_n (n' := bT t + 39 + (i + 1)) (by omega) ?_
      refine c_cong (fun a ha => ?_) (ih (i + 1) (by omega))
      rw [hg]
      exact tw_F ht hi a ha
  have E40 : V pg l en (rmO 2 42 304) sg mg ag bg mt cd P D (MQ bg (QcV P D (bT t + 43) True (fun a => if a < bT t then f a else cwF0 P K A w a)) ag sg 42 304 (aO P)) 2 (bT t + 38) True (tw f g (bT t) (ob1 P (bT t)) (nrI P t 12) (frI P t 0)) 37 276 40 [(0, .ref (P.1 + bT t))] [] := by
    refine v_aload_n C 0 dX2_init_40 rfl ?_
    refine v_iconst (v := 4) C dX2_init_41 rfl ?_
    refine c_newq (Cn := RX0) (t0 := 2) (cA0 := P.2.2.2.1) (N' := 4) C k_377 hAO.2 rfl (by decide) (by decide) (by decide) (Nat.le_of_ble_eq_true rfl) (Nat.le_of_ble_eq_true rfl) dX2_init_42 ?_
    refine c_put C (bT t) (by omega) (r := (RX2, TX2, 4)) ((va_up_ne _ _ (by omega)).trans tw_0) rfl inX2g tyX2 tyX2_ok nmX2 3 (by decide) k_413 hni rfl rfl rfl (Nat.le_of_ble_eq_true rfl) dX2_init_45 ?_
    refine v_iconst (v := 0) C dX2_init_48 rfl ?_
    refine v_istore_n (lv' := [(1, .int 0), (0, .ref (P.1 + bT t))]) C dX2_init_49 rfl (by decide) rfl ?_
    refine c_cong (f' := tw f g (bT t) (ob2 P (bT t)) (nrI P t 12) (frI P t 0)) (fun a ha => ?_) (c_n (by omega) (L50 4 0 (by omega)))
    by_cases h1 : a = bT t
    · subst h1
      rw [va_up_self, tw_0]
      rfl
    · rw [va_up_ne _ _ h1]
      by_cases h2 : a = bT t + 38
      · subst h2
        rw [va_up_self, tw_38]
        rfl
      · rw [va_up_ne _ _ h2]
        unfold tw
        rw [if_neg h1, if_neg h1]
  have L15 : ∀ m i, i + m = 12 → V pg l en (rmO 2 42 304) sg mg ag bg mt cd P D (MQ bg (QcV P D (bT t + 43) True (fun a => if a < bT t then f a else cwF0 P K A w a)) ag sg 42 304 (aO P)) 2 (bT t + 2 + 3 * i) True (tw f g (bT t) (ob1 P (bT t)) (nrI P t i) (frI P t 0)) (1 + 3 * i) (12 + 22 * i) 15 [(1, .int (nI i)), (0, .ref (P.1 + bT t))] [] := by
    intro m
    induction m with
    | zero =>
      intro i him
      obtain rfl : i = 12 := by omega
      refine v_iload_n C 0 dX2_init_15 rfl ?_
      refine v_bipush (v := 12) C dX2_init_16 rfl ?_
      refine v_icmp_ge (tgt := 40) C dX2_init_18 (by decide) (fun _ => ?_) (fun h => absurd (by decide) h)
      exact v_lv [1] rfl (c_n (by omega) E40)
    | succ m ih =>
      intro i him
      have hi : i < 12 := by omega
      refine v_iload_n C 0 dX2_init_15 rfl ?_
      refine v_bipush (v := 12) C dX2_init_16 rfl ?_
      refine v_icmp_ge (tgt := 40) C dX2_init_18 (by decide) (fun h => absurd h (by rw [show (12 : Int32) = nI 12 from rfl, nI_leI (by omega) (by omega)]; omega)) (fun _ => ?_)
      refine v_aload_n C 1 dX2_init_21 rfl ?_
      refine c_get C (bT t) (by omega) (r := (RX2, TX2, 4)) tw_0 rfl inX2g 2 (by decide) k_411 rfl dX2_init_22 ?_
      refine v_iload_n C 0 dX2_init_25 rfl ?_
      refine c_new (ci := 1) C (r := (RX1, TX1, 14)) rfl inX1g tyX1 tyX1_ok k_316 k_141 k_3 (fs := bkN) bkN_ok (show _ ≤ 42 by omega) (show 12 + 22 * i + 14 ≤ 304 by omega) dX2_init_26 ?_
      refine v_dup C dX2_init_29 rfl ?_
      refine go_V (run_IN C (c_X1_init (b := bT t + 2 + 3 * i) (va_up_self _ _ _)) k_320 k_3 (List.mem_of_getElem? (i := 1) rfl) k_319 rfl dd_X1_init ⟨Nat.le_of_ble_eq_true rfl, Nat.le_of_ble_eq_true rfl⟩ rfl (Nat.le_of_ble_eq_true rfl) dX2_init_30 ⟨show _ ≤ 42 by omega, show 12 + 22 * i + 14 + 8 ≤ 304 by omega⟩) ?_
      refine c_aast C (bT t + 1) (bT t + 2 + 3 * i) (by omega) (by omega) (ci := 1) (len := 12) (t0 := 1) (r := (RX1, TX1, 14)) ((va_up_ne _ _ (by omega)).trans ((va_up_ne _ _ (by omega)).trans ((va_up_ne _ _ (by omega)).trans ((va_up_ne _ _ (by omega)).trans tw_1)))) rfl ((va_up_ne _ _ (by omega)).trans ((va_up_ne _ _ (by omega)).trans (va_up_self _ _ _))) rfl (vp_in_nI hi (by omega)) dX2_init_33 ?_
      rw [nrI_s ht hi]
      refine v_iinc (b := nI (i + 1)) (lv' := [(1, .int (nI (i + 1))), (0, .ref (P.1 + bT t))]) C 0 dX2_init_34 rfl (nI_1 _) (by decide) rfl ?_
      refine v_goto (tgt := 15) C dX2_init_37 (by decide) ?_
      refine v_widen (k' := 1 + 3 * (i + 1)) (z' := 12 + 22 * (i + 1)) (by omega) (show 12 + 22 * i + 14 + 8 ≤ _ by omega) ?_
      refine c_n (n' := bT t + 2 + 3 * (i + 1)) (by omega) ?_
      refine c_cong (fun a ha => ?_) (ih (i + 1) (by omega))
      rw [hg]
      exact tw_N ht hi a ha
  refine c_cong (f' := tw f g (bT t) (ob1 P (bT t)) (nrI P t 0) (frI P t 0)) (fun a ha => ?_) (c_n (by omega) (L15 12 0 (by omega)))
  by_cases h1 : a = bT t
  · subst h1
    rw [va_up_self, tw_0]
    rfl
  · rw [va_up_ne _ _ h1]
    by_cases h2 : a = bT t + 1
    · subst h2
      rw [va_up_self, tw_1]
      rfl
    · rw [va_up_ne _ _ h2, tw_lo (by omega)]
end
section
/-! THE CONSTRUCTORS OF NAILRODS AND OF THE MODEL -/
theorem z4_of {P : L5} {b : Nat} (hb : 12 ≤ b) : (.inl (P.2.1, 4, .inl (fun i => if i < 4 then frN (b + i) else 0)) : va_E) = z4 P := by
  unfold z4
  congr 4
  funext q
  split
  · show upd (upd (fun _ => 0) 6 10) 7 5 (b + q) = 0
    rw [upd_ge (by omega), upd_ge (by omega)]
  · rfl
theorem cwF_88 {P : L5} {K : Nat → Int32} {A : Nat → Nat → Int32} {w : Int64} : cwF0 P K A w 88 = z4 P := z4_of (b := 12) (by omega)
theorem cwF_89 {P : L5} {K : Nat → Int32} {A : Nat → Nat → Int32} {w : Int64} : cwF0 P K A w 89 = z4 P := z4_of (b := 16) (by omega)
theorem cwF_87 {P : L5} {K : Nat → Int32} {A : Nat → Nat → Int32} {w : Int64} : cwF0 P K A w 87 = .inr (1, frNv P 87) := rfl
theorem cwF_0 {P : L5} {K : Nat → Int32} {A : Nat → Nat → Int32} {w : Int64} : cwF0 P K A w 0 = .inr (3, [.ref (P.1 + 1), .ref (P.1 + 44), .ref (P.1 + 87)]) := rfl
set_option maxHeartbeats 4000000 in
theorem c_X3_init {l : Launch} {P : L5} {D : va_G} {K : Nat → Int32} {A : Nat → Nat → Int32} {w : Int64} {f : Nat → va_E} (hf : f 0 = .inr (3, bkX)) : CtV l yX3_init cX3_init 1 3 89 638 P D 1 90 True f (cwF0 P K A w) [.ref (P.1 + 0)] := by
  refine mk_MetI pl_X3 rfl [(0, .ref (P.1 + 0))] rfl (Nat.le_of_ble_eq_true rfl) ?_
  intro pg en sg mg ag bg mt cd C hni
  obtain ⟨g, hg⟩ : ∃ z, z = cwF0 P K A w := ⟨_, rfl⟩
  refine v_aload_n C 0 dX3_init_0 rfl ?_
  refine c_obj C k_310 k_50 k_51 (Nat.le_of_ble_eq_true rfl) (Nat.le_of_ble_eq_true rfl) dX3_init_1 ?_
  refine v_aload_n C 0 dX3_init_4 rfl ?_
  refine c_new (n := 1) (ci := 2) C (r := (RX2, TX2, 4)) rfl inX2g tyX2 tyX2_ok k_311 k_158 k_2 (fs := bkT) bkT_ok (Nat.le_of_ble_eq_true rfl) (Nat.le_of_ble_eq_true rfl) dX3_init_5 ?_
  refine v_dup C dX3_init_8 rfl ?_
  refine go_V (n' := 44) (run_IN C (c_X2_init (t := 0) (K := K) (A := A) (w := w) (by omega) (va_up_self _ _ _)) k_314 k_2 (List.mem_of_getElem? (i := 0) rfl) k_313 rfl dd_X2_init ⟨(Nat.le_of_ble_eq_true rfl), (Nat.le_of_ble_eq_true rfl)⟩ rfl (Nat.le_of_ble_eq_true rfl) dX3_init_9 ⟨(Nat.le_of_ble_eq_true rfl), (Nat.le_of_ble_eq_true rfl)⟩) ?_
  refine c_put C 0 (by omega) (r := (RX3, TX3, 3)) ((if_pos (show 0 < bT 0 by decide)).trans ((va_up_ne _ _ (by omega)).trans hf)) rfl inX3g tyX3 tyX3_ok nmX3 0 (by decide) k_426 hni rfl rfl rfl (Nat.le_of_ble_eq_true rfl) dX3_init_12 ?_
  refine v_aload_n C 0 dX3_init_15 rfl ?_
  refine c_new (n := 44) (ci := 2) C (r := (RX2, TX2, 4)) rfl inX2g tyX2 tyX2_ok k_311 k_158 k_2 (fs := bkT) bkT_ok (Nat.le_of_ble_eq_true rfl) (Nat.le_of_ble_eq_true rfl) dX3_init_16 ?_
  refine v_dup C dX3_init_19 rfl ?_
  refine go_V (n' := 87) (run_IN C (c_X2_init (t := 1) (K := K) (A := A) (w := w) (by omega) (va_up_self _ _ _)) k_314 k_2 (List.mem_of_getElem? (i := 0) rfl) k_313 rfl dd_X2_init ⟨(Nat.le_of_ble_eq_true rfl), (Nat.le_of_ble_eq_true rfl)⟩ rfl (Nat.le_of_ble_eq_true rfl) dX3_init_20 ⟨(Nat.le_of_ble_eq_true rfl), (Nat.le_of_ble_eq_true rfl)⟩) ?_
  refine c_put C 0 (by omega) (r := (RX3, TX3, 3)) ((if_pos (show 0 < bT 1 by decide)).trans ((va_up_ne _ _ (by omega)).trans (va_up_self _ _ _))) rfl inX3g tyX3 tyX3_ok nmX3 1 (by decide) k_427 hni rfl rfl rfl (Nat.le_of_ble_eq_true rfl) dX3_init_23 ?_
  refine v_aload_n C 0 dX3_init_26 rfl ?_
  refine c_new (n := 87) (ci := 1) C (r := (RX1, TX1, 14)) rfl inX1g tyX1 tyX1_ok k_424 k_141 k_3 (fs := bkN) bkN_ok (Nat.le_of_ble_eq_true rfl) (Nat.le_of_ble_eq_true rfl) dX3_init_27 ?_
  refine v_dup C dX3_init_30 rfl ?_
  refine go_V (n' := 90) (run_IN C (c_X1_init (b := 87) (va_up_self _ _ _)) k_320 k_3 (List.mem_of_getElem? (i := 3) rfl) k_319 rfl dd_X1_init ⟨(Nat.le_of_ble_eq_true rfl), (Nat.le_of_ble_eq_true rfl)⟩ rfl (Nat.le_of_ble_eq_true rfl) dX3_init_31 ⟨(Nat.le_of_ble_eq_true rfl), (Nat.le_of_ble_eq_true rfl)⟩) ?_
  refine c_put C 0 (by omega) (r := (RX3, TX3, 3)) ((va_up_ne _ _ (by omega)).trans ((va_up_ne _ _ (by omega)).trans ((va_up_ne _ _ (by omega)).trans ((va_up_ne _ _ (by omega)).trans (va_up_self _ _ _))))) rfl inX3g tyX3 tyX3_ok nmX3 2 (by decide) k_428 hni rfl rfl rfl (Nat.le_of_ble_eq_true rfl) dX3_init_34 ?_
  refine c_cong (f' := cwF0 P K A w) (fun a ha => ?_) (v_vret C dX3_init_37 rfl)
  rw [← hg]
  by_cases h0 : a = 0
  · subst h0
    rw [va_up_self, hg, cwF_0]
    rfl
  · rw [va_up_ne _ _ h0]
    by_cases h1 : a = 87
    · subst h1
      rw [va_up_ne _ _ (by omega), va_up_ne _ _ (by omega), va_up_self, hg, cwF_87]
    · by_cases h2 : a = 88
      · subst h2
        rw [va_up_ne _ _ (by omega), va_up_self, hg, cwF_88]
      · by_cases h3 : a = 89
        · subst h3
          rw [va_up_self, hg, cwF_89]
        · rw [va_up_ne _ _ (show a ≠ 87 + 2 from h3), va_up_ne _ _ (show a ≠ 87 + 1 from h2), va_up_ne _ _ h1, va_up_ne _ _ h1, va_up_ne _ _ h0]
          by_cases h4 : a < bT 1
          · rw [if_pos h4, va_up_ne _ _ (show a ≠ 44 from Nat.ne_of_lt h4), va_up_ne _ _ h0, if_neg (show ¬ a < bT 0 from fun z => h0 (Nat.lt_one_iff.mp z)), hg]
          · rw [if_neg h4, hg]
section VCi
variable {p : Program} {l : Launch} {e : Env} {R : Room} {s : State} {m : MethodId} {args : Array Value} {below : List Frame} {meth : Method} {c : Code} {P : L5} {D : va_G} {Q : State → Prop} {nL n : Nat} {f : Nat → va_E} {k z pc : Nat} {lv : List (Nat × Value)} {st : List Value} {cc : ByteArray} {ret : Option FieldType} {own : String}
theorem c_iastk (C : Cx p l s m args meth c P D cc nL ret own) (q0 t : Nat) (hq0 : q0 < n) {len : Nat} {g : Nat → Int32} (hf : f q0 = .inl (P.2.1, len, .inl g)) {i a : Int32} (hi : i = nI t) (ht : t < len) (h240 : len ≤ 240) (hdg : decode cc pc = .ok (.iastore, 1)) (kk : V p l e R s m args below meth c P D Q nL n True (va_up f q0 (.inl (P.2.1, len, .inl (upd g t a)))) k z (pc + 1) lv st) : V p l e R s m args below meth c P D Q nL n True f k z pc lv (.int a :: .int i :: .ref (P.1 + q0) :: st) := by
  subst hi
  have e0 : (nI t).toNatClampNeg = t := nI_clamp (by omega)
  refine c_iast C q0 hq0 hf (vp_in_nI ht (by omega)) hdg ?_
  rw [e0]
  exact kk
end VCi
end
section
/-! NUMBERS; WHAT A NAILER'S ROW KEEPS -/
theorem imin_nI {a b : Nat} (ha : a < 2 ^ 31) (hb : b < 2 ^ 31) : imin (nI a) (nI b) = nI (min a b) := by
  unfold imin
  by_cases h : b < a
  · rw [if_pos ((nI_ltI hb ha).mpr h), Nat.min_eq_right (by omega)]
  · rw [if_neg (fun z => h ((nI_ltI hb ha).mp z)), Nat.min_eq_left (by omega)]
/-- ounces a nail, as numbers -/
def ozN (k : Nat) : Nat := if k = 0 then 1 else if k = 1 then 2 else if k = 2 then 3 else 6
theorem ozT_nI (k : Nat) : ozT k = nI (ozN k) := by
  unfold ozT ozN
  split
  · rfl
  · split
    · rfl
    · split <;> rfl
theorem ozN_pos (k : Nat) : 0 < ozN k ∧ ozN k ≤ 6 := by
  unfold ozN
  split
  · omega
  · split
    · omega
    · split <;> omega
theorem nI_sub {a b : Nat} (h : b ≤ a) : nI a - nI b = nI (a - b) := by
  obtain ⟨d, rfl⟩ := Nat.exists_eq_add_of_le h
  rw [← nI_add, Nat.add_sub_cancel_left]
  rw [Int32.add_comm, Int32.add_sub_cancel]
theorem nI_div {a b : Nat} (ha : a < 2 ^ 31) (hb : b < 2 ^ 31) : nI a / nI b = nI (a / b) := by
  apply Int32.toInt_inj.mp
  have hq : a / b < 2 ^ 31 := Nat.lt_of_le_of_lt (Nat.div_le_self _ _) ha
  rw [nI_toInt hq, Int32.toInt_div, nI_toInt ha, nI_toInt hb]
  rw [Int.bmod_eq_of_le]
  · exact Int.ofNat_tdiv a b |>.symm ▸ rfl
  · have : (0 : Int) ≤ (a : Int).tdiv (b : Int) := Int.tdiv_nonneg (by omega) (by omega)
    omega
  · have h1 : (a : Int).tdiv (b : Int) = ((a / b : Nat) : Int) := (Int.ofNat_tdiv a b).symm
    rw [h1]
    omega
theorem nI_mul {a b : Nat} : nI a * nI b = nI (a * b) := (Int32.ofNat_mul a b).symm
theorem upd_self {v : Nat → Int32} {k : Nat} : upd v k (v k) = v := by
  funext t
  by_cases h : t = k
  · subst h
    exact if_pos rfl
  · exact upd_ge h
theorem upd_at {v : Nat → Int32} {k : Nat} {a : Int32} : upd v k a k = a := if_pos rfl
/-- the class's batch -/
theorem hfh_nI {kd o c : Nat} {v : Nat → Int32} (h1 : v 1 = nI kd) (hk : kd < 4) (ho : v 4 = nI o) (h240 : o ≤ 240) (hc : c < 2 ^ 30) : hfh v (nI c) = (upd v 4 (nI (o - min c (o / ozN kd) * ozN kd)), nI (min c (o / ozN kd))) := by
  have hpos := ozN_pos kd
  have hkx : kx v = kd := by
    unfold kx
    rw [h1, nI_clamp (by omega)]
  have hd : o / ozN kd ≤ 240 := Nat.le_trans (Nat.div_le_self _ _) h240
  have hle : min c (o / ozN kd) * ozN kd ≤ o := Nat.le_trans (Nat.mul_le_mul_right _ (Nat.min_le_right _ _)) (Nat.div_mul_le_self _ _)
  unfold hfh
  rw [hkx, ho, ozT_nI, nI_div (by omega) (by omega), imin_nI (by omega) (by omega), nI_mul, nI_sub hle]
theorem heat_dn : ∀ h, h < 10 → imax (nI h - 3) 0 = nI (h - 3) := by decide +kernel
theorem heat_up : ∀ h, h < 10 → imin (nI h + 2) 9 = nI (min (h + 2) 9) := by decide +kernel
theorem fuel_nI {n : Nat} (h : n < 2 ^ 31) : fuel (nI n) 0 = n + 1 := by
  unfold fuel
  rw [nI_toInt h, show (0 : Int32).toInt = 0 from rfl]
  omega
theorem kx_nI {v : Nat → Int32} {kd : Nat} (h : v 1 = nI kd) (hk : kd < 4) : kx v = kd := by
  unfold kx
  rw [h, nI_clamp (by omega)]
def nup (n : Nat → Nat) (k b : Nat) : Nat → Nat := fun j => if j = k then b else n j
theorem nup_at {n : Nat → Nat} {k b : Nat} : nup n k b k = b := if_pos rfl
theorem nup_ne {n : Nat → Nat} {k b j : Nat} (h : j ≠ k) : nup n k b j = n j := if_neg h
theorem nup_self {n : Nat → Nat} {k : Nat} : nup n k (n k) = n := by
  funext j
  by_cases h : j = k
  · subst h; exact nup_at
  · exact nup_ne h
/-- the first m numbers of a row, as naturals -/
def rep (v : Nat → Int32) (n : Nat → Nat) (m : Nat) : Prop := ∀ j, j < m → v j = nI (n j)
theorem rep_up {v : Nat → Int32} {n : Nat → Nat} {m k b : Nat} {a : Int32} (h : rep v n m) (e : a = nI b) : rep (upd v k a) (nup n k b) m := by
  intro j hj
  by_cases c : j = k
  · subst c
    rw [upd_at, nup_at, e]
  · rw [upd_ge c, nup_ne c]
    exact h j hj
theorem rep_cong {v : Nat → Int32} {n n' : Nat → Nat} {m : Nat} (h : rep v n m) (h2 : ∀ j, j < m → n j = n' j) : rep v n' m := fun j hj => by rw [h j hj, h2 j hj]
/-- a nailer's row, as naturals: L rods were lent, h hours have gone by -/
def Nn (n : Nat → Nat) (L h : Nat) : Prop := n 0 ≤ 9 ∧ n 1 < 4 ∧ n 2 < 4 ∧ n 4 ≤ 240 ∧ n 5 ≤ 9 ∧ n 6 ≤ 99 ∧ n 8 ≤ 90 ∧ (∀ k, k < 4 → n (12 + k) < 1000) ∧ n 9 + n 4 + 240 * n 3 + ozN (n 1) * (n 10 + n 11) = 240 * L ∧ n 7 + 36 * (n 16 + n 17 + n 18 + n 19) ≤ 5 + 36 * h
def Nv (v : Nat → Int32) (L h : Nat) : Prop := ∃ n, rep v n 20 ∧ Nn n L h
theorem Nn_up {n : Nat → Nat} {L h h' : Nat} (a : Nn n L h) (hh : h ≤ h') : Nn n L h' := by
  obtain ⟨h0, h1, h2, h4, h5, h6, h8, hl, he, hb⟩ := a
  exact ⟨h0, h1, h2, h4, h5, h6, h8, hl, he, by omega⟩
theorem Nv_up {v : Nat → Int32} {L h h' : Nat} (a : Nv v L h) (hh : h ≤ h') : Nv v L h' := by
  obtain ⟨n, hr, hn⟩ := a
  exact ⟨n, hr, Nn_up hn hh⟩
theorem tend_rep {v : Nat → Int32} {n : Nat → Nat} (h : rep v n 20) (h5 : n 5 ≤ 9) (h6 : n 6 ≤ 99) : ∃ a b, a ≤ 9 ∧ b ≤ 99 ∧ rep (tend v) (nup (nup n 6 b) 5 a) 20 := by
  unfold tend
  have e6 : v 6 = nI (n 6) := h 6 (by omega)
  have e5 : v 5 = nI (n 5) := h 5 (by omega)
  by_cases c : v 6 ≤ 0
  · rw [if_pos c]
    refine ⟨n 5 - 3, n 6, by omega, h6, rep_up (by rw [nup_self]; exact h) ?_⟩
    rw [e5, heat_dn _ (by omega)]
  · rw [if_neg c]
    obtain ⟨m, hm⟩ : ∃ m, n 6 = m + 1 := by
      cases hz : n 6 with
      | zero => exact absurd (by rw [e6, hz, nI_0]; exact Int32.le_refl _) c
      | succ m => exact ⟨m, rfl⟩
    refine ⟨min (n 5 + 2) 9, m, Nat.min_le_right _ _, by omega, rep_up (rep_up h ?_) ?_⟩
    · rw [e6, hm, nI_pred]
    · rw [e5, heat_up _ (by omega)]
theorem hfh_rep {v : Nat → Int32} {n : Nat → Nat} {c : Nat} (h : rep v n 20) (h1 : n 1 < 4) (h4 : n 4 ≤ 240) (hc : c < 2 ^ 30) : ∃ o m, o ≤ 240 ∧ m ≤ c ∧ o + ozN (n 1) * m = n 4 ∧ rep (hfh v (nI c)).1 (nup n 4 o) 20 ∧ (hfh v (nI c)).2 = nI m := by
  rw [hfh_nI (h 1 (by omega)) h1 (h 4 (by omega)) h4 hc]
  have hle : min c (n 4 / ozN (n 1)) * ozN (n 1) ≤ n 4 := Nat.le_trans (Nat.mul_le_mul_right _ (Nat.min_le_right _ _)) (Nat.div_mul_le_self _ _)
  refine ⟨n 4 - min c (n 4 / ozN (n 1)) * ozN (n 1), min c (n 4 / ozN (n 1)), by omega, Nat.min_le_left _ _, ?_, rep_up h rfl, rfl⟩
  rw [Nat.mul_comm (ozN (n 1))]
  omega
theorem n349 {n : Nat → Nat} {r s o : Nat} {n2 : Nat → Nat} (h : ∀ j, j < 20 → j ≠ 3 → j ≠ 4 → j ≠ 9 → n2 j = n j) : ∀ j, j < 20 → nup (nup (nup n2 3 r) 9 s) 4 o j = nup (nup (nup n 3 r) 9 s) 4 o j := by
  intro j hj
  unfold nup
  by_cases a : j = 4
  · rw [if_pos a, if_pos a]
  · rw [if_neg a, if_neg a]
    by_cases b : j = 9
    · rw [if_pos b, if_pos b]
    · rw [if_neg b, if_neg b]
      by_cases c : j = 3
      · rw [if_pos c, if_pos c]
      · rw [if_neg c, if_neg c]
        exact h j hj c a b
theorem n349_self {n : Nat → Nat} : nup (nup (nup n 3 (n 3)) 9 (n 9)) 4 (n 4) = n := by
  rw [nup_self, nup_self, nup_self]
theorem hlp_rep {can : Nat} (hcan : can < 2 ^ 29) : ∀ (f m : Nat) (v : Nat → Int32) (n : Nat → Nat), rep v n 20 → n 1 < 4 → n 4 ≤ 240 → n 3 < 2 ^ 30 → m ≤ can →
    ∃ r o s d, o ≤ 240 ∧ m + d ≤ can ∧ s + o + 240 * r + ozN (n 1) * d = n 9 + n 4 + 240 * n 3 ∧ rep (hlp f (nI can) v (nI m)).1 (nup (nup (nup n 3 r) 9 s) 4 o) 20 ∧ (hlp f (nI can) v (nI m)).2 = nI (m + d) := by
  intro f
  induction f with
  | zero =>
    intro m v n h h1 h4 h3 hm
    exact ⟨n 3, n 4, n 9, 0, h4, hm, by omega, by rw [n349_self]; exact h, rfl⟩
  | succ f ih =>
    intro m v n h h1 h4 h3 hm
    have stop : ∃ r o s d, o ≤ 240 ∧ m + d ≤ can ∧ s + o + 240 * r + ozN (n 1) * d = n 9 + n 4 + 240 * n 3 ∧ rep (v, nI m).1 (nup (nup (nup n 3 r) 9 s) 4 o) 20 ∧ (v, nI m).2 = nI (m + d) :=
      ⟨n 3, n 4, n 9, 0, h4, hm, by omega, by rw [n349_self]; exact h, rfl⟩
    unfold hlp
    by_cases hc : can ≤ m
    · rw [if_pos ((nI_leI (by omega) (by omega)).mpr hc)]
      exact stop
    · rw [if_neg (fun z => hc ((nI_leI (by omega) (by omega)).mp z))]
      have e3 : v 3 = nI (n 3) := h 3 (by omega)
      cases hr : n 3 with
      | zero =>
        rw [if_pos (by rw [e3, hr, nI_0]; exact Int32.le_refl _), ← hr]
        exact stop
      | succ r =>
        rw [if_neg (by rw [e3]; exact nI_nle (by omega) (by omega)), nI_sub hm]
        have q0 : rep (rod v) (nup (nup (nup n 3 r) 9 (n 9 + n 4)) 4 240) 20 := by
          refine rep_up (rep_up (rep_up h ?_) ?_) rfl
          · rw [e3, hr, nI_pred]
          · rw [h 9 (by omega), h 4 (by omega), nI_add]
        obtain ⟨o2, m2, ho2, hm2, he, q1, q2⟩ := hfh_rep (c := can - m) q0 h1 (Nat.le_refl 240) (by omega)
        rw [q2, nI_add]
        obtain ⟨r5, o5, s5, d5, a1, a2, a3, a4, a5⟩ := ih (m + m2) (hfh (rod v) (nI (can - m))).1 _ q1 h1 ho2 (show r < 2 ^ 30 by omega) (by omega)
        have he2 : o2 + ozN (n 1) * m2 = 240 := he
        have a3' : s5 + o5 + 240 * r5 + ozN (n 1) * d5 = (n 9 + n 4) + o2 + 240 * r := a3
        refine ⟨r5, o5, s5, m2 + d5, a1, by omega, ?_, rep_cong a4 (n349 fun j _ b1 b2 b3 => ?_), by rw [a5, Nat.add_assoc]⟩
        · rw [Nat.mul_add]
          omega
        · rw [nup_ne b2, nup_ne b2, nup_ne b3, nup_ne b1]
theorem head_rep {v : Nat → Int32} {n : Nat → Nat} {can : Nat} (hcan : can < 2 ^ 29) (h : rep v n 20) (h1 : n 1 < 4) (h4 : n 4 ≤ 240) (h3 : n 3 < 2 ^ 30) :
    ∃ r o s m, o ≤ 240 ∧ m ≤ can ∧ s + o + 240 * r + ozN (n 1) * m = n 9 + n 4 + 240 * n 3 ∧ rep (head v (nI can)).1 (nup (nup (nup n 3 r) 9 s) 4 o) 20 ∧ (head v (nI can)).2 = nI m := by
  obtain ⟨o2, m2, ho2, hm2, he, q1, q2⟩ := hfh_rep (c := can) h h1 h4 (by omega)
  unfold head
  rw [q2]
  obtain ⟨r5, o5, s5, d5, a1, a2, a3, a4, a5⟩ := hlp_rep hcan (((hfh v (nI can)).1 3).toNatClampNeg + 1) m2 (hfh v (nI can)).1 _ q1 h1 ho2 h3 hm2
  have a3' : s5 + o5 + 240 * r5 + ozN (n 1) * d5 = n 9 + o2 + 240 * n 3 := a3
  refine ⟨r5, o5, s5, m2 + d5, a1, a2, ?_, rep_cong a4 (n349 fun j _ b1 b2 b3 => nup_ne b2), a5⟩
  rw [Nat.mul_add]
  omega
theorem store_rep {v : Nat → Int32} {n : Nat → Nat} {g : Nat} (h : rep v n 20) (h1 : n 1 < 4) (hl : ∀ k, k < 4 → n (12 + k) < 1000) (hg : g ≤ 1000) :
    ∃ n', rep (store v (nI g)) n' 20 ∧ (∀ j, j < 11 → n' j = n j) ∧ n' 11 = n 11 + g ∧ (∀ k, k < 4 → n' (12 + k) < 1000) ∧ n' 16 + n' 17 + n' 18 + n' 19 ≤ n 16 + n 17 + n 18 + n 19 + 1 := by
  obtain ⟨kd, ek⟩ : ∃ kd, kd = n 1 := ⟨_, rfl⟩
  have hk : kd < 4 := by rw [ek]; exact h1
  have hlk := hl kd hk
  obtain ⟨m1, e1⟩ : ∃ m1, m1 = nup n 11 (n 11 + g) := ⟨_, rfl⟩
  have r1 : rep (sto1 v (nI g)) m1 20 := by
    rw [e1]
    exact rep_up h (by rw [h 11 (by omega), nI_add])
  have k1 : kx (sto1 v (nI g)) = kd := by
    refine kx_nI (by rw [r1 1 (by omega), e1, nup_ne (by omega), ek]) hk
  obtain ⟨m2, e2⟩ : ∃ m2, m2 = nup m1 (12 + kd) (m1 (12 + kd) + g) := ⟨_, rfl⟩
  have r2 : rep (sto2 v (nI g)) m2 20 := by
    unfold sto2
    rw [k1, e2]
    exact rep_up r1 (by rw [r1 _ (by omega), nI_add])
  have k2 : kx (sto2 v (nI g)) = kd := by
    refine kx_nI (by rw [r2 1 (by omega), e2, nup_ne (by omega), e1, nup_ne (by omega), ek]) hk
  have v2 : m2 (12 + kd) = n (12 + kd) + g := by rw [e2, nup_at, e1, nup_ne (by omega)]
  obtain ⟨m3, e3⟩ : ∃ m3, m3 = nup m2 (16 + kd) (m2 (16 + kd) + m2 (12 + kd) / 1000) := ⟨_, rfl⟩
  have r3 : rep (sto3 v (nI g)) m3 20 := by
    unfold sto3
    rw [k2, e3]
    refine rep_up r2 ?_
    rw [r2 _ (by omega), r2 _ (by omega), show (1000 : Int32) = nI 1000 from rfl, nI_div (by rw [v2]; omega) (by omega), nI_add]
  have k3 : kx (sto3 v (nI g)) = kd := by
    refine kx_nI (by rw [r3 1 (by omega), e3, nup_ne (by omega), e2, nup_ne (by omega), e1, nup_ne (by omega), ek]) hk
  have v3 : m3 (12 + kd) = n (12 + kd) + g := by rw [e3, nup_ne (by omega), v2]
  obtain ⟨m4, e4⟩ : ∃ m4, m4 = nup m3 (12 + kd) ((n (12 + kd) + g) % 1000) := ⟨_, rfl⟩
  have r4 : rep (store v (nI g)) m4 20 := by
    unfold store
    rw [k3, e4]
    refine rep_up r3 ?_
    rw [r3 _ (by omega), v3, show (1000 : Int32) = nI 1000 from rfl, nI_div (by omega) (by omega), nI_mul, nI_sub (Nat.div_mul_le_self _ _)]
    congr 1
    have := Nat.div_add_mod (n (12 + kd) + g) 1000
    omega
  refine ⟨m4, r4, fun j hj => ?_, ?_, fun k hk9 => ?_, ?_⟩
  · rw [e4, nup_ne (by omega), e3, nup_ne (by omega), e2, nup_ne (by omega), e1, nup_ne (by omega)]
  · rw [e4, nup_ne (by omega), e3, nup_ne (by omega), e2, nup_ne (by omega), e1, nup_at]
  · by_cases c : k = kd
    · subst c
      rw [e4, nup_at]
      exact Nat.mod_lt _ (by omega)
    · rw [e4, nup_ne (by omega), e3, nup_ne (by omega), e2, nup_ne (by omega), e1, nup_ne (by omega)]
      exact hl k hk9
  · have hb : ∀ j, 16 ≤ j → j < 20 → m4 j = if j = 16 + kd then n j + (n (12 + kd) + g) / 1000 else n j := by
      intro j ha hb
      rw [e4, nup_ne (by omega), e3]
      by_cases c : j = 16 + kd
      · subst c
        rw [nup_at, if_pos rfl, v2, e2, nup_ne (by omega), e1, nup_ne (by omega)]
      · rw [nup_ne c, if_neg c, e2, nup_ne (by omega), e1, nup_ne (by omega)]
    have hd : (n (12 + kd) + g) / 1000 ≤ 1 := by omega
    rw [hb 16 (by omega) (by omega), hb 17 (by omega) (by omega), hb 18 (by omega) (by omega), hb 19 (by omega) (by omega)]
    rcases (show kd = 0 ∨ kd = 1 ∨ kd = 2 ∨ kd = 3 by omega) with c | c | c | c <;> rw [c] at hd ⊢
    · rw [if_pos rfl, if_neg (by omega), if_neg (by omega), if_neg (by omega)]
      omega
    · rw [if_neg (by omega), if_pos rfl, if_neg (by omega), if_neg (by omega)]
      omega
    · rw [if_neg (by omega), if_neg (by omega), if_pos rfl, if_neg (by omega)]
      omega
    · rw [if_neg (by omega), if_neg (by omega), if_neg (by omega), if_pos rfl]
      omega
theorem spo_rep {v : Nat → Int32} {ht m : Nat} (h5 : v 5 = nI ht) (hh : ht ≤ 9) (hm : m ≤ 162) : ∃ b, b ≤ m ∧ spo v (nI m) = nI b := by
  unfold spo
  by_cases h8 : v 5 < 8
  · rw [if_pos h8]
    exact ⟨0, Nat.zero_le _, nI_0.symm⟩
  · rw [if_neg h8]
    refine ⟨m / 10, Nat.div_le_self _ _, ?_⟩
    rw [show (10 : Int32) = nI 10 from rfl, nI_div (by omega) (by omega)]
/-- an hour of one nailer -/
theorem work_rep {v : Nat → Int32} {L h : Nat} (hv : Nv v L h) (hL : L ≤ 1000) : Nv (workH v).1 L (h + 1) ∧ ∃ g, g ≤ 162 ∧ (workH v).2 = nI g := by
  obtain ⟨n, hr, h0, h1, h2, h4, h5, h6, h8, hl, he, hb⟩ := hv
  obtain ⟨a, b, ha, hb9, q⟩ := tend_rep hr h5 h6
  obtain ⟨t, et⟩ : ∃ t, t = tend v := ⟨_, rfl⟩
  obtain ⟨u, eu⟩ : ∃ u, u = nup (nup n 6 b) 5 a := ⟨_, rfl⟩
  rw [← et, ← eu] at q
  have uk : ∀ j, j ≠ 5 → j ≠ 6 → u j = n j := fun j a1 a2 => by rw [eu, nup_ne a1, nup_ne a2]
  have u5 : u 5 = a := by rw [eu]; exact nup_at
  have u6 : u 6 = b := by rw [eu, nup_ne (by omega)]; exact nup_at
  unfold workH
  rw [← et]
  have hoz := ozN_pos (n 1)
  have h3 : n 3 ≤ 1000 := by omega
  by_cases c : (4 : Int32) ≤ t 5
  · rw [if_pos c]
    obtain ⟨cn, ecn⟩ : ∃ cn, cn = n 0 * a * 2 / (n 1 + 1) := ⟨_, rfl⟩
    have a1 : n 0 * a ≤ 9 * 9 := Nat.mul_le_mul h0 ha
    have hcn : cn ≤ 162 := by
      have a2 : n 0 * a * 2 / (n 1 + 1) ≤ n 0 * a * 2 := Nat.div_le_self _ _
      omega
    have g4 : canN t = nI cn := by
      unfold canN
      rw [q 1 (by omega), q 0 (by omega), q 5 (by omega), u5, uk 0 (by omega) (by omega), uk 1 (by omega) (by omega), nI_mul, show (2 : Int32) = nI 2 from rfl, nI_mul, nI_1, nI_div (by omega) (by omega), ← ecn]
    obtain ⟨r, o, s, m, b1, b2, b3, b4, b5⟩ := head_rep (can := cn) (by omega) q (by rw [uk 1 (by omega) (by omega)]; exact h1) (by rw [uk 4 (by omega) (by omega)]; exact h4) (by rw [uk 3 (by omega) (by omega)]; omega)
    unfold workB
    rw [g4]
    obtain ⟨y, ey⟩ : ∃ y, y = head t (nI cn) := ⟨_, rfl⟩
    rw [← ey] at b4 b5 ⊢
    obtain ⟨z, ez⟩ : ∃ z, z = nup (nup (nup u 3 r) 9 s) 4 o := ⟨_, rfl⟩
    rw [← ez] at b4
    have zk : ∀ j, j ≠ 3 → j ≠ 4 → j ≠ 9 → z j = u j := fun j c1 c2 c3 => by rw [ez, nup_ne c2, nup_ne c3, nup_ne c1]
    have z3 : z 3 = r := by rw [ez, nup_ne (by omega), nup_ne (by omega)]; exact nup_at
    have z4 : z 4 = o := by rw [ez]; exact nup_at
    have z9 : z 9 = s := by rw [ez, nup_ne (by omega)]; exact nup_at
    obtain ⟨bn, hbn, ebn⟩ := spo_rep (v := y.1) (ht := a) (m := m) (by rw [b4 5 (by omega), zk 5 (by omega) (by omega) (by omega), u5]) ha (by omega)
    rw [b5, ebn, nI_sub hbn]
    have r10 : rep (upd y.1 10 (y.1 10 + nI bn)) (nup z 10 (z 10 + bn)) 20 := rep_up b4 (by rw [b4 10 (by omega), nI_add])
    have zn : ∀ j, j ≠ 3 → j ≠ 4 → j ≠ 9 → j ≠ 5 → j ≠ 6 → z j = n j := fun j c1 c2 c3 c4 c5 => (zk j c1 c2 c3).trans (uk j c4 c5)
    obtain ⟨n', d1, d2, d3, d4, d5⟩ := store_rep (g := m - bn) r10 (by rw [nup_ne (by omega), zn 1 (by omega) (by omega) (by omega) (by omega) (by omega)]; exact h1)
      (fun k hk => by rw [nup_ne (by omega), zn _ (by omega) (by omega) (by omega) (by omega) (by omega)]; exact hl k hk) (by omega)
    have x : ∀ j, j < 10 → n' j = z j := fun j hj => by rw [d2 j (by omega), nup_ne (by omega)]
    have x10 : n' 10 = n 10 + bn := by rw [d2 10 (by omega), nup_at, zn 10 (by omega) (by omega) (by omega) (by omega) (by omega)]
    have x11 : n' 11 = n 11 + (m - bn) := by rw [d3, nup_ne (by omega), zn 11 (by omega) (by omega) (by omega) (by omega) (by omega)]
    have xs : n' 16 + n' 17 + n' 18 + n' 19 ≤ n 16 + n 17 + n 18 + n 19 + 1 := by
      rw [nup_ne (by omega), nup_ne (by omega), nup_ne (by omega), nup_ne (by omega), zn 16 (by omega) (by omega) (by omega) (by omega) (by omega), zn 17 (by omega) (by omega) (by omega) (by omega) (by omega), zn 18 (by omega) (by omega) (by omega) (by omega) (by omega), zn 19 (by omega) (by omega) (by omega) (by omega) (by omega)] at d5
      exact d5
    have x0 : n' 0 = n 0 := (x 0 (by omega)).trans (zn 0 (by omega) (by omega) (by omega) (by omega) (by omega))
    have x1 : n' 1 = n 1 := (x 1 (by omega)).trans (zn 1 (by omega) (by omega) (by omega) (by omega) (by omega))
    have x2 : n' 2 = n 2 := (x 2 (by omega)).trans (zn 2 (by omega) (by omega) (by omega) (by omega) (by omega))
    have x3 : n' 3 = r := (x 3 (by omega)).trans z3
    have x4 : n' 4 = o := (x 4 (by omega)).trans z4
    have x5 : n' 5 = a := (x 5 (by omega)).trans ((zk 5 (by omega) (by omega) (by omega)).trans u5)
    have x6 : n' 6 = b := (x 6 (by omega)).trans ((zk 6 (by omega) (by omega) (by omega)).trans u6)
    have x7 : n' 7 = n 7 := (x 7 (by omega)).trans (zn 7 (by omega) (by omega) (by omega) (by omega) (by omega))
    have x8 : n' 8 = n 8 := (x 8 (by omega)).trans (zn 8 (by omega) (by omega) (by omega) (by omega) (by omega))
    have x9 : n' 9 = s := (x 9 (by omega)).trans z9
    rw [uk 1 (by omega) (by omega), uk 9 (by omega) (by omega), uk 4 (by omega) (by omega), uk 3 (by omega) (by omega)] at b3
    refine ⟨⟨n', d1, by omega, by omega, by omega, by omega, by omega, by omega, by omega, d4, ?_, by omega⟩, m - bn, by omega, rfl⟩
    rw [x9, x4, x3, x1, x10, x11, show n 10 + bn + (n 11 + (m - bn)) = (n 10 + n 11) + m by omega, Nat.mul_add]
    omega
  · rw [if_neg c]
    refine ⟨⟨u, q, ?_, ?_, ?_, ?_, by omega, by omega, ?_, fun k hk => ?_, ?_, ?_⟩, 0, by omega, nI_0.symm⟩
    · rw [uk 0 (by omega) (by omega)]; exact h0
    · rw [uk 1 (by omega) (by omega)]; exact h1
    · rw [uk 2 (by omega) (by omega)]; exact h2
    · rw [uk 4 (by omega) (by omega)]; exact h4
    · rw [uk 8 (by omega) (by omega)]; exact h8
    · rw [uk _ (by omega) (by omega)]; exact hl k hk
    · rw [uk 9 (by omega) (by omega), uk 4 (by omega) (by omega), uk 3 (by omega) (by omega), uk 1 (by omega) (by omega), uk 10 (by omega) (by omega), uk 11 (by omega) (by omega)]; exact he
    · rw [uk 7 (by omega) (by omega), uk 16 (by omega) (by omega), uk 17 (by omega) (by omega), uk 18 (by omega) (by omega), uk 19 (by omega) (by omega)]; omega
end
section
/-! WHAT A FOGGER'S ROW KEEPS; THE WEEK; THE HOURS -/
def woN (t : Nat) : Nat := if t = 0 then 8 else if t = 1 then 14 else if t = 2 then 20 else 36
theorem woT_nI (t : Nat) : woT t = nI (woN t) := by
  unfold woT woN
  split
  · rfl
  · split
    · rfl
    · split <;> rfl
theorem woN_le (t : Nat) : woN t ≤ 36 := by
  unfold woN
  split
  · omega
  · split
    · omega
    · split <;> omega
/-- a nailer and a fogger while bags are bought; X bounds what the fogger may come to -/
def Pn (n m : Nat → Nat) (X : Nat) : Prop := m 1 + m 5 + 36 * (n 16 + n 17 + n 18 + n 19) ≤ X ∧ m 4 + m 5 + 36 * (n 16 + n 17 + n 18 + n 19) ≤ X ∧ m 2 + 36 * (n 16 + n 17 + n 18 + n 19) ≤ X ∧ m 3 ≤ m 4 + m 5 ∧ m 0 ≤ 60
theorem bag_sum {n n' : Nat → Nat} {t : Nat} (ht : t < 4) (h : n (16 + t) = n' (16 + t) + 1) (ho : ∀ k, k < 4 → k ≠ t → n' (16 + k) = n (16 + k)) : n 16 + n 17 + n 18 + n 19 = n' 16 + n' 17 + n' 18 + n' 19 + 1 := by
  rcases (show t = 0 ∨ t = 1 ∨ t = 2 ∨ t = 3 by omega) with rfl | rfl | rfl | rfl
  · have a := ho 1 (by omega) (by omega); have b := ho 2 (by omega) (by omega); have c := ho 3 (by omega) (by omega)
    simp only [Nat.reduceAdd] at h a b c
    omega
  · have a := ho 0 (by omega) (by omega); have b := ho 2 (by omega) (by omega); have c := ho 3 (by omega) (by omega)
    simp only [Nat.reduceAdd] at h a b c
    omega
  · have a := ho 0 (by omega) (by omega); have b := ho 1 (by omega) (by omega); have c := ho 3 (by omega) (by omega)
    simp only [Nat.reduceAdd] at h a b c
    omega
  · have a := ho 0 (by omega) (by omega); have b := ho 1 (by omega) (by omega); have c := ho 2 (by omega) (by omega)
    simp only [Nat.reduceAdd] at h a b c
    omega
theorem bagL_rep {p t L h X : Nat} (ht : t < 4) (hp : p ≤ woN t) (hX : X < 2 ^ 30) : ∀ (f : Nat) (v g : Nat → Int32) (n m : Nat → Nat), rep v n 20 → rep g m 6 → Nn n L h → Pn n m X →
    ∃ n' m', rep (bagL f (nI p) t v g).1 n' 20 ∧ rep (bagL f (nI p) t v g).2 m' 6 ∧ Nn n' L h ∧ Pn n' m' X := by
  intro f
  induction f with
  | zero =>
    intro v g n m hv hg hn hP
    exact ⟨n, m, hv, hg, hn, hP⟩
  | succ f ih =>
    intro v g n m hv hg hn hP
    unfold bagL
    by_cases c1 : v (16 + t) ≤ 0
    · rw [if_pos c1]
      exact ⟨n, m, hv, hg, hn, hP⟩
    rw [if_neg c1]
    by_cases c2 : g 1 < nI p
    · rw [if_pos c2]
      exact ⟨n, m, hv, hg, hn, hP⟩
    rw [if_neg c2]
    have hw := woN_le t
    obtain ⟨p1, p2, p3, p4, p5⟩ := hP
    obtain ⟨b, hb⟩ : ∃ b, n (16 + t) = b + 1 := by
      cases hz : n (16 + t) with
      | zero => exact absurd (by rw [hv _ (by omega), hz, nI_0]; exact Int32.le_refl _) c1
      | succ b => exact ⟨b, rfl⟩
    have hpm : p ≤ m 1 := by
      rw [hg 1 (by omega)] at c2
      exact Nat.not_lt.mp fun z => c2 ((nI_ltI (by omega) (by omega)).mpr z)
    obtain ⟨n2, e2⟩ : ∃ n2, n2 = nup (nup n (16 + t) b) 7 (n 7 + p) := ⟨_, rfl⟩
    have r2 : rep (bag1 (nI p) t v) n2 20 := by
      unfold bag1
      rw [e2]
      exact rep_up (rep_up hv (by rw [hv _ (by omega), hb, nI_pred])) (by rw [hv 7 (by omega), nI_add])
    obtain ⟨m2, f2⟩ : ∃ m2, m2 = nup (nup (nup (nup m 1 (m 1 - p)) 3 (m 3 + p)) 2 (m 2 + 1)) 5 (m 5 + woN t) := ⟨_, rfl⟩
    have q2 : rep (bag2 (nI p) t g) m2 6 := by
      unfold bag2
      rw [f2]
      exact rep_up (rep_up (rep_up (rep_up hg (by rw [hg 1 (by omega), nI_sub hpm])) (by rw [hg 3 (by omega), nI_add])) (by rw [hg 2 (by omega), nI_1])) (by rw [hg 5 (by omega), woT_nI, nI_add])
    have n2k : ∀ j, j ≠ 7 → j ≠ 16 + t → n2 j = n j := fun j a1 a2 => by rw [e2, nup_ne a1, nup_ne a2]
    have n27 : n2 7 = n 7 + p := by rw [e2]; exact nup_at
    have hs := bag_sum (n := n) (n' := n2) ht (by rw [hb, e2, nup_ne (by omega), nup_at]) (fun k hk hkt => n2k _ (by omega) (by omega))
    have m1 : m2 1 = m 1 - p := by rw [f2]; rfl
    have m3 : m2 3 = m 3 + p := by rw [f2]; rfl
    have m22 : m2 2 = m 2 + 1 := by rw [f2]; rfl
    have m5 : m2 5 = m 5 + woN t := by rw [f2]; rfl
    have m4 : m2 4 = m 4 := by rw [f2]; rfl
    have m0 : m2 0 = m 0 := by rw [f2]; rfl
    refine ih _ _ n2 m2 r2 q2 ?_ ⟨by omega, by omega, by omega, by omega, by omega⟩
    obtain ⟨h0, h1, h2, h4, h5, h6, h8, hl, he, hb9⟩ := hn
    refine ⟨?_, ?_, ?_, ?_, ?_, ?_, ?_, fun k hk => ?_, ?_, by omega⟩
    · rw [n2k 0 (by omega) (by omega)]; exact h0
    · rw [n2k 1 (by omega) (by omega)]; exact h1
    · rw [n2k 2 (by omega) (by omega)]; exact h2
    · rw [n2k 4 (by omega) (by omega)]; exact h4
    · rw [n2k 5 (by omega) (by omega)]; exact h5
    · rw [n2k 6 (by omega) (by omega)]; exact h6
    · rw [n2k 8 (by omega) (by omega)]; exact h8
    · rw [n2k _ (by omega) (by omega)]; exact hl k hk
    · rw [n2k 9 (by omega) (by omega), n2k 4 (by omega) (by omega), n2k 3 (by omega) (by omega), n2k 1 (by omega) (by omega), n2k 10 (by omega) (by omega), n2k 11 (by omega) (by omega)]; exact he
theorem prK_nI {g : Nat → Int32} {k t : Nat} (h : g 0 = nI k) (hk : k ≤ 60) : ∃ p, p ≤ woN t ∧ prK t g = nI p := by
  have hw := woN_le t
  refine ⟨woN t * (100 - k) / 100, ?_, ?_⟩
  · have a : woN t * (100 - k) ≤ woN t * 100 := Nat.mul_le_mul_left _ (by omega)
    omega
  · have a : woN t * (100 - k) ≤ 36 * 100 := Nat.mul_le_mul hw (by omega)
    unfold prK
    rw [h, woT_nI, show (100 : Int32) = nI 100 from rfl, nI_sub (by omega), nI_mul, nI_div (by omega) (by omega)]
theorem buyK_rep {t L h X : Nat} (ht : t < 4) (hX : X < 2 ^ 30) {v g : Nat → Int32} {n m : Nat → Nat} (hv : rep v n 20) (hg : rep g m 6) (hn : Nn n L h) (hP : Pn n m X) :
    ∃ n' m', rep (buyK t (v, g)).1 n' 20 ∧ rep (buyK t (v, g)).2 m' 6 ∧ Nn n' L h ∧ Pn n' m' X := by
  obtain ⟨p, hp, ep⟩ := prK_nI (t := t) (hg 0 (by omega)) hP.2.2.2.2
  unfold buyK
  show ∃ n' m', rep (bagL ((v (16 + t)).toNatClampNeg + 1) (prK t g) t v g).1 n' 20 ∧ rep (bagL ((v (16 + t)).toNatClampNeg + 1) (prK t g) t v g).2 m' 6 ∧ Nn n' L h ∧ Pn n' m' X
  rw [ep]
  exact bagL_rep ht hp hX _ v g n m hv hg hn hP
theorem buyB_rep {L h X : Nat} (hX : X < 2 ^ 30) {v g : Nat → Int32} {n m : Nat → Nat} (hv : rep v n 20) (hg : rep g m 6) (hn : Nn n L h) (hP : Pn n m X) :
    ∃ n' m', rep (buyB v g).1 n' 20 ∧ rep (buyB v g).2 m' 6 ∧ Nn n' L h ∧ Pn n' m' X := by
  obtain ⟨n1, m1, a1, a2, a3, a4⟩ := buyK_rep (t := 0) (by omega) hX hv hg hn hP
  obtain ⟨n2, m2, b1, b2, b3, b4⟩ := buyK_rep (t := 1) (by omega) hX a1 a2 a3 a4
  obtain ⟨n3, m3, c1, c2, c3, c4⟩ := buyK_rep (t := 2) (by omega) hX b1 b2 b3 b4
  exact buyK_rep (t := 3) (by omega) hX c1 c2 c3 c4
/-- a fogger's row within a week's reckoning -/
def Fgv (g : Nat → Int32) (B : Nat) : Prop := ∃ m, rep g m 6 ∧ m 1 + m 5 ≤ B ∧ m 4 + m 5 ≤ B ∧ m 2 ≤ B ∧ m 3 ≤ m 4 + m 5 ∧ m 0 ≤ 60
/-- between calls: nothing waits to be carried off -/
def Fgr (g : Nat → Int32) (B : Nat) : Prop := ∃ m, rep g m 6 ∧ m 1 ≤ B ∧ m 4 ≤ B ∧ m 2 ≤ B ∧ m 3 ≤ m 4 ∧ m 0 ≤ 60 ∧ m 5 = 0
theorem Fgr_Fgv {g : Nat → Int32} {B : Nat} (h : Fgr g B) : Fgv g B := by
  obtain ⟨m, h1, h2, h3, h4, h5, h6, h7⟩ := h
  exact ⟨m, h1, by omega, by omega, h4, by omega, h6⟩
theorem Fgv_up {g : Nat → Int32} {B B' : Nat} (h : Fgv g B) (hB : B ≤ B') : Fgv g B' := by
  obtain ⟨m, h1, h2, h3, h4, h5, h6⟩ := h
  exact ⟨m, h1, by omega, by omega, by omega, h5, h6⟩
theorem Fgr_up {g : Nat → Int32} {B B' : Nat} (h : Fgr g B) (hB : B ≤ B') : Fgr g B' := by
  obtain ⟨m, h1, h2, h3, h4, h5, h6, h7⟩ := h
  exact ⟨m, h1, by omega, by omega, by omega, h5, h6, h7⟩
theorem rk_rep {v g : Nat → Int32} {L h B : Nat} (hv : Nv v L h) (hg : Fgv g B) (hB : B < 2 ^ 29) (hh : h ≤ 1000) : Nv (colV (buyB v g).1) L h ∧ Fgv (colG (buyB v g).1 (buyB v g).2) (B + 36 * h + 95) := by
  obtain ⟨n, r, hn⟩ := hv
  obtain ⟨m, q, q1, q2, q3, q4, q5⟩ := hg
  have hb : n 7 + 36 * (n 16 + n 17 + n 18 + n 19) ≤ 5 + 36 * h := hn.2.2.2.2.2.2.2.2.2
  obtain ⟨n', m', a1, a2, a3, b1, b2, b3, b4, b5⟩ := buyB_rep (X := B + 5 + 36 * h) (by omega) r q hn ⟨by omega, by omega, by omega, q4, q5⟩
  obtain ⟨y, ey⟩ : ∃ y, y = buyB v g := ⟨_, rfl⟩
  rw [← ey] at a1 a2 ⊢
  obtain ⟨h0, h1, h2, h4, h5, h6, h8, hl, he, hb9⟩ := a3
  have hp : payD y.1 = nI (min (n' 8) (n' 7)) := by
    unfold payD
    rw [a1 8 (by omega), a1 7 (by omega), imin_nI (by omega) (by omega)]
  have hm1 := Nat.min_le_left (n' 8) (n' 7)
  have hm2 := Nat.min_le_right (n' 8) (n' 7)
  obtain ⟨p, ep⟩ : ∃ p, p = min (n' 8) (n' 7) := ⟨_, rfl⟩
  rw [← ep] at hp hm1 hm2
  constructor
  · refine ⟨nup (nup n' 8 (n' 8 - p)) 7 (n' 7 - p), ?_, h0, h1, h2, h4, h5, h6, ?_, fun k hk => ?_, he, ?_⟩
    · unfold colV
      rw [hp]
      exact rep_up (rep_up a1 (by rw [a1 8 (by omega), nI_sub hm1])) (by rw [a1 7 (by omega), nI_sub hm2])
    · show n' 8 - p ≤ 90
      omega
    · rw [nup_ne (by omega), nup_ne (by omega)]
      exact hl k hk
    · show n' 7 - p + 36 * (n' 16 + n' 17 + n' 18 + n' 19) ≤ 5 + 36 * h
      omega
  · refine ⟨nup m' 1 (m' 1 + p), ?_, ?_, ?_, ?_, b4, b5⟩
    · unfold colG
      rw [hp]
      exact rep_up a2 (by rw [a2 1 (by omega), nI_add])
    · show m' 1 + p + m' 5 ≤ _
      omega
    · show m' 4 + m' 5 ≤ _
      omega
    · show m' 2 ≤ _
      omega
theorem dlv_rep {g : Nat → Int32} {B : Nat} (h : Fgv g B) : Fgr (dlv g) B := by
  obtain ⟨m, q, q1, q2, q3, q4, q5⟩ := h
  refine ⟨nup (nup (nup m 1 (m 1 + m 5)) 4 (m 4 + m 5)) 5 0, ?_, q1, q2, q3, q4, q5, rfl⟩
  unfold dlv
  exact rep_up (rep_up (rep_up q (by rw [q 1 (by omega), q 5 (by omega), nI_add])) (by rw [q 4 (by omega), q 5 (by omega), nI_add])) nI_0.symm
/-- all three nailers; all four foggers -/
def IN (N : Nat → Nat → Int32) (Lf : Nat → Nat) (h : Nat) : Prop := ∀ k, k < 3 → Nv (N k) (Lf k) h
def IF (F : Nat → Nat → Int32) (B : Nat) : Prop := ∀ i, i < 4 → Fgr (F i) B
theorem goN_rep {Lf : Nat → Nat} (hL : ∀ k, k < 3 → Lf k ≤ 1000) {h : Nat} : ∀ (n i s : Nat) (N : Nat → Nat → Int32), 3 ≤ i + n → (∀ k, k < 3 → Nv (N k) (Lf k) (if k < i then h + 1 else h)) → IN (goN n 3 0 i N (nI s)).1 Lf (h + 1) ∧ ∃ s2, s2 ≤ s + 162 * n ∧ (goN n 3 0 i N (nI s)).2 = nI s2
  | 0, i, s, N, hn, hI => ⟨fun k hk => by
      have a := hI k hk
      rw [if_pos (by omega)] at a
      exact a, s, by omega, rfl⟩
  | n + 1, i, s, N, hn, hI => by
    unfold goN
    by_cases c : 3 ≤ i
    · rw [if_pos c]
      exact ⟨fun k hk => by
        have a := hI k hk
        rw [if_pos (by omega)] at a
        exact a, s, by omega, rfl⟩
    · rw [if_neg c]
      have a := hI i (by omega)
      rw [if_neg (by omega)] at a
      obtain ⟨b1, g, hg, b2⟩ := work_rep a (hL i (by omega))
      rw [Nat.zero_add, b2, nI_add]
      obtain ⟨d1, s2, hs2, d2⟩ := goN_rep hL n (i + 1) (s + g) (va_up N i (workH (N i)).1) (by omega) (fun k hk => by
        by_cases e : k = i
        · subst e
          rw [va_up_self, if_pos (by omega)]
          exact b1
        · rw [va_up_ne _ _ e]
          have a := hI k hk
          by_cases e2 : k < i
          · rw [if_pos (by omega)]
            rwa [if_pos e2] at a
          · rw [if_neg (by omega)]
            rwa [if_neg e2] at a)
      exact ⟨d1, s2, by omega, d2⟩
theorem rkN_rep {Lf : Nat → Nat} {h : Nat} (hh : h ≤ 1000) : ∀ (n i B : Nat) (N F : Nat → Nat → Int32), B + n * 36095 < 2 ^ 29 → IN N Lf h → (∀ i, i < 4 → Fgv (F i) B) → IN (rkN n 3 0 0 i N F).1 Lf h ∧ ∀ k, k < 4 → Fgv ((rkN n 3 0 0 i N F).2 k) (B + n * (36 * h + 95))
  | 0, i, B, N, F, hB, hN, hF => ⟨hN, fun k hk => Fgv_up (hF k hk) (by omega)⟩
  | n + 1, i, B, N, F, hB, hN, hF => by
    unfold rkN
    by_cases c : 3 ≤ i
    · rw [if_pos c]
      exact ⟨hN, fun k hk => Fgv_up (hF k hk) (by omega)⟩
    · rw [if_neg c]
      obtain ⟨q, rq, hq⟩ := hN i (by omega)
      have hf : (N (0 + i) 2).toNatClampNeg = q 2 := by
        rw [Nat.zero_add, rq 2 (by omega), nI_clamp (by have := hq.2.2.1; omega)]
      have hq2 : q 2 < 4 := hq.2.2.1
      rw [hf, Nat.zero_add, Nat.zero_add]
      obtain ⟨b1, b2⟩ := rk_rep (hN i (by omega)) (hF (q 2) hq2) (by omega) hh
      have e9 : (n + 1) * 36095 = n * 36095 + 36095 := Nat.succ_mul _ _
      have e8 : (n + 1) * (36 * h + 95) = n * (36 * h + 95) + (36 * h + 95) := Nat.succ_mul _ _
      have := rkN_rep hh n (i + 1) (B + 36 * h + 95) (rk1 N F i (q 2)).1 (rk1 N F i (q 2)).2 (by omega) (fun k hk => by
        unfold rk1
        by_cases e : k = i
        · subst e
          show Nv (va_up N k _ k) _ _
          rw [va_up_self]
          exact b1
        · show Nv (va_up N i _ k) _ _
          rw [va_up_ne _ _ e]
          exact hN k hk) (fun k hk => by
        unfold rk1
        by_cases e : k = q 2
        · subst e
          show Fgv (va_up F (q 2) _ (q 2)) _
          rw [va_up_self]
          exact b2
        · show Fgv (va_up F (q 2) _ k) _
          rw [va_up_ne _ _ e]
          exact Fgv_up (hF k hk) (by omega))
      refine ⟨this.1, fun k hk => Fgv_up (this.2 k hk) ?_⟩
      rw [e8]
      omega
theorem dl4_rep {F : Nat → Nat → Int32} {B : Nat} (h : ∀ k, k < 4 → Fgv (F k) B) : IF (dl4 F 0) B := by
  intro k hk
  unfold dl4 dl1
  rcases (show k = 0 ∨ k = 1 ∨ k = 2 ∨ k = 3 by omega) with rfl | rfl | rfl | rfl
  · rw [va_up_ne _ _ (by omega), va_up_ne _ _ (by omega), va_up_ne _ _ (by omega), va_up_self]
    exact dlv_rep (h 0 hk)
  · rw [va_up_ne _ _ (by omega), va_up_ne _ _ (by omega), va_up_self, va_up_ne _ _ (by omega)]
    exact dlv_rep (h 1 hk)
  · rw [va_up_ne _ _ (by omega), va_up_self, va_up_ne _ _ (by omega), va_up_ne _ _ (by omega)]
    exact dlv_rep (h 2 hk)
  · rw [va_up_self, va_up_ne _ _ (by omega), va_up_ne _ _ (by omega), va_up_ne _ _ (by omega)]
    exact dlv_rep (h 3 hk)
/-- a bound of the foggers' numbers behind h hours -/
def Bh (h : Nat) : Nat := 60 + 50000 * h
theorem hour_rep {Lf : Nat → Nat} (hL : ∀ k, k < 3 → Lf k ≤ 1000) {h : Nat} (hh : h ≤ 300) {N F : Nat → Nat → Int32} {now : Int32} (hN : IN N Lf h) (hF : IF F (Bh h)) : IN (hourN 3 0 0 now N F).1 Lf (h + 1) ∧ IF (hourN 3 0 0 now N F).2 (Bh (h + 1)) ∧ ∃ s, s ≤ 648 ∧ hourG 3 0 N = nI s := by
  obtain ⟨a1, s, hs, a2⟩ := goN_rep hL 4 0 0 N (by omega) (fun k hk => by rw [if_neg (by omega)]; exact hN k hk)
  rw [nI_0] at a1 a2
  refine ⟨?_, ?_, s, by omega, a2⟩
  · unfold hourN
    by_cases c : now - now / 48 * 48 = 47
    · rw [if_pos c]
      exact (rkN_rep (by omega) 4 0 (Bh h) _ F (by unfold Bh; omega) a1 (fun k hk => Fgr_Fgv (hF k hk))).1
    · rw [if_neg c]
      exact a1
  · unfold hourN
    by_cases c : now - now / 48 * 48 = 47
    · rw [if_pos c]
      have := dl4_rep (rkN_rep (show h + 1 ≤ 1000 by omega) 4 0 (Bh h) _ F (by unfold Bh; omega) a1 (fun k hk => Fgr_Fgv (hF k hk))).2
      exact fun k hk => Fgr_up (this k hk) (by unfold Bh; omega)
    · rw [if_neg c]
      exact fun k hk => Fgr_up (hF k hk) (by unfold Bh; omega)
theorem goB_rep {Lf : Nat → Nat} (hL : ∀ k, k < 3 → Lf k ≤ 1000) : ∀ (d n h s q : Nat) (N F T : Nat → Nat → Int32), h + d ≤ 200 → q + d < 100 → IN N Lf h → IF F (Bh h) → d < n → IN (goB n (nI (q + d)) (nI q) 3 0 N F T (nI s)).1 Lf (h + d) ∧ IF (goB n (nI (q + d)) (nI q) 3 0 N F T (nI s)).2.1 (Bh (h + d)) ∧ ∃ s2, s2 ≤ s + 648 * d ∧ (goB n (nI (q + d)) (nI q) 3 0 N F T (nI s)).2.2.2 = nI s2
  | 0, n + 1, h, s, q, N, F, T, hh, hd, hN, hF, hn => by
    unfold goB
    rw [if_pos (show nI (q + 0) ≤ nI q from Int32.le_refl _)]
    exact ⟨hN, hF, s, by omega, rfl⟩
  | d + 1, n + 1, h, s, q, N, F, T, hh, hd, hN, hF, hn => by
    unfold goB
    rw [if_neg (fun z => by
      have := (nI_leI (by omega) (by omega)).mp z
      omega)]
    obtain ⟨a1, a2, g, hg, a3⟩ := hour_rep hL (h := h) (by omega) (now := T 0 0) hN hF
    have a3' : hourG 3 (12 * 0) N = nI g := a3
    rw [a3', nI_add, nI_1, show q + (d + 1) = (q + 1) + d by omega, show h + (d + 1) = (h + 1) + d by omega]
    obtain ⟨b1, b2, s2, hs2, b3⟩ := goB_rep hL d n (h + 1) (s + g) (q + 1) (hourN 3 0 0 (T 0 0) N F).1 (hourN 3 0 0 (T 0 0) N F).2 (hourT T 0) (by omega) (by omega) a1 a2 (by omega)
    exact ⟨b1, b2, s2, by omega, b3⟩
/-- five hours -/
theorem pass_rep {Lf : Nat → Nat} (hL : ∀ k, k < 3 → Lf k ≤ 1000) {h : Nat} (hh : h ≤ 150) {N F T : Nat → Nat → Int32} (hN : IN N Lf h) (hF : IF F (Bh h)) : IN (goB (fuel 5 0) 5 0 3 0 N F T 0).1 Lf (h + 5) ∧ IF (goB (fuel 5 0) 5 0 3 0 N F T 0).2.1 (Bh (h + 5)) ∧ ∃ s2, s2 ≤ 3240 ∧ (goB (fuel 5 0) 5 0 3 0 N F T 0).2.2.2 = nI s2 := by
  obtain ⟨a1, a2, s2, hs, a3⟩ := goB_rep hL 5 (fuel 5 0) h 0 0 N F T (by omega) (by omega) hN hF (by decide)
  exact ⟨a1, a2, s2, by omega, a3⟩
end
section
/-! WHAT IS FORESEEN COMES; ASKING LEAVES THE CHECKSUM; WHAT CALLS ANSWER -/
theorem up_sim {α : Type} {N N' : Nat → α} {b b' i : Nat} {x : α} (h : ∀ k, k < 3 → N' (b' + k) = N (b + k)) : ∀ k, k < 3 → va_up N' (b' + i) x (b' + k) = va_up N (b + i) x (b + k) := by
  intro k hk
  by_cases e : k = i
  · subst e
    rw [va_up_self, va_up_self]
  · rw [va_up_ne _ _ (by omega), va_up_ne _ _ (by omega)]
    exact h k hk
theorem up_sim4 {α : Type} {N N' : Nat → α} {b b' i : Nat} {x : α} (h : ∀ k, k < 4 → N' (b' + k) = N (b + k)) : ∀ k, k < 4 → va_up N' (b' + i) x (b' + k) = va_up N (b + i) x (b + k) := by
  intro k hk
  by_cases e : k = i
  · subst e
    rw [va_up_self, va_up_self]
  · rw [va_up_ne _ _ (by omega), va_up_ne _ _ (by omega)]
    exact h k hk
theorem goN_sim {b b' : Nat} : ∀ (n i : Nat) (N N' : Nat → Nat → Int32) (sm : Int32), (∀ k, k < 3 → N' (b' + k) = N (b + k)) → (∀ k, k < 3 → (goN n 3 b' i N' sm).1 (b' + k) = (goN n 3 b i N sm).1 (b + k)) ∧ (goN n 3 b' i N' sm).2 = (goN n 3 b i N sm).2
  | 0, i, N, N', sm, h => ⟨h, rfl⟩
  | n + 1, i, N, N', sm, h => by
    unfold goN
    by_cases c : 3 ≤ i
    · rw [if_pos c, if_pos c]
      exact ⟨h, rfl⟩
    · rw [if_neg c, if_neg c, h i (by omega)]
      exact goN_sim n (i + 1) _ _ _ (up_sim h)
theorem rkN_sim {b b' fb fb' : Nat} : ∀ (n i : Nat) (N N' F F' : Nat → Nat → Int32), (∀ k, k < 3 → N' (b' + k) = N (b + k)) → (∀ k, k < 4 → F' (fb' + k) = F (fb + k)) → (∀ k, k < 3 → (N (b + k) 2).toNatClampNeg < 4) → (∀ k, k < 3 → (rkN n 3 b' fb' i N' F').1 (b' + k) = (rkN n 3 b fb i N F).1 (b + k)) ∧ (∀ k, k < 4 → (rkN n 3 b' fb' i N' F').2 (fb' + k) = (rkN n 3 b fb i N F).2 (fb + k))
  | 0, i, N, N', F, F', h, hf, hk => ⟨h, hf⟩
  | n + 1, i, N, N', F, F', h, hf, hk => by
    unfold rkN
    by_cases c : 3 ≤ i
    · rw [if_pos c, if_pos c]
      exact ⟨h, hf⟩
    · rw [if_neg c, if_neg c]
      unfold rk1
      rw [h i (by omega), hf _ (hk i (by omega))]
      refine rkN_sim n (i + 1) _ _ _ _ (up_sim h) (up_sim4 hf) (fun k hk9 => ?_)
      by_cases e : k = i
      · subst e
        show (va_up N (b + k) _ (b + k) 2).toNatClampNeg < 4
        rw [va_up_self, colV_k (by omega), buyB_k (by omega)]
        exact hk k hk9
      · show (va_up N (b + i) _ (b + k) 2).toNatClampNeg < 4
        rw [va_up_ne _ _ (by omega)]
        exact hk k hk9
theorem dl1_sim {fb fb' i : Nat} {F F' : Nat → Nat → Int32} (hi : i < 4) (h : ∀ k, k < 4 → F' (fb' + k) = F (fb + k)) : ∀ k, k < 4 → dl1 F' (fb' + i) (fb' + k) = dl1 F (fb + i) (fb + k) := by
  unfold dl1
  rw [h i hi]
  exact up_sim4 h
theorem goN_2 {c b x : Nat} : ∀ (n i : Nat) (N : Nat → Nat → Int32) (sm : Int32), (goN n c b i N sm).1 x 2 = N x 2
  | 0, _, _, _ => rfl
  | n + 1, i, N, sm => by
    unfold goN
    split
    · rfl
    · rw [goN_2 n]
      by_cases e : x = b + i
      · subst e
        rw [va_up_self, workH_2]
      · rw [va_up_ne _ _ e]
theorem rkN_2 {c b fb x : Nat} : ∀ (n i : Nat) (N F : Nat → Nat → Int32), (rkN n c b fb i N F).1 x 2 = N x 2
  | 0, _, _, _ => rfl
  | n + 1, i, N, F => by
    unfold rkN
    split
    · rfl
    · rw [rkN_2 n]
      unfold rk1
      by_cases e : x = b + i
      · subst e
        show va_up N (b + i) _ (b + i) 2 = _
        rw [va_up_self, colV_k (by omega), buyB_k (by omega)]
      · show va_up N (b + i) _ x 2 = _
        rw [va_up_ne _ _ e]
theorem hour_2 {c b fb x : Nat} {now : Int32} {N F : Nat → Nat → Int32} : (hourN c b fb now N F).1 x 2 = N x 2 := by
  unfold hourN
  split
  · show (rkN (c + 1) c b fb 0 _ F).1 x 2 = _
    rw [rkN_2, goN_2]
  · exact goN_2 _ _ _ _
theorem hour_sim {b b' fb fb' : Nat} {now : Int32} {N N' F F' : Nat → Nat → Int32} (h : ∀ k, k < 3 → N' (b' + k) = N (b + k)) (hf : ∀ k, k < 4 → F' (fb' + k) = F (fb + k)) (hk : ∀ k, k < 3 → (N (b + k) 2).toNatClampNeg < 4) :
    (∀ k, k < 3 → (hourN 3 b' fb' now N' F').1 (b' + k) = (hourN 3 b fb now N F).1 (b + k)) ∧ (∀ k, k < 4 → (hourN 3 b' fb' now N' F').2 (fb' + k) = (hourN 3 b fb now N F).2 (fb + k)) ∧ hourG 3 b' N' = hourG 3 b N := by
  have g := goN_sim (3 + 1) 0 N N' 0 h
  have r := rkN_sim (3 + 1) 0 _ _ F F' g.1 hf (fun k hk9 => by rw [goN_2]; exact hk k hk9)
  refine ⟨?_, ?_, g.2⟩
  · unfold hourN
    by_cases c : now - now / 48 * 48 = 47
    · rw [if_pos c, if_pos c]
      exact r.1
    · rw [if_neg c, if_neg c]
      exact g.1
  · unfold hourN
    by_cases c : now - now / 48 * 48 = 47
    · rw [if_pos c, if_pos c]
      exact dl1_sim (by omega) (dl1_sim (by omega) (dl1_sim (by omega) (dl1_sim (by omega) r.2)))
    · rw [if_neg c, if_neg c]
      exact hf
theorem goB_sim {t t' : Nat} {h : Int32} : ∀ (n : Nat) (i : Int32) (N N' F F' T T' : Nat → Nat → Int32) (sm : Int32), (∀ k, k < 3 → N' (12 * t' + k) = N (12 * t + k)) → (∀ k, k < 4 → F' (4 * t' + k) = F (4 * t + k)) → T' t' 0 = T t 0 → (∀ k, k < 3 → (N (12 * t + k) 2).toNatClampNeg < 4) →
    ∀ k, k < 3 → (goB n h i 3 t' N' F' T' sm).1 (12 * t' + k) = (goB n h i 3 t N F T sm).1 (12 * t + k)
  | 0, _, _, _, _, _, _, _, _, hN, _, _, _ => hN
  | n + 1, i, N, N', F, F', T, T', sm, hN, hF, hT, hk => by
    unfold goB
    by_cases c : h ≤ i
    · rw [if_pos c, if_pos c]
      exact hN
    · obtain ⟨a1, a2, a3⟩ := hour_sim (now := T t 0) hN hF hk
      rw [if_neg c, if_neg c, hT, a3]
      refine goB_sim n _ _ _ _ _ _ _ _ a1 a2 ?_ (fun k hk9 => by rw [hour_2]; exact hk k hk9)
      unfold hourT
      rw [va_up_self, va_up_self, upd_at, upd_at, hT]
theorem shS_sim {b b' kk : Nat} {N N' : Nat → Nat → Int32} (h : ∀ k, k < 3 → N' (b' + k) = N (b + k)) : ∀ (n i : Nat) (sm : Int32), shS n kk 3 b' i N' sm = shS n kk 3 b i N sm
  | 0, _, _ => rfl
  | n + 1, i, sm => by
    unfold shS
    by_cases c : 3 ≤ i
    · rw [if_pos c, if_pos c]
    · rw [if_neg c, if_neg c, h i (by omega), shS_sim h n]
theorem wkF_sim {b b' : Nat} {q : Int32} {N N' : Nat → Nat → Int32} (h : ∀ k, k < 3 → N' (b' + k) = N (b + k)) : ∀ (n i : Nat) (sm : Int32), wkF n q 3 b' i N' sm = wkF n q 3 b i N sm
  | 0, _, _ => rfl
  | n + 1, i, sm => by
    unfold wkF
    by_cases c : 3 ≤ i
    · rw [if_pos c, if_pos c]
    · rw [if_neg c, if_neg c, h i (by omega), wkF_sim h n]
theorem digN_sim {b b' : Nat} {N N' : Nat → Nat → Int32} (h : ∀ k, k < 3 → N' (b' + k) = N (b + k)) : ∀ (n i : Nat) (d : Int64), digN n 3 b' i N' d = digN n 3 b i N d
  | 0, _, _ => rfl
  | n + 1, i, d => by
    unfold digN
    by_cases c : 3 ≤ i
    · rw [if_pos c, if_pos c]
    · rw [if_neg c, if_neg c, h i (by omega), digN_sim h n]
theorem tot_sim {N F T N' F' T' : Nat → Nat → Int32} (h : ∀ k, k < 3 → N' (12 * 0 + k) = N (12 * 0 + k)) (hf : ∀ k, k < 4 → F' (4 * 0 + k) = F (4 * 0 + k)) (hT : T' 0 = T 0) (k : Nat) : totN N' F' T' 0 3 k = totN N F T 0 3 k := by
  unfold totN boughtF
  rw [hT, hf 0 (by omega), hf 1 (by omega), hf 2 (by omega), hf 3 (by omega), shS_sim h]
theorem fog_sim {N F N' F' : Nat → Nat → Int32} (h : ∀ k, k < 3 → N' (12 * 0 + k) = N (12 * 0 + k)) (hf : ∀ k, k < 4 → F' (4 * 0 + k) = F (4 * 0 + k)) {q : Int32} (hq : q.toNatClampNeg < 4) (k : Nat) : fogN N' F' 0 3 q k = fogN N F 0 3 q k := by
  unfold fogN
  rw [hf _ hq, wkF_sim h]
theorem dig_sim {N F T N' F' T' : Nat → Nat → Int32} (h : ∀ k, k < 3 → N' (12 * 0 + k) = N (12 * 0 + k)) (hf : ∀ k, k < 4 → F' (4 * 0 + k) = F (4 * 0 + k)) (hT : T' 0 = T 0) : digC N' F' T' 3 = digC N F T 3 := by
  have e := tot_sim h hf hT
  have f0 := fog_sim h hf (q := 0) (by decide)
  have f1 := fog_sim h hf (q := 1) (by decide)
  have f2 := fog_sim h hf (q := 2) (by decide)
  have f3 := fog_sim h hf (q := 3) (by decide)
  unfold digC
  rw [digN_sim h]
  simp only [e, f0, f1, f2, f3]
theorem whl1_eq (v : Nat → Int32) : whl1 v = ((workH v).1, 0 + (workH v).2) := by
  unfold whl1
  rw [show fuel 1 0 = 2 by decide, wHl, if_neg (by decide), wHl, if_pos (by decide)]
theorem advL_le {q : Int32} {j : Nat} : ∀ (n i : Nat) (N : Nat → Nat → Int32) (best bw : Int32), (∃ b, b < 4 ∧ best = nI b) → ∃ b, b < 4 ∧ (advL n q j i N best bw).2 = nI b
  | 0, _, _, _, _, h => h
  | n + 1, i, N, best, bw, h => by
    unfold advL
    split
    · exact h
    · split
      · exact advL_le n _ _ _ _ h
      · exact advL_le n _ _ _ _ ⟨i, by omega, rfl⟩
theorem advL_of {q : Int32} {j x : Nat} (hx : x ≠ 24) : ∀ (n i : Nat) (N : Nat → Nat → Int32) (best bw : Int32), (advL n q j i N best bw).1 x = N x
  | 0, _, _, _, _ => rfl
  | n + 1, i, N, best, bw => by
    unfold advL
    split
    · rfl
    · split
      · rw [advL_of hx n, va_up_ne _ _ hx]
      · rw [advL_of hx n, va_up_ne _ _ hx]
theorem ricL_le {b : Nat} {N : Nat → Nat → Int32} : ∀ (n i : Nat) (best bw : Int32), (∃ k, k < 3 ∧ best = nI k) → ∃ k, k < 3 ∧ ricL n 3 b i N best bw = nI k
  | 0, _, _, _, h => h
  | n + 1, i, best, bw, h => by
    unfold ricL
    split
    · exact h
    · split
      · exact ricL_le n _ _ _ ⟨i, by omega, rfl⟩
      · split
        · exact ricL_le n _ _ _ h
        · exact ricL_le n _ _ _ ⟨i, by omega, rfl⟩
theorem ric_ok {N : Nat → Nat → Int32} : ∃ k, k < 3 ∧ ricL 4 3 (12 * 0) 0 N (-1) 0 = nI k := by
  unfold ricL
  rw [if_neg (by omega), if_pos (by decide)]
  exact ricL_le 3 1 _ _ ⟨0, by omega, rfl⟩
theorem cpN_at {N : Nat → Nat → Int32} : ∀ k, k < 3 → cpN 4 3 (12 * 1) (12 * 0) 0 N (12 * 1 + k) = N (12 * 0 + k) := by
  intro k hk
  simp only [cpN]
  rw [if_neg (by omega), if_neg (by omega), if_neg (by omega), if_pos (by omega)]
  rcases (show k = 0 ∨ k = 1 ∨ k = 2 by omega) with rfl | rfl | rfl <;> simp [va_up]
theorem cpN_of {N : Nat → Nat → Int32} {x : Nat} (hx : x < 12) : cpN 4 3 (12 * 1) (12 * 0) 0 N x = N x := by
  simp only [cpN]
  rw [if_neg (by omega), if_neg (by omega), if_neg (by omega), if_pos (by omega), va_up_ne _ _ (by omega), va_up_ne _ _ (by omega), va_up_ne _ _ (by omega)]
theorem cp4_at {F : Nat → Nat → Int32} : ∀ k, k < 4 → cp4 F (4 * 1) (4 * 0) (4 * 1 + k) = F (4 * 0 + k) := by
  intro k hk
  unfold cp4 cp1
  rcases (show k = 0 ∨ k = 1 ∨ k = 2 ∨ k = 3 by omega) with rfl | rfl | rfl | rfl <;> simp [va_up]
theorem cp4_of {F : Nat → Nat → Int32} {x : Nat} (hx : x < 4) : cp4 F (4 * 1) (4 * 0) x = F x := by
  unfold cp4 cp1
  rw [va_up_ne _ _ (by omega), va_up_ne _ _ (by omega), va_up_ne _ _ (by omega), va_up_ne _ _ (by omega)]
theorem goN_off {c b x : Nat} : ∀ (n i : Nat) (N : Nat → Nat → Int32) (sm : Int32), (x < b + i ∨ b + c ≤ x) → (goN n c b i N sm).1 x = N x
  | 0, _, _, _, _ => rfl
  | n + 1, i, N, sm, h => by
    unfold goN
    split
    · rfl
    · rw [goN_off n (i + 1) _ _ (by omega), va_up_ne _ _ (by omega)]
theorem rkN_off {c b fb x : Nat} : ∀ (n i : Nat) (N F : Nat → Nat → Int32), (x < b + i ∨ b + c ≤ x) → (rkN n c b fb i N F).1 x = N x
  | 0, _, _, _, _ => rfl
  | n + 1, i, N, F, h => by
    unfold rkN
    split
    · rfl
    · rw [rkN_off n (i + 1) _ _ (by omega)]
      unfold rk1
      exact va_up_ne _ _ (by omega)
theorem rkF_off {c b fb x : Nat} : ∀ (n i : Nat) (N F : Nat → Nat → Int32), x < fb → (rkN n c b fb i N F).2 x = F x
  | 0, _, _, _, _ => rfl
  | n + 1, i, N, F, h => by
    unfold rkN
    split
    · rfl
    · rw [rkF_off n (i + 1) _ _ h]
      unfold rk1
      exact va_up_ne _ _ (by omega)
theorem dl4_off {fb x : Nat} {F : Nat → Nat → Int32} (h : x < fb) : dl4 F fb x = F x := by
  unfold dl4 dl1
  rw [va_up_ne _ _ (by omega), va_up_ne _ _ (by omega), va_up_ne _ _ (by omega), va_up_ne _ _ (by omega)]
theorem hourN_off {c b fb x : Nat} {now : Int32} {N F : Nat → Nat → Int32} (h : x < b ∨ b + c ≤ x) : (hourN c b fb now N F).1 x = N x := by
  unfold hourN
  split
  · unfold weekR
    show (rkN (c + 1) c b fb 0 _ F).1 x = _
    rw [rkN_off _ _ _ _ (by omega), goN_off _ _ _ _ (by omega)]
  · show (goN (c + 1) c b 0 N 0).1 x = _
    exact goN_off _ _ _ _ (by omega)
theorem hourF_off {c b fb x : Nat} {now : Int32} {N F : Nat → Nat → Int32} (h : x < fb) : (hourN c b fb now N F).2 x = F x := by
  unfold hourN
  split
  · unfold weekR
    show dl4 (rkN (c + 1) c b fb 0 _ F).2 fb x = _
    rw [dl4_off h, rkF_off _ _ _ _ h]
  · rfl
theorem goB_N {c t x : Nat} {h : Int32} (hx : x < 12 * t ∨ 12 * t + c ≤ x) : ∀ (n : Nat) (i : Int32) (N F T : Nat → Nat → Int32) (sm : Int32), (goB n h i c t N F T sm).1 x = N x
  | 0, _, _, _, _, _ => rfl
  | n + 1, i, N, F, T, sm => by
    unfold goB
    split
    · rfl
    · rw [goB_N hx n, hourN_off hx]
theorem goB_F {c t x : Nat} {h : Int32} (hx : x < 4 * t) : ∀ (n : Nat) (i : Int32) (N F T : Nat → Nat → Int32) (sm : Int32), (goB n h i c t N F T sm).2.1 x = F x
  | 0, _, _, _, _, _ => rfl
  | n + 1, i, N, F, T, sm => by
    unfold goB
    split
    · rfl
    · rw [goB_F hx n, hourF_off hx]
theorem goB_T {c t x : Nat} {h : Int32} (hx : x ≠ t) : ∀ (n : Nat) (i : Int32) (N F T : Nat → Nat → Int32) (sm : Int32), (goB n h i c t N F T sm).2.2.1 x = T x
  | 0, _, _, _, _, _ => rfl
  | n + 1, i, N, F, T, sm => by
    unfold goB
    split
    · rfl
    · rw [goB_T hx n]
      unfold hourT
      exact va_up_ne _ _ hx
theorem goB_T1 {c t : Nat} {h : Int32} : ∀ (n : Nat) (i : Int32) (N F T : Nat → Nat → Int32) (sm : Int32), (goB n h i c t N F T sm).2.2.1 t 1 = T t 1
  | 0, _, _, _, _, _ => rfl
  | n + 1, i, N, F, T, sm => by
    unfold goB
    split
    · rfl
    · rw [goB_T1 n]
      unfold hourT
      rw [va_up_self, upd_ge (by omega)]
end
section
/-! THE LAW'S OWN ROWS -/
def setF (P : L5) (b : Bool) : L5 := (P.1, P.2.1, P.2.2.1, P.2.2.2.1, b, P.2.2.2.2.2)
theorem cw_flag {P : L5} {b : Bool} {N F T : Nat → Nat → Int32} {K : Nat → Int32} {A : Nat → Nat → Int32} {w : Int64} : cw (setF P b) N F T K A w = cw P N F T K A w := rfl
theorem nW_t {P : L5} (h : P.2.2.2.2.1 = true) : nW P = 91 := by unfold nW; rw [h]; rfl
theorem nW_f {P : L5} (h : P.2.2.2.2.1 = false) : nW P = 90 := by unfold nW; rw [h]; rfl
theorem kd_90 : ∀ a, a < 91 → a ≠ 90 → kd a ≠ (9, 0) := by decide +kernel
section LawRows
variable {p : Program} {l : Launch} {e : Env} {R : Room} {s : State} {m : MethodId} {args : Array Value} {below : List Frame} {meth : Method} {c : Code} {P : L5} {D : va_G} {Q : State → Prop} {nL n : Nat} {x : Prop} {f : Nat → va_E} {k z pc : Nat} {lv : List (Nat × Value)} {st : List Value} {cc : ByteArray} {ret : Option FieldType} {own : String}
variable {N F T : Nat → Nat → Int32} {K : Nat → Int32} {A : Nat → Nat → Int32} {w : Int64}
theorem Cx.flag {b : Bool} (C : Cx p l s m args meth c P D cc nL ret own) : Cx p l s m args meth c (setF P b) D cc nL ret own := C
theorem v_flag {b : Bool} (kk : V p l e R s m args below meth c (setF P b) D Q nL n x f k z pc lv st) : V p l e R s m args below meth c P D Q nL n x f k z pc lv st := kk
theorem v_ldc (C : Cx p l s m args meth c P D cc nL ret own) {index : Nat} {v : Int32} (hk : Cond.constant own index v ∈ gtb) (hdg : decode cc pc = .ok (.ldc index, 2)) (kk : V p l e R s m args below meth c P D Q nL n x f k z (pc + 2) lv (.int v :: st)) : V p l e R s m args below meth c P D Q nL n x f k z pc lv st := fun H locs ls hP hz hS hl => lv_ldc C.1 C.2.1 C.2.2.2.1 (C.2.2.2.2.1 _ hk) hdg (kk H locs ls hP hz hS hl)
theorem v_ishr (C : Cx p l s m args meth c P D cc nL ret own) {a b : Int32} (hdg : decode cc pc = .ok (.ishr, 1)) (kk : V p l e R s m args below meth c P D Q nL n x f k z (pc + 1) lv (.int (a >>> (b &&& 31)) :: st)) : V p l e R s m args below meth c P D Q nL n x f k z pc lv (.int b :: .int a :: st) := fun H locs ls hP hz hS hl => lv_ishr C.1 C.2.1 hdg (kk H locs ls hP hz hS hl)
theorem v_lload (C : Cx p l s m args meth c P D cc nL ret own) {i : Nat} {a : Int64} (q : Nat) (hdg : decode cc pc = .ok (.lload i, 2)) (hq : lv[q]? = some (i, .long a)) (kk : V p l e R s m args below meth c P D Q nL n x f k z (pc + 2) lv (.long a :: st)) : V p l e R s m args below meth c P D Q nL n x f k z pc lv st := fun H locs ls hP hz hS hl => lv_lload C.1 C.2.1 hdg (lv_at hl q hq) (kk H locs ls hP hz hS hl)
theorem v_lstore (C : Cx p l s m args meth c P D cc nL ret own) {i : Nat} {a : Int64} {lv' : List (Nat × Value)} (hdg : decode cc pc = .ok (.lstore i, 2)) (hn : i + 1 < nL) (hl2 : (i, Value.long a) :: lv.filter (fun q => !(q.1 == i) && (!(q.1 == i + 1) && !(q.1 + 1 == i && q.2.category == 2))) = lv') (kk : V p l e R s m args below meth c P D Q nL n x f k z (pc + 2) lv' st) : V p l e R s m args below meth c P D Q nL n x f k z pc lv (.long a :: st) := fun H locs ls hP hz hS hl => lv_lstore C.1 C.2.1 hdg hl hn hl2 (fun ls' hl' => kk H locs ls' hP hz hS hl')
theorem v_slen (C : Cx p l s m args meth c P D cc nL ret own) {b L : Nat} {xs : Nat → Int32} (hX : va_X b L xs s s.heap) (hbl : b < s.heap.size) (hbP : b < P.1) (hdg : decode cc pc = .ok (.arraylength, 1)) (kk : V p l e R s m args below meth c P D Q nL n x f k z (pc + 1) lv (.int (nI L) :: st)) : V p l e R s m args below meth c P D Q nL n x f k z pc lv (.ref b :: st) := by
  intro H locs ls hP hz hS hl
  obtain ⟨hx, hb, -⟩ := C
  exact va_slen hx hb hX hbl (Nat.not_le.mpr hbP) hS hdg (kk H locs ls hP hz hS hl)
theorem v_sld (C : Cx p l s m args meth c P D cc nL ret own) {b L : Nat} {xs : Nat → Int32} (hX : va_X b L xs s s.heap) (hbl : b < s.heap.size) (hbP : b < P.1) {i : Int32} {t : Nat} (hi : i = nI t) (ht : t < L) (hL : L ≤ 2048) (hdg : decode cc pc = .ok (.iaload, 1)) (kk : V p l e R s m args below meth c P D Q nL n x f k z (pc + 1) lv (.int (xs t) :: st)) : V p l e R s m args below meth c P D Q nL n x f k z pc lv (.int i :: .ref b :: st) := by
  subst hi
  intro H locs ls hP hz hS hl
  obtain ⟨hx, hb, -⟩ := C
  have e0 : (nI t).toNatClampNeg = t := nI_clamp (by omega)
  refine va_sld hx hb hX hbl (Nat.not_le.mpr hbP) hS (vp_in_nI ht (by omega)) hdg ?_
  rw [e0]
  exact kk H locs ls hP hz hS hl
/-- of a world that grows: the rest forgets that nothing else was made -/
theorem v_open (kk : V p l e R s m args below meth c P D Q nL n False f k z pc lv st) : V p l e R s m args below meth c P D Q nL n x f k z pc lv st := fun H locs ls hP _ hS hl => kk H locs ls hP (fun h => h.elim) hS hl
/-- as many cells were made as the world has: nothing else was made -/
theorem v_size (hs : s.heap.size = P.1) (hn : n = k) (hn0 : 0 < n) (kk : V p l e R s m args below meth c P D Q nL n True f k z pc lv st) : V p l e R s m args below meth c P D Q nL n False f k z pc lv st := by
  intro H locs ls hP hz hS hl T9 hT X
  refine kk H locs ls hP (fun _ => ?_) hS hl T9 hT X
  have h1 := X.heapSize
  have h2 : P.1 + (n - 1) < H.size := (hP (n - 1) _ (wl_get (by omega))).lt
  rw [hT, hs] at h1
  omega
theorem v_iretP {Rp : Int32 → Prop} (C : Cx p l s m args meth c P D cc nL (some .int) own) {f' : Nat → va_E} {a : Int32} (hdg : decode cc pc = .ok (.ireturn, 1)) (hf : f = f') (hr : Rp a) : V p l e R s m args below meth c P D (MQ below (va_Qi (fun (r : Int32) (_ : Unit) => Rp r) (PostB P D n x f') (aO P)) args s k z (aO P)) nL n x f k z pc lv [.int a] := by
  subst hf
  intro H locs ls hP hz hS hl
  exact W.iret C.1 C.2.1 C.2.2.2.2.2.1 (fun t ht hW => ⟨⟨a, (), rfl, hr, by rw [ht]; exact hP, fun hx => by rw [ht]; exact hz hx⟩, hS.F ht⟩) hS.2.2 hdg C.2.2.2.2.2.2.1
theorem go_P {Rp : Int32 → Prop} {mc ms n' : Nat} {f' : Nat → va_E} {rest : List Value} {a : Array Value} (hr : ∀ (H : Heap) (locs : List Loc) (ls : Array Slot), va_P D vwCl (wl P.1 n f) H → (x → H.size = P.1 + n) → va_S (fun q => P.1 ≤ q) s.heap H locs → lv_has ls nL lv → va_Run p l e R s m args below meth c H locs k z mc ms (F0 m pc ls st) rest ((va_Qi (fun (r : Int32) (_ : Unit) => Rp r) (PostB P D n' x f') (aO P)) a) (aO P)) (kk : ∀ r, Rp r → V p l e R s m args below meth c P D Q nL n' x f' (k + mc) (z + ms) (pc + 3) lv (.int r :: rest)) : V p l e R s m args below meth c P D Q nL n x f k z pc lv st := by
  intro H locs ls hP hz hS hl
  refine va_calli (hr H locs ls hP hz hS hl) hS (fun q _ h => h) (fun q h => h) (fun r9 u t H1 locs1 ht hvm hw hB hz1 hk1 hS1 => ?_)
  subst ht
  exact kk r9 hw _ locs1 ls hB.1 hB.2 hS1 hl
theorem wl_90 (hfl : P.2.2.2.2.1 = true) : (wl P.1 (nW P) (cw P N F T K A w))[90]? = some (rA P 0, .inl (P.2.1, 3, .inl (A 0))) := by
  rw [nW_t hfl, wl_get (by omega)]
  rfl
theorem v_ldE (C : Cx p l s m args meth c P D cc nL ret own) (hfl : P.2.2.2.2.1 = true) (t : Nat) {i : Int32} (hi : i = nI t) (ht : t < 3) (hdg : decode cc pc = .ok (.iaload, 1)) (kk : V p l e R s m args below meth c P D Q nL (nW P) False (cw P N F T K A w) k z (pc + 1) lv (.int (A 0 t) :: st)) : V p l e R s m args below meth c P D Q nL (nW P) False (cw P N F T K A w) k z pc lv (.int i :: .ref (rA P 0) :: st) := by
  subst hi
  have e0 : (nI t).toNatClampNeg = t := nI_clamp (by omega)
  intro H locs ls hP hz hS hl
  obtain ⟨hx, hb, hml, hown, hts, hr, hlk, hK, ho, hST⟩ := C
  refine va_iald (n := 3) (f := A 0) hx hb hK hP 90 0 (wl_90 hfl) rfl (vp_in_nI ht (by omega)) hdg ?_
  rw [e0]
  exact kk H locs ls hP hz hS hl
theorem v_stE (C : Cx p l s m args meth c P D cc nL ret own) (hfl : P.2.2.2.2.1 = true) (t : Nat) {i a : Int32} (hi : i = nI t) (ht : t < 3) (hdg : decode cc pc = .ok (.iastore, 1)) (kk : V p l e R s m args below meth c P D Q nL (nW P) False (cw P N F T K (va_up A 0 (upd (A 0) t a)) w) k z (pc + 1) lv st) : V p l e R s m args below meth c P D Q nL (nW P) False (cw P N F T K A w) k z pc lv (.int a :: .int i :: .ref (rA P 0) :: st) := by
  subst hi
  have e0 : (nI t).toNatClampNeg = t := nI_clamp (by omega)
  intro H locs ls hP hz hS hl
  obtain ⟨hx, hb, hml, hown, hts, hr, hlk, hK, ho, hST⟩ := C
  refine va_iast (n := 3) (f := A 0) hx hb hK hP (wl_D _ _ _) hS 90 0 (wl_90 hfl) rfl (vp_in_nI ht (by omega)) hdg (fun H1 locs1 hP1 _ hS1 => ?_)
  have e1 : (wl P.1 (nW P) (cw P N F T K A w)).set 90 (rA P 0, .inl (P.2.1, 3, .inl (upd (A 0) (nI t).toNatClampNeg a))) = wl P.1 (nW P) (cw P N F T K (va_up A 0 (upd (A 0) t a)) w) := by
    rw [e0, nW_t hfl]
    show (wl P.1 91 (cw P N F T K A w)).set 90 (P.1 + 90, _) = _
    rw [wl_set (by omega)]
    refine wl_cong fun a9 ha => ?_
    by_cases h9 : a9 = 90
    · subst h9
      rw [va_up_self]
      show _ = (.inl (P.2.1, 3, .inl (va_up A 0 (upd (A 0) t a) 0)) : va_E)
      rw [va_up_self]
    · rw [va_up_ne _ _ h9]
      exact cK_frA (fun i9 hi9 => (va_up_ne _ _ hi9).symm) (kd_90 a9 ha h9)
  rw [e1] at hP1
  exact kk H1 locs1 ls hP1 (fun h9 => h9.elim) hS1 hl
end LawRows
/-- a contract whose answer is told by a property -/
def CtP (l : Launch) (y : MethodName) (b : ByteArray) (nL : Nat) (h : Nat) (P : L5) (D : va_G) (n : Nat) (x : Prop) (f : Nat → va_E) (av : List Value) (Rp : Int32 → Prop) : Prop := Met l y (.code y b nL (some .int) :: gtb) (rmO h 0 0) (va_Pc av (PreI P D n x f)) (va_Qi (fun (r : Int32) (_ : Unit) => Rp r) (PostB P D n x f) (aO P)) 0 0 (aO P)
theorem and_max {v : Int32} : ∃ j, j < 2 ^ 31 ∧ v &&& 2147483647 = nI j := by
  refine nI_of ?_
  rw [Int32.lt_iff_toInt_lt]
  have h : (v &&& 2147483647).toBitVec.msb = false := by
    rw [Int32.toBitVec_and, BitVec.msb_and]
    rw [show (2147483647 : Int32).toBitVec.msb = false by decide, Bool.and_false]
  have h2 : 0 ≤ (v &&& 2147483647).toInt := BitVec.toInt_nonneg_of_msb_false h
  rw [show (0 : Int32).toInt = 0 from rfl]
  omega
theorem mod_nI {a m : Nat} (ha : a < 2 ^ 31) (hm0 : 0 < m) (hm : m < 2 ^ 31) : nI a - nI a / nI m * nI m = nI (a % m) := by
  rw [nI_div ha hm, nI_mul, nI_sub (Nat.div_mul_le_self _ _)]
  congr 1
  have := Nat.div_add_mod a m
  rw [Nat.mul_comm] at this
  omega
set_option maxHeartbeats 4000000 in
theorem c_L_below {l : Launch} {P : L5} {D : va_G} {n : Nat} {x : Prop} {f : Nat → va_E} {v : Int32} {m : Nat} (hm0 : 0 < m) (hm : m < 2 ^ 31) : CtP l yL_below cL_below 2 1 P D n x f [.int v, .int (nI m)] (fun r => ∃ j, j < m ∧ r = nI j) := by
  refine mk_Met pl_L [(0, .int v), (1, .int (nI m))] rfl (Nat.le_of_ble_eq_true rfl) ?_
  intro pg en sg mg ag bg mt cd C
  refine v_iload_n C 0 dL_below_0 rfl ?_
  refine v_ldc (v := 2147483647) C k_298 dL_below_1 ?_
  refine v_iand C dL_below_3 ?_
  obtain ⟨j, hj, ej⟩ := and_max (v := v)
  rw [ej]
  refine v_iload_n C 1 dL_below_4 rfl ?_
  refine v_irem C dL_below_5 (nI_ne0 hm0 hm) ?_
  exact v_iretP C dL_below_6 rfl ⟨j % m, Nat.mod_lt _ hm0, mod_nI hj hm0 hm⟩
set_option maxHeartbeats 4000000 in
theorem c_L_cell {l : Launch} {P : L5} {D : va_G} {n : Nat} {x : Prop} {f : Nat → va_E} {t : Nat} (ht : t < 1000) : CtP l yL_cell cL_cell 2 1 P D n x f [.ref (rS P 5), .int (nI t)] (fun _ => True) := by
  refine mk_Met pl_L [(0, .ref (rS P 5)), (1, .int (nI t))] rfl (Nat.le_of_ble_eq_true rfl) ?_
  intro pg en sg mg ag bg mt cd C
  obtain ⟨xs, hX⟩ := C.2.2.2.2.2.2.2.2.2.2.1
  have h3 := C.2.2.2.2.2.2.2.2.2.2.2.1
  have hbl : rS P 5 < sg.heap.size := by
    obtain ⟨scr, hc, -⟩ := hX
    exact (Array.getElem?_eq_some_iff.mp hc).1
  refine v_iload_n C 1 dL_cell_0 rfl ?_
  refine v_aload_n C 0 dL_cell_1 rfl ?_
  refine v_slen C hX hbl h3.2 dL_cell_2 ?_
  refine v_icmp_ge (tgt := 12) C dL_cell_3 (by decide) (fun h => ?_) (fun h => ?_)
  · refine v_ldc (v := 461243603) C k_302 dL_cell_12 ?_
    refine v_iload_n C 1 dL_cell_14 rfl ?_
    refine v_iconst (v := 3) C dL_cell_15 rfl ?_
    refine v_iadd C dL_cell_16 ?_
    refine v_imul C dL_cell_17 ?_
    exact v_iretP C dL_cell_18 rfl trivial
  · have h31 := h3.1
    have hlt : t < rS P 6 := Nat.not_le.mp fun z => h ((nI_leI (by omega) (by omega)).mpr z)
    refine v_aload_n C 0 dL_cell_6 rfl ?_
    refine v_iload_n C 1 dL_cell_7 rfl ?_
    refine v_sld (t := t) C hX hbl h3.2 rfl hlt (by omega) dL_cell_8 ?_
    refine v_goto (tgt := 18) C dL_cell_9 (by decide) ?_
    exact v_iretP C dL_cell_18 rfl trivial
end
section
/-! THE CALLS, told with natural numbers -/
section Tell
variable {l : Launch} {P : L5} {D : va_G} {N F T : Nat → Nat → Int32} {K : Nat → Int32} {A : Nat → Nat → Int32} {w : Int64} {c k : Nat}
theorem lt_c (hT : T 0 1 = nI c) (h12 : c ≤ 12) (hk : k < c) : nI k < T 0 1 := by
  rw [hT]
  exact nI_lt hk (by omega)
theorem t_told_0 (hT : T 0 1 = nI c) (h12 : c ≤ 12) (hk : k < c) : CtI l yX3_told cX3_told 3 .int 6 0 0 P D (nW P) (nW P) False (cw P N F T K A w) (cw P N F T K A w) [.ref (rX P), .int (nI k), .int 0] (N k 0) := by
  have h := c_X3_told_0 (l := l) (P := P) (D := D) (N := N) (F := F) (K := K) (A := A) (w := w) hT h12 (p := nI k) (nI_pos (by omega)) (lt_c hT h12 hk)
  rw [nI_clamp (by omega)] at h
  simp only [Nat.mul_zero, Nat.zero_add] at h
  exact h
theorem t_told_1 (hT : T 0 1 = nI c) (h12 : c ≤ 12) (hk : k < c) : CtI l yX3_told cX3_told 3 .int 6 0 0 P D (nW P) (nW P) False (cw P N F T K A w) (cw P N F T K A w) [.ref (rX P), .int (nI k), .int 1] (N k 1) := by
  have h := c_X3_told_1 (l := l) (P := P) (D := D) (N := N) (F := F) (K := K) (A := A) (w := w) hT h12 (p := nI k) (nI_pos (by omega)) (lt_c hT h12 hk)
  rw [nI_clamp (by omega)] at h
  simp only [Nat.mul_zero, Nat.zero_add] at h
  exact h
theorem t_told_2 (hT : T 0 1 = nI c) (h12 : c ≤ 12) (hk : k < c) : CtI l yX3_told cX3_told 3 .int 6 0 0 P D (nW P) (nW P) False (cw P N F T K A w) (cw P N F T K A w) [.ref (rX P), .int (nI k), .int 2] (N k 2) := by
  have h := c_X3_told_2 (l := l) (P := P) (D := D) (N := N) (F := F) (K := K) (A := A) (w := w) hT h12 (p := nI k) (nI_pos (by omega)) (lt_c hT h12 hk)
  rw [nI_clamp (by omega)] at h
  simp only [Nat.mul_zero, Nat.zero_add] at h
  exact h
theorem t_told_3 (hT : T 0 1 = nI c) (h12 : c ≤ 12) (hk : k < c) : CtI l yX3_told cX3_told 3 .int 6 0 0 P D (nW P) (nW P) False (cw P N F T K A w) (cw P N F T K A w) [.ref (rX P), .int (nI k), .int 3] (N k 3) := by
  have h := c_X3_told_3 (l := l) (P := P) (D := D) (N := N) (F := F) (K := K) (A := A) (w := w) hT h12 (p := nI k) (nI_pos (by omega)) (lt_c hT h12 hk)
  rw [nI_clamp (by omega)] at h
  simp only [Nat.mul_zero, Nat.zero_add] at h
  exact h
theorem t_told_4 (hT : T 0 1 = nI c) (h12 : c ≤ 12) (hk : k < c) : CtI l yX3_told cX3_told 3 .int 6 0 0 P D (nW P) (nW P) False (cw P N F T K A w) (cw P N F T K A w) [.ref (rX P), .int (nI k), .int 4] (N k 4) := by
  have h := c_X3_told_4 (l := l) (P := P) (D := D) (N := N) (F := F) (K := K) (A := A) (w := w) hT h12 (p := nI k) (nI_pos (by omega)) (lt_c hT h12 hk)
  rw [nI_clamp (by omega)] at h
  simp only [Nat.mul_zero, Nat.zero_add] at h
  exact h
theorem t_told_5 (hT : T 0 1 = nI c) (h12 : c ≤ 12) (hk : k < c) : CtI l yX3_told cX3_told 3 .int 6 0 0 P D (nW P) (nW P) False (cw P N F T K A w) (cw P N F T K A w) [.ref (rX P), .int (nI k), .int 5] (N k 5) := by
  have h := c_X3_told_5 (l := l) (P := P) (D := D) (N := N) (F := F) (K := K) (A := A) (w := w) hT h12 (p := nI k) (nI_pos (by omega)) (lt_c hT h12 hk)
  rw [nI_clamp (by omega)] at h
  simp only [Nat.mul_zero, Nat.zero_add] at h
  exact h
theorem t_told_6 (hT : T 0 1 = nI c) (h12 : c ≤ 12) (hk : k < c) : CtI l yX3_told cX3_told 3 .int 6 0 0 P D (nW P) (nW P) False (cw P N F T K A w) (cw P N F T K A w) [.ref (rX P), .int (nI k), .int 6] (N k 6) := by
  have h := c_X3_told_6 (l := l) (P := P) (D := D) (N := N) (F := F) (K := K) (A := A) (w := w) hT h12 (p := nI k) (nI_pos (by omega)) (lt_c hT h12 hk)
  rw [nI_clamp (by omega)] at h
  simp only [Nat.mul_zero, Nat.zero_add] at h
  exact h
theorem t_told_7 (hT : T 0 1 = nI c) (h12 : c ≤ 12) (hk : k < c) : CtI l yX3_told cX3_told 3 .int 6 0 0 P D (nW P) (nW P) False (cw P N F T K A w) (cw P N F T K A w) [.ref (rX P), .int (nI k), .int 7] (N k 7) := by
  have h := c_X3_told_7 (l := l) (P := P) (D := D) (N := N) (F := F) (K := K) (A := A) (w := w) hT h12 (p := nI k) (nI_pos (by omega)) (lt_c hT h12 hk)
  rw [nI_clamp (by omega)] at h
  simp only [Nat.mul_zero, Nat.zero_add] at h
  exact h
theorem t_told_8 (hT : T 0 1 = nI c) (h12 : c ≤ 12) (hk : k < c) : CtI l yX3_told cX3_told 3 .int 6 0 0 P D (nW P) (nW P) False (cw P N F T K A w) (cw P N F T K A w) [.ref (rX P), .int (nI k), .int 8] (N k 8) := by
  have h := c_X3_told_8 (l := l) (P := P) (D := D) (N := N) (F := F) (K := K) (A := A) (w := w) hT h12 (p := nI k) (nI_pos (by omega)) (lt_c hT h12 hk)
  rw [nI_clamp (by omega)] at h
  simp only [Nat.mul_zero, Nat.zero_add] at h
  exact h
theorem t_told_9 (hT : T 0 1 = nI c) (h12 : c ≤ 12) (hk : k < c) : CtI l yX3_told cX3_told 3 .int 6 0 0 P D (nW P) (nW P) False (cw P N F T K A w) (cw P N F T K A w) [.ref (rX P), .int (nI k), .int 9] (N k 9) := by
  have h := c_X3_told_9 (l := l) (P := P) (D := D) (N := N) (F := F) (K := K) (A := A) (w := w) hT h12 (p := nI k) (nI_pos (by omega)) (lt_c hT h12 hk)
  rw [nI_clamp (by omega)] at h
  simp only [Nat.mul_zero, Nat.zero_add] at h
  exact h
theorem t_told_10 (hT : T 0 1 = nI c) (h12 : c ≤ 12) (hk : k < c) : CtI l yX3_told cX3_told 3 .int 6 0 0 P D (nW P) (nW P) False (cw P N F T K A w) (cw P N F T K A w) [.ref (rX P), .int (nI k), .int 10] (N k 10) := by
  have h := c_X3_told_10 (l := l) (P := P) (D := D) (N := N) (F := F) (K := K) (A := A) (w := w) hT h12 (p := nI k) (nI_pos (by omega)) (lt_c hT h12 hk)
  rw [nI_clamp (by omega)] at h
  simp only [Nat.mul_zero, Nat.zero_add] at h
  exact h
theorem t_told_11 (hT : T 0 1 = nI c) (h12 : c ≤ 12) (hk : k < c) : CtI l yX3_told cX3_told 3 .int 6 0 0 P D (nW P) (nW P) False (cw P N F T K A w) (cw P N F T K A w) [.ref (rX P), .int (nI k), .int 11] (N k 11) := by
  have h := c_X3_told_11 (l := l) (P := P) (D := D) (N := N) (F := F) (K := K) (A := A) (w := w) hT h12 (p := nI k) (nI_pos (by omega)) (lt_c hT h12 hk)
  rw [nI_clamp (by omega)] at h
  simp only [Nat.mul_zero, Nat.zero_add] at h
  exact h
theorem t_nails_0 (hT : T 0 1 = nI c) (h12 : c ≤ 12) (hk : k < c) {t : Nat} (ht : t < 4) : CtI l yX3_nails cX3_nails 5 .int 6 0 0 P D (nW P) (nW P) False (cw P N F T K A w) (cw P N F T K A w) [.ref (rX P), .int (nI k), .int (nI t), .int 0] (N k (12 + t)) := by
  have h := c_X3_nails_0 (l := l) (P := P) (D := D) (N := N) (F := F) (K := K) (A := A) (w := w) hT h12 (p := nI k) (nI_pos (by omega)) (lt_c hT h12 hk) (q := nI t) (nI_pos (by omega)) (nI_lt (b := 4) ht (by omega))
  rw [nI_clamp (by omega), nI_clamp (by omega)] at h
  simp only [Nat.mul_zero, Nat.zero_add] at h
  exact h
theorem t_nails_1 (hT : T 0 1 = nI c) (h12 : c ≤ 12) (hk : k < c) {t : Nat} (ht : t < 4) : CtI l yX3_nails cX3_nails 5 .int 6 0 0 P D (nW P) (nW P) False (cw P N F T K A w) (cw P N F T K A w) [.ref (rX P), .int (nI k), .int (nI t), .int 1] (N k (16 + t)) := by
  have h := c_X3_nails_1 (l := l) (P := P) (D := D) (N := N) (F := F) (K := K) (A := A) (w := w) hT h12 (p := nI k) (nI_pos (by omega)) (lt_c hT h12 hk) (q := nI t) (nI_pos (by omega)) (nI_lt (b := 4) ht (by omega))
  rw [nI_clamp (by omega), nI_clamp (by omega)] at h
  simp only [Nat.mul_zero, Nat.zero_add] at h
  exact h
theorem t_lend (hT : T 0 1 = nI c) (h12 : c ≤ 12) (hk : k < c) {q : Int32} (h3 : ¬ q < 1) (h4 : q ≤ 20) (h5 : N k 8 + q * 3 ≤ 90) : CtI l yX3_lend cX3_lend 5 .int 6 0 0 P D (nW P) (nW P) False (cw P N F T K A w) (cw P (va_up N k (upd (upd (N k) 3 (N k 3 + q)) 8 (N k 8 + q * 3))) F T K A w) [.ref (rX P), .int (nI k), .int q] (N k 8 + q * 3) := by
  have h := c_X3_lend (l := l) (P := P) (D := D) (N := N) (F := F) (K := K) (A := A) (w := w) hT h12 (p := nI k) (nI_pos (by omega)) (lt_c hT h12 hk) h3 h4 (by rw [nI_clamp (by omega), Nat.mul_zero, Nat.zero_add]; exact h5)
  rw [nI_clamp (by omega)] at h
  simp only [Nat.mul_zero, Nat.zero_add] at h
  exact h
theorem t_coal (hT : T 0 1 = nI c) (h12 : c ≤ 12) (hk : k < c) {q : Int32} (h3 : ¬ q < 1) (h4 : q ≤ 99) (h5 : ¬ N k 7 < ((q + 4 - 1) / 4)) (h6 : N k 6 + q ≤ 99) : CtI l yX3_coal cX3_coal 5 .int 6 0 0 P D (nW P) (nW P) False (cw P N F T K A w) (cw P (va_up N k (upd (upd (N k) 7 (N k 7 - ((q + 4 - 1) / 4))) 6 (N k 6 + q))) F T K A w) [.ref (rX P), .int (nI k), .int q] (N k 6 + q) := by
  have h := c_X3_coal (l := l) (P := P) (D := D) (N := N) (F := F) (K := K) (A := A) (w := w) hT h12 (p := nI k) (nI_pos (by omega)) (lt_c hT h12 hk) h3 h4 (by rw [nI_clamp (by omega), Nat.mul_zero, Nat.zero_add]; exact h5) (by rw [nI_clamp (by omega), Nat.mul_zero, Nat.zero_add]; exact h6)
  rw [nI_clamp (by omega)] at h
  simp only [Nat.mul_zero, Nat.zero_add] at h
  exact h
theorem t_keep (hk : k < 4) {q : Int32} (h3 : ¬ q < 0) (h4 : q ≤ 60) : CtI l yX3_keep cX3_keep 4 .int 6 0 0 P D (nW P) (nW P) False (cw P N F T K A w) (cw P N (va_up F k (upd (F k) 0 q)) T K A w) [.ref (rX P), .int (nI k), .int q] (F k 0) := by
  have h := c_X3_keep (l := l) (P := P) (D := D) (N := N) (F := F) (T := T) (K := K) (A := A) (w := w) (p := nI k) (nI_pos (by omega)) (nI_lt (b := 4) hk (by omega)) h3 h4
  rw [nI_clamp (by omega)] at h
  simp only [Nat.mul_zero, Nat.zero_add] at h
  exact h
theorem t_nailer (hT : T 0 1 = nI c) (h12 : c < 12) {p q u : Int32} (h1 : ¬ q < 0) (h2 : q < 4) (h3 : ¬ u < 0) (h4 : u < 4) (h5 : ¬ p < 1) (h6 : p ≤ 9) : CtI l yX3_nailer cX3_nailer 5 .int 6 0 0 P D (nW P) (nW P) False (cw P N F T K A w) (cw P (va_up N c (upd (upd (upd (N c) 0 p) 1 q) 2 u)) F (va_up T 0 (upd (T 0) 1 (T 0 1 + 1))) K A w) [.ref (rX P), .int p, .int q, .int u] (T 0 1) := by
  have h := c_X3_nailer (l := l) (P := P) (D := D) (N := N) (F := F) (K := K) (A := A) (w := w) hT (by omega) h1 h2 h3 h4 h5 h6 h12
  simp only [Nat.mul_zero, Nat.zero_add] at h
  exact h
theorem t_rate (hT : T 0 1 = nI c) (h12 : c ≤ 12) (hk : k < c) (hv : vp_in (N k 1) 4) : CtI l yX3_rate cX3_rate 2 .int 6 0 0 P D (nW P) (nW P) False (cw P N F T K A w) (cw P (va_up (trialN N k) 24 (whl1 (N k)).1) F T K A w) [.ref (rX P), .int (nI k)] (whl1 (N k)).2 := by
  have h := c_X3_rate (l := l) (P := P) (D := D) (N := N) (F := F) (K := K) (A := A) (w := w) hT h12 (p := nI k) (nI_pos (by omega)) (lt_c hT h12 hk) (by rw [nI_clamp (by omega), Nat.mul_zero, Nat.zero_add]; exact hv)
  rw [nI_clamp (by omega)] at h
  simp only [Nat.mul_zero, Nat.zero_add] at h
  rw [show trialN N k 24 = N k from va_up_self _ _ _] at h
  exact h
theorem t_advise (hT : T 0 1 = nI c) (h12 : c ≤ 12) (hk : k < c) : CtI l yX3_advise cX3_advise 7 .int 6 0 0 P D (nW P) (nW P) False (cw P N F T K A w) (cw P (advL 5 3 k 0 N 0 (-1)).1 F T K A w) [.ref (rX P), .int (nI k), .int 3] (advL 5 3 k 0 N 0 (-1)).2 := by
  have h := c_X3_advise (l := l) (P := P) (D := D) (N := N) (F := F) (K := K) (A := A) (w := w) hT h12 (p := nI k) (nI_pos (by omega)) (lt_c hT h12 hk) (q := 3) (by decide) (by decide)
  rw [nI_clamp (by omega)] at h
  simp only [Nat.mul_zero, Nat.zero_add] at h
  exact h
theorem t_fogger_1 (hT : T 0 1 = nI c) (h12 : c ≤ 12) (hk : k < 4) : CtI l yX3_fogger cX3_fogger 3 .int 6 0 0 P D (nW P) (nW P) False (cw P N F T K A w) (cw P N F T K A w) [.ref (rX P), .int (nI k), .int 1] (F k 1) := by
  have h := c_X3_fogger_1 (l := l) (P := P) (D := D) (N := N) (F := F) (K := K) (A := A) (w := w) hT h12 (p := nI k) (nI_pos (by omega)) (nI_lt (b := 4) hk (by omega))
  have e : fogN N F 0 c (nI k) 1 = F k 1 := by
    unfold fogN
    rw [nI_clamp (by omega), Nat.mul_zero, Nat.zero_add]
    rfl
  rw [e] at h
  exact h
theorem t_fogger_3 (hT : T 0 1 = nI c) (h12 : c ≤ 12) (hk : k < 4) : CtI l yX3_fogger cX3_fogger 3 .int 6 0 0 P D (nW P) (nW P) False (cw P N F T K A w) (cw P N F T K A w) [.ref (rX P), .int (nI k), .int 3] (F k 2) := by
  have h := c_X3_fogger_3 (l := l) (P := P) (D := D) (N := N) (F := F) (K := K) (A := A) (w := w) hT h12 (p := nI k) (nI_pos (by omega)) (nI_lt (b := 4) hk (by omega))
  have e : fogN N F 0 c (nI k) 3 = F k 2 := by
    unfold fogN
    rw [nI_clamp (by omega), Nat.mul_zero, Nat.zero_add]
    rfl
  rw [e] at h
  exact h
theorem t_fogger_5 (hT : T 0 1 = nI c) (h12 : c ≤ 12) (hk : k < 4) : CtI l yX3_fogger cX3_fogger 3 .int 6 0 0 P D (nW P) (nW P) False (cw P N F T K A w) (cw P N F T K A w) [.ref (rX P), .int (nI k), .int 5] (F k 4 - F k 3) := by
  have h := c_X3_fogger_5 (l := l) (P := P) (D := D) (N := N) (F := F) (K := K) (A := A) (w := w) hT h12 (p := nI k) (nI_pos (by omega)) (nI_lt (b := 4) hk (by omega))
  have e : fogN N F 0 c (nI k) 5 = F k 4 - F k 3 := by
    unfold fogN
    rw [nI_clamp (by omega), Nat.mul_zero, Nat.zero_add]
    rfl
  rw [e] at h
  exact h
end Tell
end
section
/-! THE MAKERS -/
def n0N : Nat → Nat := nup (nup (fun _ => 0) 6 10) 7 5
theorem rep_frN : rep frN n0N 20 := rep_up (rep_up (fun _ _ => nI_0.symm) rfl) rfl
theorem rep_frF : Fgr frF (Bh 0) := ⟨nup (nup (fun _ => 0) 0 20) 1 60, rep_up (rep_up (fun _ _ => nI_0.symm) rfl) rfl, by decide, by decide, by decide, by decide, by decide, rfl⟩
theorem rep_begin {v : Nat → Int32} {n : Nat → Nat} {a b d : Nat} (h : rep v n 20) : rep (upd (upd (upd v 0 (nI a)) 1 (nI b)) 2 (nI d)) (nup (nup (nup n 0 a) 1 b) 2 d) 20 := rep_up (rep_up (rep_up h rfl) rfl) rfl
theorem rep_lend {v : Nat → Int32} {n : Nat → Nat} {q : Nat} (h : rep v n 20) : rep (upd (upd v 3 (v 3 + nI q)) 8 (v 8 + nI q * 3)) (nup (nup n 3 (n 3 + q)) 8 (n 8 + q * 3)) 20 := by
  refine rep_up (rep_up h ?_) ?_
  · rw [h 3 (by omega), nI_add]
  · rw [h 8 (by omega), show (3 : Int32) = nI 3 from rfl, nI_mul, nI_add]
theorem price_nI {q : Nat} (hq : q < 1000) : (nI q + 4 - 1) / 4 = nI ((q + 3) / 4) := by
  rw [show nI q + 4 = nI (q + 3 + 1) from nI_add q 4, nI_pred, show (4 : Int32) = nI 4 from rfl, nI_div (by omega) (by omega)]
theorem rep_coal {v : Nat → Int32} {n : Nat → Nat} {q : Nat} (h : rep v n 20) (hq : q < 1000) (h7 : (q + 3) / 4 ≤ n 7) : rep (upd (upd v 7 (v 7 - (nI q + 4 - 1) / 4)) 6 (v 6 + nI q)) (nup (nup n 7 (n 7 - (q + 3) / 4)) 6 (n 6 + q)) 20 := by
  refine rep_up (rep_up h ?_) ?_
  · rw [h 7 (by omega), price_nI hq, nI_sub h7]
  · rw [h 6 (by omega), nI_add]
theorem Nn_lend {n : Nat → Nat} {L h q : Nat} (a : Nn n L h) (hq : n 8 + q * 3 ≤ 90) : Nn (nup (nup n 3 (n 3 + q)) 8 (n 8 + q * 3)) (L + q) h := by
  obtain ⟨h0, h1, h2, h4, h5, h6, h8, hl, he, hb⟩ := a
  refine ⟨h0, h1, h2, h4, h5, h6, hq, fun k hk => ?_, ?_, hb⟩
  · rw [nup_ne (by omega), nup_ne (by omega)]
    exact hl k hk
  · show n 9 + n 4 + 240 * (n 3 + q) + ozN (n 1) * (n 10 + n 11) = 240 * (L + q)
    omega
theorem Nn_coal {n : Nat → Nat} {L h q : Nat} (a : Nn n L h) (hq : n 6 + q ≤ 99) : Nn (nup (nup n 7 (n 7 - (q + 3) / 4)) 6 (n 6 + q)) L h := by
  obtain ⟨h0, h1, h2, h4, h5, h6, h8, hl, he, hb⟩ := a
  refine ⟨h0, h1, h2, h4, h5, hq, h8, fun k hk => ?_, he, ?_⟩
  · rw [nup_ne (by omega), nup_ne (by omega)]
    exact hl k hk
  · show n 7 - (q + 3) / 4 + 36 * (n 16 + n 17 + n 18 + n 19) ≤ 5 + 36 * h
    omega
theorem Fgr_keep {g : Nat → Int32} {B j : Nat} (h : Fgr g B) (hj : j < 61) : Fgr (upd g 0 (nI j)) B := by
  obtain ⟨m, q, q1, q2, q3, q4, q5, q6⟩ := h
  exact ⟨nup m 0 j, rep_up q rfl, q1, q2, q3, q4, show j ≤ 60 by omega, q6⟩
/-- c nailers stand -/
def Mk (N T : Nat → Nat → Int32) (c : Nat) : Prop := T 0 1 = nI c ∧ (∀ k, k < c → ∃ L, L ≤ 20 ∧ N k 3 = nI L ∧ Nv (N k) L 0) ∧ ∀ k, c ≤ k → k < 12 → N k = frN
def MkI (N F T : Nat → Nat → Int32) : Prop := Mk N T 3 ∧ IF F (Bh 0)
theorem Mk_0 : Mk (fun _ => frN) (fun _ _ => 0) 0 := ⟨rfl, fun k hk => absurd hk (Nat.not_lt_zero k), fun _ _ _ => rfl⟩
def mkA (N : Nat → Nat → Int32) (c a b d : Nat) : Nat → Nat → Int32 := va_up N c (upd (upd (upd (N c) 0 (nI a)) 1 (nI b)) 2 (nI d))
def mkB (N : Nat → Nat → Int32) (c q : Nat) : Nat → Nat → Int32 := va_up N c (upd (upd (N c) 3 (N c 3 + nI q)) 8 (N c 8 + nI q * 3))
def mkC (N : Nat → Nat → Int32) (c q : Nat) : Nat → Nat → Int32 := va_up N c (upd (upd (N c) 7 (N c 7 - (nI q + 4 - 1) / 4)) 6 (N c 6 + nI q))
def mkT (T : Nat → Nat → Int32) : Nat → Nat → Int32 := va_up T 0 (upd (T 0) 1 (T 0 1 + 1))
theorem Mk_row {N T : Nat → Nat → Int32} {c a b d : Nat} (h : Mk N T c) (hc : c < 3) : rep (mkA N c a b d c) (nup (nup (nup n0N 0 a) 1 b) 2 d) 20 := by
  unfold mkA
  rw [va_up_self, h.2.2 c (Nat.le_refl _) (by omega)]
  exact rep_begin rep_frN
theorem Mk_row2 {N T : Nat → Nat → Int32} {c a b d q : Nat} (h : Mk N T c) (hc : c < 3) : rep (mkB (mkA N c a b d) c q c) (nup (nup (nup (nup (nup n0N 0 a) 1 b) 2 d) 3 (0 + q)) 8 (0 + q * 3)) 20 := by
  unfold mkB
  rw [va_up_self]
  exact rep_lend (Mk_row h hc)
theorem mkT_1 {T : Nat → Nat → Int32} {c : Nat} (h : T 0 1 = nI c) : mkT T 0 1 = nI (c + 1) := by
  unfold mkT
  rw [va_up_self, upd_at, h, nI_1]
theorem Mk_step {N T : Nat → Nat → Int32} {c a b d q y : Nat} (h : Mk N T c) (hc : c < 3) (ha : a ≤ 9) (hb : b < 4) (hd : d < 4) (hq : q ≤ 20) (hy : y ≤ 20) : Mk (mkC (mkB (mkA N c a b d) c q) c y) (mkT T) (c + 1) := by
  have r := Mk_row2 (a := a) (b := b) (d := d) (q := q) h hc
  have e7 : (nup (nup (nup (nup (nup n0N 0 a) 1 b) 2 d) 3 (0 + q)) 8 (0 + q * 3)) 7 = 5 := rfl
  have r3 := rep_coal (q := y) r (by omega) (by rw [e7]; omega)
  refine ⟨mkT_1 h.1, fun k hk => ?_, fun k hk hk2 => ?_⟩
  · by_cases e : k = c
    · subst e
      refine ⟨q, hq, ?_, ?_⟩
      · unfold mkC
        rw [va_up_self, r3 3 (by omega)]
        exact congrArg nI (Nat.zero_add q)
      · unfold mkC
        rw [va_up_self]
        refine ⟨_, r3, Nn_coal (L := q) ?_ (show 10 + y ≤ 99 by omega)⟩
        have z : Nn (nup (nup (nup n0N 0 a) 1 b) 2 d) 0 0 := by
          refine ⟨ha, hb, hd, (show (0 : Nat) ≤ 240 by omega), (show (0 : Nat) ≤ 9 by omega), (show (10 : Nat) ≤ 99 by omega), (show (0 : Nat) ≤ 90 by omega), fun k hk => ?_, ?_, ?_⟩
          · rw [nup_ne (by omega), nup_ne (by omega), nup_ne (by omega)]
            unfold n0N
            rw [nup_ne (by omega), nup_ne (by omega)]
            omega
          · show 0 + 0 + 240 * 0 + ozN b * (0 + 0) = 240 * 0
            omega
          · show 5 + 36 * (0 + 0 + 0 + 0) ≤ 5 + 36 * 0
            omega
        have z2 := Nn_lend (q := q) z (show 0 + q * 3 ≤ 90 by omega)
        rw [Nat.zero_add] at z2
        exact z2
    · obtain ⟨L, hL, h3, hv⟩ := h.2.1 k (by omega)
      have e9 : mkC (mkB (mkA N c a b d) c q) c y k = N k := by
        unfold mkC mkB mkA
        rw [va_up_ne _ _ e, va_up_ne _ _ e, va_up_ne _ _ e]
      rw [e9]
      exact ⟨L, hL, h3, hv⟩
  · unfold mkC mkB mkA
    rw [va_up_ne _ _ (by omega), va_up_ne _ _ (by omega), va_up_ne _ _ (by omega)]
    exact h.2.2 k (by omega) hk2
/-- what makers leaves -/
abbrev QcM (P : L5) (D : va_G) (K : Nat → Int32) (A : Nat → Nat → Int32) (w : Int64) := va_Qr (fun (_ : Unit) => True) (fun _ ra t => ra = rX P ∧ ∃ N F T, MkI N F T ∧ va_P D vwCl (wl P.1 (nW P) (cw P N F T K A w)) t.heap) (aO P)
section Makers
variable {p : Program} {l : Launch} {e : Env} {R : Room} {s : State} {m : MethodId} {args : Array Value} {below : List Frame} {meth : Method} {c : Code} {P : L5} {D : va_G} {Q : State → Prop} {nL n : Nat} {x : Prop} {f : Nat → va_E} {k z pc : Nat} {lv : List (Nat × Value)} {st : List Value} {cc : ByteArray} {ret : Option FieldType} {own : String}
variable {N F T : Nat → Nat → Int32} {K : Nat → Int32} {A : Nat → Nat → Int32} {w : Int64}
theorem v_topE {a b : Int32} (h : a = b) (kk : V p l e R s m args below meth c P D Q nL n x f k z pc lv (.int b :: st)) : V p l e R s m args below meth c P D Q nL n x f k z pc lv (.int a :: st) := by rw [h]; exact kk
theorem v_aretM {cn : String} (C : Cx p l s m args meth c P D cc nL (some (.object cn)) own) (hdg : decode cc pc = .ok (.areturn, 1)) (hM : MkI N F T) : V p l e R s m args below meth c P D (MQ below (QcM P D K A w) args s k z (aO P)) nL (nW P) False (cw P N F T K A w) k z pc lv [.ref (rX P)] := by
  intro H locs ls hP hz hS hl
  exact W.aret C.1 C.2.1 C.2.2.2.2.2.1 (Or.inl ⟨_, rfl⟩) (Or.inr ⟨_, rfl⟩) (fun t ht hW => ⟨⟨(), rX P, rfl, trivial, rfl, N, F, T, hM, by rw [ht]; exact hP⟩, hS.F ht⟩) hS.2.2 hdg C.2.2.2.2.2.2.1
theorem go_M {mc ms : Nat} {rest : List Value} {a : Array Value} (hr : ∀ (H : Heap) (locs : List Loc) (ls : Array Slot), va_P D vwCl (wl P.1 n f) H → (x → H.size = P.1 + n) → va_S (fun q => P.1 ≤ q) s.heap H locs → lv_has ls nL lv → va_Run p l e R s m args below meth c H locs k z mc ms (F0 m pc ls st) rest ((QcM P D K A w) a) (aO P)) (kk : ∀ N F T, MkI N F T → V p l e R s m args below meth c P D Q nL (nW P) False (cw P N F T K A w) (k + mc) (z + ms) (pc + 3) lv (.ref (rX P) :: rest)) : V p l e R s m args below meth c P D Q nL n x f k z pc lv st := by
  intro H locs ls hP hz hS hl
  refine va_callr (hr H locs ls hP hz hS hl) hS (fun q _ h => h) (fun q h => h) (fun u ra t H1 locs1 ht hvm hw hB hz1 hk1 hS1 => ?_)
  subst ht
  obtain ⟨rfl, N9, F9, T9, hM, hP9⟩ := hB
  exact kk N9 F9 T9 hM _ locs1 ls hP9 (fun h => h.elim) hS1 hl
end Makers
set_option maxHeartbeats 4000000 in
theorem c_L_makers {l : Launch} {P : L5} {D : va_G} {K : Nat → Int32} {A : Nat → Nat → Int32} {w : Int64} {f : Nat → va_E} (hfl : P.2.2.2.2.1 = false) : Met l yL_makers (.code yL_makers cL_makers 4 (some (.object "NailRods")) :: gtb) (rmO 8 90 641) (va_Pc [.ref (rS P 5)] (PreI P D 0 True f)) (QcM P D K A w) 90 641 (aO P) := by
  refine mk_Met pl_L [(0, .ref (rS P 5))] rfl (Nat.le_of_ble_eq_true rfl) ?_
  intro pg en sg mg ag bg mt cd C
  have L2 : ∀ (n c : Nat) (N F T : Nat → Nat → Int32), c + n = 4 → MkI N F T → V pg l en (rmO 8 90 641) sg mg ag bg mt cd P D (MQ bg (QcM P D K A w) ag sg 90 641 (aO P)) 4 (nW P) False (cw P N F T K A w) 90 641 91 [(2, .int (nI c)), (1, .ref (rX P)), (0, .ref (rS P 5))] [] := by
    intro n
    induction n with
    | zero =>
      intro c N F T hc hM
      refine v_iload_n C 0 dL_makers_91 rfl ?_
      refine v_iconst (v := nI 4) C dL_makers_92 rfl ?_
      refine v_icmp_ge (tgt := 123) C dL_makers_93 (by decide) (fun _ => ?_) (fun h => absurd (nI_le (show 4 ≤ c by omega) (by omega)) h)
      refine v_aload_n C 1 dL_makers_123 rfl ?_
      exact v_aretM C dL_makers_124 hM
    | succ n ih =>
      intro c N F T hc hM
      refine v_iload_n C 0 dL_makers_91 rfl ?_
      refine v_iconst (v := nI 4) C dL_makers_92 rfl ?_
      refine v_icmp_ge (tgt := 123) C dL_makers_93 (by decide) (fun h => absurd h (nI_ge (show c < 4 by omega) (by omega))) (fun _ => ?_)
      refine v_aload_n C 1 dL_makers_96 rfl ?_
      refine v_iload_n C 0 dL_makers_97 rfl ?_
      refine v_aload_n C 2 dL_makers_98 rfl ?_
      refine v_iconst (v := nI 3) C dL_makers_99 rfl ?_
      refine go_P (run_S C (c_L_cell (by omega)) k_301 k_0 k_299 k_300 dd_L_cell ⟨Nat.le_of_ble_eq_true rfl, Nat.le_of_ble_eq_true rfl⟩ rfl (Nat.le_of_ble_eq_true rfl) dL_makers_100 ⟨Nat.le_of_ble_eq_true rfl, Nat.le_of_ble_eq_true rfl⟩) (fun x _ => ?_)
      refine v_bipush (v := 6) C dL_makers_103 rfl ?_
      refine v_iload_n C 0 dL_makers_105 rfl ?_
      refine v_imul C dL_makers_106 ?_
      refine v_ishr C dL_makers_107 ?_
      refine v_bipush (v := nI 61) C dL_makers_108 rfl ?_
      refine go_P (run_S C (c_L_below (by omega) (by omega)) k_297 k_0 k_295 k_296 dd_L_below ⟨Nat.le_of_ble_eq_true rfl, Nat.le_of_ble_eq_true rfl⟩ rfl (Nat.le_of_ble_eq_true rfl) dL_makers_110 ⟨Nat.le_of_ble_eq_true rfl, Nat.le_of_ble_eq_true rfl⟩) (fun r hr => ?_)
      obtain ⟨j, hj, rfl⟩ := hr
      refine go_I (run_V C (t_keep (by omega) (nI_pos (by omega)) (nI_le (b := 60) (show j ≤ 60 by omega) (by omega))) k_150 k_1 k_147 k_148 k_149 dd_X3_keep ⟨Nat.le_of_ble_eq_true rfl, Nat.le_of_ble_eq_true rfl⟩ rcX rfl (Nat.le_of_ble_eq_true rfl) dL_makers_113 ⟨Nat.le_of_ble_eq_true rfl, Nat.le_of_ble_eq_true rfl⟩) ?_
      refine v_pop C dL_makers_116 rfl ?_
      refine v_iinc (b := nI (c + 1)) (lv' := [(2, .int (nI (c + 1))), (1, .ref (rX P)), (0, .ref (rS P 5))]) C 0 dL_makers_117 rfl (nI_1 _) (by decide) rfl ?_
      refine v_goto (tgt := 91) C dL_makers_120 (by decide) ?_
      refine ih (c + 1) _ _ _ (by omega) ⟨hM.1, fun i hi => ?_⟩
      by_cases e : i = c
      · subst e
        rw [va_up_self]
        exact Fgr_keep (hM.2 i hi) hj
      · rw [va_up_ne _ _ e]
        exact hM.2 i hi
  have L1 : ∀ (n c : Nat) (N F T : Nat → Nat → Int32), c + n = 3 → Mk N T c → IF F (Bh 0) → V pg l en (rmO 8 90 641) sg mg ag bg mt cd P D (MQ bg (QcM P D K A w) ag sg 90 641 (aO P)) 4 (nW P) False (cw P N F T K A w) 90 641 10 [(2, .int (nI c)), (1, .ref (rX P)), (0, .ref (rS P 5))] [] := by
    intro n
    induction n with
    | zero =>
      intro c N F T hc hM hF
      refine v_iload_n C 0 dL_makers_10 rfl ?_
      refine v_iconst (v := nI 3) C dL_makers_11 rfl ?_
      refine v_icmp_ge (tgt := 89) C dL_makers_12 (by decide) (fun _ => ?_) (fun h => absurd (nI_le (show 3 ≤ c by omega) (by omega)) h)
      obtain rfl : c = 3 := by omega
      refine v_iconst (v := nI 0) C dL_makers_89 rfl ?_
      refine v_istore_n (lv' := [(2, .int (nI 0)), (1, .ref (rX P)), (0, .ref (rS P 5))]) C dL_makers_90 rfl (by decide) rfl ?_
      exact L2 4 0 N F T (by omega) ⟨hM, hF⟩
    | succ n ih =>
      intro c N F T hc hM hF
      refine v_iload_n C 0 dL_makers_10 rfl ?_
      refine v_iconst (v := nI 3) C dL_makers_11 rfl ?_
      refine v_icmp_ge (tgt := 89) C dL_makers_12 (by decide) (fun h => absurd h (nI_ge (show c < 3 by omega) (by omega))) (fun _ => ?_)
      refine v_aload_n C 2 dL_makers_15 rfl ?_
      refine v_iload_n C 0 dL_makers_16 rfl ?_
      refine go_P (run_S C (c_L_cell (by omega)) k_301 k_0 k_299 k_300 dd_L_cell ⟨Nat.le_of_ble_eq_true rfl, Nat.le_of_ble_eq_true rfl⟩ rfl (Nat.le_of_ble_eq_true rfl) dL_makers_17 ⟨Nat.le_of_ble_eq_true rfl, Nat.le_of_ble_eq_true rfl⟩) (fun x _ => ?_)
      refine v_istore_n (lv' := [(3, .int x), (2, .int (nI c)), (1, .ref (rX P)), (0, .ref (rS P 5))]) C dL_makers_20 rfl (by decide) rfl ?_
      refine v_aload_n C 2 dL_makers_21 rfl ?_
      refine v_iconst (v := nI 1) C dL_makers_22 rfl ?_
      refine v_iload_n C 0 dL_makers_23 rfl ?_
      refine v_bipush (v := nI 9) C dL_makers_24 rfl ?_
      refine go_P (run_S C (c_L_below (by omega) (by omega)) k_297 k_0 k_295 k_296 dd_L_below ⟨Nat.le_of_ble_eq_true rfl, Nat.le_of_ble_eq_true rfl⟩ rfl (Nat.le_of_ble_eq_true rfl) dL_makers_26 ⟨Nat.le_of_ble_eq_true rfl, Nat.le_of_ble_eq_true rfl⟩) (fun ra ha => ?_)
      obtain ⟨a, ha, rfl⟩ := ha
      refine v_iadd C dL_makers_29 ?_
      refine v_topE (b := nI (1 + a)) (nI_add 1 a) ?_
      refine v_iload_n C 0 dL_makers_30 rfl ?_
      refine v_iconst (v := 4) C dL_makers_31 rfl ?_
      refine v_ishr C dL_makers_32 ?_
      refine v_iconst (v := nI 4) C dL_makers_33 rfl ?_
      refine go_P (run_S C (c_L_below (by omega) (by omega)) k_297 k_0 k_295 k_296 dd_L_below ⟨Nat.le_of_ble_eq_true rfl, Nat.le_of_ble_eq_true rfl⟩ rfl (Nat.le_of_ble_eq_true rfl) dL_makers_34 ⟨Nat.le_of_ble_eq_true rfl, Nat.le_of_ble_eq_true rfl⟩) (fun rb hb => ?_)
      obtain ⟨b, hb, rfl⟩ := hb
      refine v_iload_n C 0 dL_makers_37 rfl ?_
      refine v_bipush (v := 6) C dL_makers_38 rfl ?_
      refine v_ishr C dL_makers_40 ?_
      refine v_iconst (v := nI 4) C dL_makers_41 rfl ?_
      refine go_P (run_S C (c_L_below (by omega) (by omega)) k_297 k_0 k_295 k_296 dd_L_below ⟨Nat.le_of_ble_eq_true rfl, Nat.le_of_ble_eq_true rfl⟩ rfl (Nat.le_of_ble_eq_true rfl) dL_makers_42 ⟨Nat.le_of_ble_eq_true rfl, Nat.le_of_ble_eq_true rfl⟩) (fun rd hd => ?_)
      obtain ⟨d, hd, rfl⟩ := hd
      refine go_I (run_V C (t_nailer hM.1 (by omega) (nI_pos (by omega)) (nI_lt (b := 4) hb (by omega)) (nI_pos (by omega)) (nI_lt (b := 4) hd (by omega)) (nI_nlt (b := 1) (show 1 ≤ 1 + a by omega) (by omega)) (nI_le (b := 9) (show 1 + a ≤ 9 by omega) (by omega))) k_439 k_1 k_436 k_437 k_438 dd_X3_nailer ⟨Nat.le_of_ble_eq_true rfl, Nat.le_of_ble_eq_true rfl⟩ rcX rfl (Nat.le_of_ble_eq_true rfl) dL_makers_45 ⟨Nat.le_of_ble_eq_true rfl, Nat.le_of_ble_eq_true rfl⟩) ?_
      refine v_pop C dL_makers_48 rfl ?_
      have hT2 : mkT T 0 1 = nI (c + 1) := mkT_1 hM.1
      have ra := Mk_row (a := 1 + a) (b := b) (d := d) hM (show c < 3 by omega)
      refine v_aload_n C 2 dL_makers_49 rfl ?_
      refine v_iload_n C 1 dL_makers_50 rfl ?_
      refine v_iconst (v := nI 1) C dL_makers_51 rfl ?_
      refine v_iload_n C 0 dL_makers_52 rfl ?_
      refine v_bipush (v := 8) C dL_makers_53 rfl ?_
      refine v_ishr C dL_makers_55 ?_
      refine v_bipush (v := nI 20) C dL_makers_56 rfl ?_
      refine go_P (run_S C (c_L_below (by omega) (by omega)) k_297 k_0 k_295 k_296 dd_L_below ⟨Nat.le_of_ble_eq_true rfl, Nat.le_of_ble_eq_true rfl⟩ rfl (Nat.le_of_ble_eq_true rfl) dL_makers_58 ⟨Nat.le_of_ble_eq_true rfl, Nat.le_of_ble_eq_true rfl⟩) (fun rq hq => ?_)
      obtain ⟨q, hq, rfl⟩ := hq
      refine v_iadd C dL_makers_61 ?_
      refine v_topE (b := nI (1 + q)) (nI_add 1 q) ?_
      have h8 : mkA N c (1 + a) b d c 8 + nI (1 + q) * 3 ≤ 90 := by
        rw [ra 8 (by omega), show (3 : Int32) = nI 3 from rfl, nI_mul, nI_add]
        exact nI_le (b := 90) (show 0 + (1 + q) * 3 ≤ 90 by omega) (by omega)
      refine go_I (run_V C (t_lend (N := mkA N c (1 + a) b d) (T := mkT T) hT2 (by omega) (by omega) (nI_nlt (b := 1) (show 1 ≤ 1 + q by omega) (by omega)) (nI_le (b := 20) (show 1 + q ≤ 20 by omega) (by omega)) h8) k_15 k_1 k_12 k_13 k_14 dd_X3_lend ⟨Nat.le_of_ble_eq_true rfl, Nat.le_of_ble_eq_true rfl⟩ rcX rfl (Nat.le_of_ble_eq_true rfl) dL_makers_62 ⟨Nat.le_of_ble_eq_true rfl, Nat.le_of_ble_eq_true rfl⟩) ?_
      refine v_pop C dL_makers_65 rfl ?_
      have rb := Mk_row2 (a := 1 + a) (b := b) (d := d) (q := 1 + q) hM (show c < 3 by omega)
      refine v_aload_n C 2 dL_makers_66 rfl ?_
      refine v_iload_n C 1 dL_makers_67 rfl ?_
      refine v_iconst (v := nI 1) C dL_makers_68 rfl ?_
      refine v_iload_n C 0 dL_makers_69 rfl ?_
      refine v_bipush (v := 13) C dL_makers_70 rfl ?_
      refine v_ishr C dL_makers_72 ?_
      refine v_bipush (v := nI 20) C dL_makers_73 rfl ?_
      refine go_P (run_S C (c_L_below (by omega) (by omega)) k_297 k_0 k_295 k_296 dd_L_below ⟨Nat.le_of_ble_eq_true rfl, Nat.le_of_ble_eq_true rfl⟩ rfl (Nat.le_of_ble_eq_true rfl) dL_makers_75 ⟨Nat.le_of_ble_eq_true rfl, Nat.le_of_ble_eq_true rfl⟩) (fun ry hy => ?_)
      obtain ⟨y, hy, rfl⟩ := hy
      refine v_iadd C dL_makers_78 ?_
      refine v_topE (b := nI (1 + y)) (nI_add 1 y) ?_
      have g7 : ¬ mkB (mkA N c (1 + a) b d) c (1 + q) c 7 < (nI (1 + y) + 4 - 1) / 4 := by
        rw [rb 7 (by omega), price_nI (by omega)]
        exact nI_nlt (a := 5) (show (1 + y + 3) / 4 ≤ 5 by omega) (by omega)
      have g6 : mkB (mkA N c (1 + a) b d) c (1 + q) c 6 + nI (1 + y) ≤ 99 := by
        rw [rb 6 (by omega), nI_add]
        exact nI_le (b := 99) (show 10 + (1 + y) ≤ 99 by omega) (by omega)
      refine go_I (run_V C (t_coal (N := mkB (mkA N c (1 + a) b d) c (1 + q)) (T := mkT T) hT2 (by omega) (by omega) (nI_nlt (b := 1) (show 1 ≤ 1 + y by omega) (by omega)) (nI_le (b := 99) (show 1 + y ≤ 99 by omega) (by omega)) g7 g6) k_132 k_1 k_129 k_130 k_131 dd_X3_coal ⟨Nat.le_of_ble_eq_true rfl, Nat.le_of_ble_eq_true rfl⟩ rcX rfl (Nat.le_of_ble_eq_true rfl) dL_makers_79 ⟨Nat.le_of_ble_eq_true rfl, Nat.le_of_ble_eq_true rfl⟩) ?_
      refine v_pop C dL_makers_82 rfl ?_
      refine v_iinc (b := nI (c + 1)) (lv' := [(2, .int (nI (c + 1))), (3, .int x), (1, .ref (rX P)), (0, .ref (rS P 5))]) C 1 dL_makers_83 rfl (nI_1 _) (by decide) rfl ?_
      refine v_goto (tgt := 10) C dL_makers_86 (by decide) ?_
      refine v_lv [0, 2, 3] rfl ?_
      exact ih (c + 1) (mkC (mkB (mkA N c (1 + a) b d) c (1 + q)) c (1 + y)) F (mkT T) (by omega) (Mk_step hM (by omega) (by omega) hb hd (by omega) (by omega)) hF
  refine c_new (n := 0) (ci := 3) C (r := (RX3, TX3, 3)) rfl inX3g tyX3 tyX3_ok k_306 k_19 k_1 (fs := bkX) bkX_ok (Nat.le_of_ble_eq_true rfl) (Nat.le_of_ble_eq_true rfl) dL_makers_0 ?_
  refine v_dup C dL_makers_3 rfl ?_
  refine go_V (n' := 90) (run_I C (c_X3_init (K := K) (A := A) (w := w) (va_up_self _ _ _)) k_309 k_1 k_307 k_308 rfl dd_X3_init ⟨Nat.le_of_ble_eq_true rfl, Nat.le_of_ble_eq_true rfl⟩ rfl (Nat.le_of_ble_eq_true rfl) dL_makers_4 ⟨Nat.le_of_ble_eq_true rfl, Nat.le_of_ble_eq_true rfl⟩) ?_
  refine v_astore_n (lv' := [(1, .ref (rX P)), (0, .ref (rS P 5))]) C dL_makers_7 rfl (by decide) rfl ?_
  refine v_iconst (v := nI 0) C dL_makers_8 rfl ?_
  refine v_istore_n (lv' := [(2, .int (nI 0)), (1, .ref (rX P)), (0, .ref (rS P 5))]) C dL_makers_9 rfl (by decide) rfl ?_
  refine v_open ?_
  refine c_n (nW_f hfl).symm ?_
  exact L1 3 0 (fun _ => frN) (fun _ => frF) (fun _ _ => 0) rfl Mk_0 (fun _ _ => rep_frF)
end
section
/-! WHAT HOLDS BETWEEN THE ROUNDS OF THE LAW -/
/-- what is foreseen -/
def SN (N F T : Nat → Nat → Int32) : Int32 := shS 4 4 3 (12 * 0) 0 (goB (fuel 5 0) 5 0 3 0 N F T 0).1 0
theorem vp4 {a : Int32} (h : vp_in a 4) : a.toNatClampNeg < 4 := by
  obtain ⟨j, hj, rfl⟩ := vp_in_of h (by omega)
  rw [nI_clamp (by omega)]
  exact hj
theorem SN_cong {N F T N' F' T' : Nat → Nat → Int32} (hK : KF N (12 * 0) 3) (h : ∀ k, k < 3 → N' k = N k) (hf : ∀ k, k < 4 → F' k = F k) (hT : T' 0 = T 0) : SN N' F' T' = SN N F T := by
  unfold SN
  exact shS_sim (goB_sim (t := 0) (t' := 0) _ _ N N' F F' T T' 0 (fun k hk => h _ (by omega)) (fun k hk => hf _ (by omega)) (by rw [hT]) (fun k hk => vp4 (hK k hk).2)) _ _ _
theorem t_foresee {l : Launch} {P : L5} {D : va_G} {N F T : Nat → Nat → Int32} {K : Nat → Int32} {A : Nat → Nat → Int32} {w : Int64} (hT : T 0 1 = nI 3) (hK : KF N (12 * 0) 3) :
    ∃ N1 F1 T1 : Nat → Nat → Int32, (∀ x, x < 12 → N1 x = N x) ∧ (∀ x, x < 4 → F1 x = F x) ∧ T1 0 = T 0 ∧ CtI l yX3_foresee cX3_foresee 3 .int 6 0 0 P D (nW P) (nW P) False (cw P N F T K A w) (cw P N1 F1 T1 K A w) [.ref (rX P), .int 5, .int 4] (SN N F T) := by
  have hKF : KF (cpN (3 + 1) 3 (12 * 1) (12 * 0) 0 N) (12 * 1) 3 := fun k hk => by
    show vp_in (cpN 4 3 (12 * 1) (12 * 0) 0 N (12 * 1 + k) 1) 4 ∧ vp_in (cpN 4 3 (12 * 1) (12 * 0) 0 N (12 * 1 + k) 2) 4
    rw [cpN_at k hk]
    exact hK k hk
  have hct : (goB (fuel 5 0) 5 0 3 1 (cpN (3 + 1) 3 (12 * 1) (12 * 0) 0 N) (cp4 F (4 * 1) (4 * 0)) (va_up T 1 (T 0)) 0).2.2.1 1 1 = nI 3 := by
    rw [goB_T1, va_up_self]
    exact hT
  have h := c_X3_foresee_4 (l := l) (P := P) (D := D) (N := N) (F := F) (K := K) (A := A) (w := w) hT (by omega) hKF (p := 5) (by decide) (by decide) hct
  have e : totN (goB (fuel 5 0) 5 0 3 1 (cpN (3 + 1) 3 (12 * 1) (12 * 0) 0 N) (cp4 F (4 * 1) (4 * 0)) (va_up T 1 (T 0)) 0).1 (goB (fuel 5 0) 5 0 3 1 (cpN (3 + 1) 3 (12 * 1) (12 * 0) 0 N) (cp4 F (4 * 1) (4 * 0)) (va_up T 1 (T 0)) 0).2.1 (goB (fuel 5 0) 5 0 3 1 (cpN (3 + 1) 3 (12 * 1) (12 * 0) 0 N) (cp4 F (4 * 1) (4 * 0)) (va_up T 1 (T 0)) 0).2.2.1 1 3 4 = SN N F T := by
    unfold totN
    rw [if_neg (by omega), if_neg (by omega), if_neg (by omega)]
    unfold SN
    exact shS_sim (goB_sim (t := 0) (t' := 1) _ _ N _ F _ T _ 0 cpN_at cp4_at (by rw [va_up_self]) (fun k hk => vp4 (hK k hk).2)) _ _ _
  rw [e] at h
  refine ⟨_, _, _, fun x hx => ?_, fun x hx => ?_, ?_, h⟩
  · rw [goB_N (by omega)]
    exact cpN_of hx
  · rw [goB_F (by omega)]
    exact cp4_of hx
  · rw [goB_T (by omega), va_up_ne _ _ (by omega)]
def LI (N F T A : Nat → Nat → Int32) (i : Nat) : Prop := ∃ Lf : Nat → Nat, T 0 1 = nI 3 ∧ IN N Lf (5 * i) ∧ IF F (Bh (5 * i)) ∧ ∀ k, k < 3 → A 0 k = nI (Lf k) ∧ Lf k ≤ 20 + 10 * i
theorem LI_T {N F T A : Nat → Nat → Int32} {i : Nat} (h : LI N F T A i) : T 0 1 = nI 3 := by
  obtain ⟨Lf, a, -⟩ := h
  exact a
theorem LI_KF {N F T A : Nat → Nat → Int32} {i : Nat} (h : LI N F T A i) : KF N (12 * 0) 3 := by
  obtain ⟨Lf, -, a, -⟩ := h
  intro k hk
  obtain ⟨n, r, hn⟩ := a k hk
  rw [Nat.mul_zero, Nat.zero_add, r 1 (by omega), r 2 (by omega)]
  exact ⟨vp_in_nI hn.2.1 (by omega), vp_in_nI hn.2.2.1 (by omega)⟩
theorem LI_cong {N F T N' F' T' A : Nat → Nat → Int32} {i : Nat} (a : LI N F T A i) (h : ∀ k, k < 3 → N' k = N k) (hf : ∀ k, k < 4 → F' k = F k) (hT : T' 0 = T 0) : LI N' F' T' A i := by
  obtain ⟨Lf, a1, a2, a3, a4⟩ := a
  exact ⟨Lf, by rw [hT]; exact a1, fun k hk => by rw [h k hk]; exact a2 k hk, fun k hk => by rw [hf k hk]; exact a3 k hk, a4⟩
theorem LI_up {N F T A : Nat → Nat → Int32} {i : Nat} (a : LI N F T A i) : LI N F T A (i + 1) := by
  obtain ⟨Lf, a1, a2, a3, a4⟩ := a
  exact ⟨Lf, a1, fun k hk => Nv_up (a2 k hk) (by omega), fun k hk => Fgr_up (a3 k hk) (by unfold Bh; omega), fun k hk => ⟨(a4 k hk).1, by have := (a4 k hk).2; omega⟩⟩
/-- a nailer's row, as numbers -/
theorem LI_row {N F T A : Nat → Nat → Int32} {i k : Nat} (a : LI N F T A i) (hk : k < 3) (hi : i ≤ 14) : ∃ n L, rep (N k) n 20 ∧ Nn n L (5 * i) ∧ A 0 k = nI L ∧ L ≤ 160 := by
  obtain ⟨Lf, a1, a2, a3, a4⟩ := a
  obtain ⟨n, r, hn⟩ := a2 k hk
  exact ⟨n, Lf k, r, hn, (a4 k hk).1, by have := (a4 k hk).2; omega⟩
theorem LI_lend {N F T A : Nat → Nat → Int32} {i k : Nat} (a : LI N F T A i) (hk : k < 3) (hi : i < 14) (h8 : ¬ nI 60 < N k 8) : N k 8 + nI 10 * 3 ≤ 90 ∧ LI (va_up N k (upd (upd (N k) 3 (N k 3 + nI 10)) 8 (N k 8 + nI 10 * 3))) F T (va_up A 0 (upd (A 0) k (A 0 k + nI 10))) (i + 1) := by
  obtain ⟨Lf, a1, a2, a3, a4⟩ := a
  obtain ⟨n, r, hn⟩ := a2 k hk
  have hn8 : n 8 ≤ 60 := by
    have q := hn.2.2.2.2.2.2.1
    rw [r 8 (by omega)] at h8
    exact Nat.not_lt.mp fun z => h8 ((nI_ltI (by omega) (by omega)).mpr z)
  refine ⟨?_, nup Lf k (Lf k + 10), a1, fun j hj => ?_, fun j hj => Fgr_up (a3 j hj) (by unfold Bh; omega), fun j hj => ?_⟩
  · rw [r 8 (by omega), show (3 : Int32) = nI 3 from rfl, nI_mul, nI_add]
    exact nI_le (b := 90) (show n 8 + 10 * 3 ≤ 90 by omega) (by omega)
  · by_cases e : j = k
    · subst e
      rw [va_up_self, nup_at]
      exact ⟨_, rep_lend r, Nn_up (Nn_lend hn (by omega)) (by omega)⟩
    · rw [va_up_ne _ _ e, nup_ne e]
      exact Nv_up (a2 j hj) (by omega)
  · have := (a4 j hj).2
    rw [va_up_self]
    by_cases e : j = k
    · subst e
      rw [upd_at, nup_at, (a4 j hj).1, nI_add]
      exact ⟨rfl, by omega⟩
    · rw [upd_ge e, nup_ne e]
      exact ⟨(a4 j hj).1, by omega⟩
theorem LI_coal {N F T A : Nat → Nat → Int32} {i k y : Nat} (a : LI N F T A i) (hk : k < 3) (hi : i < 14) (hy : y < 4) (h7 : ¬ N k 7 ≤ 0) (h6 : ¬ nI 96 ≤ N k 6) : ¬ N k 7 < (nI (1 + y) + 4 - 1) / 4 ∧ N k 6 + nI (1 + y) ≤ 99 ∧ LI (va_up N k (upd (upd (N k) 7 (N k 7 - (nI (1 + y) + 4 - 1) / 4)) 6 (N k 6 + nI (1 + y)))) F T A (i + 1) := by
  obtain ⟨Lf, a1, a2, a3, a4⟩ := a
  obtain ⟨n, r, hn⟩ := a2 k hk
  have hn7 : 1 ≤ n 7 := by
    cases hz : n 7 with
    | zero => exact absurd (by rw [r 7 (by omega), hz, nI_0]; exact Int32.le_refl _) h7
    | succ q => omega
  have b7 : n 7 ≤ 3000 := by
    have := hn.2.2.2.2.2.2.2.2.2
    omega
  have hn6 : n 6 < 96 := by
    have q := hn.2.2.2.2.2.1
    rw [r 6 (by omega)] at h6
    exact Nat.not_le.mp fun z => h6 ((nI_leI (by omega) (by omega)).mpr z)
  have hp : (1 + y + 3) / 4 ≤ n 7 := by omega
  refine ⟨?_, ?_, Lf, a1, fun j hj => ?_, fun j hj => Fgr_up (a3 j hj) (by unfold Bh; omega), fun j hj => ⟨(a4 j hj).1, by have := (a4 j hj).2; omega⟩⟩
  · rw [price_nI (by omega), r 7 (by omega)]
    exact nI_nlt hp (by omega)
  · rw [r 6 (by omega), nI_add]
    exact nI_le (b := 99) (show n 6 + (1 + y) ≤ 99 by omega) (by omega)
  · by_cases e : j = k
    · subst e
      rw [va_up_self]
      exact ⟨_, rep_coal r (by omega) hp, Nn_up (Nn_coal hn (by omega)) (by omega)⟩
    · rw [va_up_ne _ _ e]
      exact Nv_up (a2 j hj) (by omega)
theorem LI_keep {N F T A : Nat → Nat → Int32} {i k j : Nat} (a : LI N F T A i) (hj : j < 61) : LI N (va_up F k (upd (F k) 0 (nI j))) T A (i + 1) := by
  obtain ⟨Lf, a1, a2, a3, a4⟩ := LI_up a
  refine ⟨Lf, a1, a2, fun q hq => ?_, a4⟩
  by_cases e : q = k
  · subst e
    rw [va_up_self]
    exact Fgr_keep (a3 q hq) hj
  · rw [va_up_ne _ _ e]
    exact a3 q hq
theorem LI_pass {N F T A : Nat → Nat → Int32} {i : Nat} (a : LI N F T A i) (hi : i < 14) : LI (goB (fuel 5 0) 5 0 3 0 N F T 0).1 (goB (fuel 5 0) 5 0 3 0 N F T 0).2.1 (goB (fuel 5 0) 5 0 3 0 N F T 0).2.2.1 A (i + 1) ∧ ¬ (goB (fuel 5 0) 5 0 3 0 N F T 0).2.2.2 < 0 := by
  obtain ⟨Lf, a1, a2, a3, a4⟩ := a
  obtain ⟨b1, b2, s, hs, b3⟩ := pass_rep (T := T) (fun k hk => by have := (a4 k hk).2; omega) (show 5 * i ≤ 150 by omega) a2 a3
  refine ⟨⟨Lf, by rw [goB_T1]; exact a1, fun k hk => ?_, fun k hk => ?_, fun k hk => ⟨(a4 k hk).1, by have := (a4 k hk).2; omega⟩⟩, ?_⟩
  · rw [show 5 * (i + 1) = 5 * i + 5 by omega]
    exact b1 k hk
  · rw [show 5 * (i + 1) = 5 * i + 5 by omega]
    exact b2 k hk
  · rw [b3]
    exact nI_pos (by omega)
/-- all iron that was lent -/
theorem iron_ok {v : Nat → Int32} {n : Nat → Nat} {L h : Nat} (r : rep v n 20) (hn : Nn n L h) : v 4 + v 9 + nI 240 * v 3 + ozT (v 1).toNatClampNeg * (v 10 + v 11) = nI 240 * nI L := by
  have he : n 9 + n 4 + 240 * n 3 + ozN (n 1) * (n 10 + n 11) = 240 * L := hn.2.2.2.2.2.2.2.2.1
  have h1 : n 1 < 4 := hn.2.1
  rw [r 4 (by omega), r 9 (by omega), r 3 (by omega), r 1 (by omega), r 10 (by omega), r 11 (by omega), nI_clamp (by omega), ozT_nI, nI_add, nI_mul, nI_add, nI_add, nI_mul, nI_add, nI_mul, ← he]
  congr 1
  omega
theorem work_rate {v : Nat → Int32} {n : Nat → Nat} {L h : Nat} (r : rep v n 20) (hn : Nn n L h) (hL : L ≤ 160) : ∃ g, g ≤ 162 ∧ (whl1 v).2 = nI g := by
  obtain ⟨-, g, hg, e⟩ := work_rep ⟨n, r, hn⟩ (by omega)
  refine ⟨g, hg, ?_⟩
  rw [whl1_eq]
  show 0 + (workH v).2 = nI g
  rw [e, Int32.zero_add]
/-- bags in the warehouse -/
theorem bought_eq {F : Nat → Nat → Int32} : F 0 2 + F 1 2 + F 2 2 + F 3 2 = boughtF F (4 * 0) := by
  unfold boughtF
  rw [Int32.zero_add]
theorem MkI_LI {N F T : Nat → Nat → Int32} {A : Nat → Nat → Int32} (h : MkI N F T) (h0 : A 0 0 = N 0 3) (h1 : A 0 1 = N 1 3) (h2 : A 0 2 = N 2 3) : LI N F T A 0 := by
  obtain ⟨⟨hT, hN, -⟩, hF⟩ := h
  obtain ⟨L0, b0, c0, d0⟩ := hN 0 (by omega)
  obtain ⟨L1, b1, c1, d1⟩ := hN 1 (by omega)
  obtain ⟨L2, b2, c2, d2⟩ := hN 2 (by omega)
  refine ⟨fun k => if k = 0 then L0 else if k = 1 then L1 else L2, hT, fun k hk => ?_, hF, fun k hk => ?_⟩
  · rcases (show k = 0 ∨ k = 1 ∨ k = 2 by omega) with rfl | rfl | rfl
    · exact d0
    · exact d1
    · exact d2
  · rcases (show k = 0 ∨ k = 1 ∨ k = 2 by omega) with rfl | rfl | rfl
    · exact ⟨h0.trans c0, show L0 ≤ 20 + 10 * 0 by omega⟩
    · exact ⟨h1.trans c1, show L1 ≤ 20 + 10 * 0 by omega⟩
    · exact ⟨h2.trans c2, show L2 ≤ 20 + 10 * 0 by omega⟩
end
section
/-! THE LAW, block by block -/
section LawBlocks
variable {p : Program} {l : Launch} {e : Env} {s : State} {m : MethodId} {below : List Frame} {meth : Method} {c : Code} {P : L5} {D : va_G} {Q : State → Prop} {N F T : Nat → Nat → Int32} {K : Nat → Int32} {A : Nat → Nat → Int32} {w : Int64} {i : Nat}
set_option maxHeartbeats 4000000 in
theorem law_A (C : Cx p l s m #[Value.ref (rS P 5)] meth c P D code 14 ret RL) (hfl : P.2.2.2.2.1 = true) (hI : LI N F T A i) (hi : i < 14) (kk : ∀ (N F T : Nat → Nat → Int32) (x : Int32) (of : Nat) (sn : Int32), LI N F T A i → of < 3 → sn = SN N F T → V p l e room_1 s m #[Value.ref (rS P 5)] below meth c P D Q 14 (nW P) False (cw P N F T K A w) 91 644 130 [(8, .int sn), (5, .int (nI of)), (4, .int x), (3, .int (nI i)), (2, .ref (rA P 0)), (1, .ref (rX P)), (0, .ref (rS P 5))] []) : V p l e room_1 s m #[Value.ref (rS P 5)] below meth c P D Q 14 (nW P) False (cw P N F T K A w) 91 644 44 [(3, .int (nI i)), (2, .ref (rA P 0)), (1, .ref (rX P)), (0, .ref (rS P 5))] [] := by
  have hT := LI_T hI
  have hKF := LI_KF hI
  refine v_aload_n C 3 dL_law_44 rfl ?_
  refine v_iconst (v := nI 4) C dL_law_45 rfl ?_
  refine v_iload_n C 0 dL_law_46 rfl ?_
  refine v_iadd C dL_law_47 ?_
  refine v_topE (b := nI (4 + i)) (nI_add 4 i) ?_
  refine go_P (run_S C (c_L_cell (by omega)) k_301 k_0 k_299 k_300 dd_L_cell ⟨Nat.le_of_ble_eq_true rfl, Nat.le_of_ble_eq_true rfl⟩ rfl (Nat.le_of_ble_eq_true rfl) dL_law_48 ⟨Nat.le_of_ble_eq_true rfl, Nat.le_of_ble_eq_true rfl⟩) (fun r _ => ?_)
  refine v_iconst (v := 2) C dL_law_51 rfl ?_
  refine v_ishr C dL_law_52 ?_
  refine v_top (fun x ex => ?_)
  refine v_istore (lv' := [(4, .int x), (3, .int (nI i)), (2, .ref (rA P 0)), (1, .ref (rX P)), (0, .ref (rS P 5))]) C dL_law_53 (by decide) rfl ?_
  refine v_iload C 0 dL_law_55 rfl ?_
  refine v_iconst (v := nI 3) C dL_law_57 rfl ?_
  refine go_P (run_S C (c_L_below (by omega) (by omega)) k_297 k_0 k_295 k_296 dd_L_below ⟨Nat.le_of_ble_eq_true rfl, Nat.le_of_ble_eq_true rfl⟩ rfl (Nat.le_of_ble_eq_true rfl) dL_law_58 ⟨Nat.le_of_ble_eq_true rfl, Nat.le_of_ble_eq_true rfl⟩) (fun rq hof => ?_)
  obtain ⟨of, hof, rfl⟩ := hof
  refine v_istore (lv' := [(5, .int (nI of)), (4, .int x), (3, .int (nI i)), (2, .ref (rA P 0)), (1, .ref (rX P)), (0, .ref (rS P 5))]) C dL_law_61 (by decide) rfl ?_
  refine v_aload_n C 4 dL_law_63 rfl ?_
  refine go_L (run_V C (c_X3_digest hT (by omega)) k_286 k_1 k_283 k_284 k_285 dd_X3_digest ⟨Nat.le_of_ble_eq_true rfl, Nat.le_of_ble_eq_true rfl⟩ rcX rfl (Nat.le_of_ble_eq_true rfl) dL_law_64 ⟨Nat.le_of_ble_eq_true rfl, Nat.le_of_ble_eq_true rfl⟩) ?_
  refine v_topl (fun d0 ed => ?_)
  refine v_lstore (lv' := [(6, .long d0), (5, .int (nI of)), (4, .int x), (3, .int (nI i)), (2, .ref (rA P 0)), (1, .ref (rX P)), (0, .ref (rS P 5))]) C dL_law_67 (by decide) rfl ?_
  refine v_aload_n C 5 dL_law_69 rfl ?_
  refine v_iconst (v := 5) C dL_law_70 rfl ?_
  refine v_iconst (v := 4) C dL_law_71 rfl ?_
  obtain ⟨N1, F1, T1, hN1, hFF1, hTT1, hF1⟩ := t_foresee (l := l) (P := P) (D := D) (N := N) (F := F) (T := T) (K := K) (A := A) (w := w) hT hKF
  have hT1 : T1 0 1 = nI 3 := by rw [hTT1]; exact hT
  obtain ⟨n, L9, rn, hn, hA9, hL9⟩ := LI_row hI hof (by omega)
  have hv1 : vp_in (N1 of 1) 4 := by
    rw [hN1 of (by omega), rn 1 (by omega)]
    exact vp_in_nI hn.2.1 (by omega)
  obtain ⟨g, hg, eg⟩ : ∃ g, g ≤ 162 ∧ (whl1 (N1 of)).2 = nI g := by
    rw [hN1 of (by omega)]
    exact work_rate rn hn hL9
  refine go_I (run_V C (hF1) k_263 k_1 k_260 k_261 k_262 dd_X3_foresee ⟨Nat.le_of_ble_eq_true rfl, Nat.le_of_ble_eq_true rfl⟩ rcX rfl (Nat.le_of_ble_eq_true rfl) dL_law_72 ⟨Nat.le_of_ble_eq_true rfl, Nat.le_of_ble_eq_true rfl⟩) ?_
  refine v_top (fun sn esn => ?_)
  refine v_istore (lv' := [(8, .int sn), (6, .long d0), (5, .int (nI of)), (4, .int x), (3, .int (nI i)), (2, .ref (rA P 0)), (1, .ref (rX P)), (0, .ref (rS P 5))]) C dL_law_75 (by decide) rfl ?_
  refine v_aload_n C 6 dL_law_77 rfl ?_
  refine v_iload C 2 dL_law_78 rfl ?_
  refine go_I (run_V C (t_rate hT1 (by omega) hof hv1) k_250 k_1 k_247 k_248 k_249 dd_X3_rate ⟨Nat.le_of_ble_eq_true rfl, Nat.le_of_ble_eq_true rfl⟩ rcX rfl (Nat.le_of_ble_eq_true rfl) dL_law_80 ⟨Nat.le_of_ble_eq_true rfl, Nat.le_of_ble_eq_true rfl⟩) ?_
  refine v_topE (b := nI g) eg ?_
  refine v_istore (lv' := [(9, .int (nI g)), (8, .int sn), (6, .long d0), (5, .int (nI of)), (4, .int x), (3, .int (nI i)), (2, .ref (rA P 0)), (1, .ref (rX P)), (0, .ref (rS P 5))]) C dL_law_83 (by decide) rfl ?_
  refine v_aload_n C 7 dL_law_85 rfl ?_
  refine v_iload C 3 dL_law_86 rfl ?_
  refine v_iconst (v := 3) C dL_law_88 rfl ?_
  obtain ⟨N2, eN2⟩ : ∃ z, z = va_up (trialN N1 of) 24 (whl1 (N1 of)).1 := ⟨_, rfl⟩
  rw [← eN2]
  obtain ⟨ad, had, ead⟩ := advL_le (q := 3) (j := of) 5 0 N2 0 (-1) ⟨0, by omega, rfl⟩
  refine go_I (run_V C (t_advise hT1 (by omega) hof) k_277 k_1 k_274 k_275 k_276 dd_X3_advise ⟨Nat.le_of_ble_eq_true rfl, Nat.le_of_ble_eq_true rfl⟩ rcX rfl (Nat.le_of_ble_eq_true rfl) dL_law_89 ⟨Nat.le_of_ble_eq_true rfl, Nat.le_of_ble_eq_true rfl⟩) ?_
  refine v_topE (b := nI ad) ead ?_
  refine v_istore (lv' := [(10, .int (nI ad)), (9, .int (nI g)), (8, .int sn), (6, .long d0), (5, .int (nI of)), (4, .int x), (3, .int (nI i)), (2, .ref (rA P 0)), (1, .ref (rX P)), (0, .ref (rS P 5))]) C dL_law_92 (by decide) rfl ?_
  refine v_aload_n C 8 dL_law_94 rfl ?_
  obtain ⟨N3, eN3⟩ : ∃ z, z = (advL 5 3 of 0 N2 0 (-1)).1 := ⟨_, rfl⟩
  rw [← eN3]
  have h3 : ∀ k, k < 3 → N3 k = N k := fun k hk => by
    rw [eN3, advL_of (by omega), eN2, va_up_ne _ _ (by omega)]
    unfold trialN
    rw [va_up_ne _ _ (by omega)]
    exact hN1 k (by omega)
  have h4 : ∀ k, k < 4 → F1 k = F k := fun k hk => hFF1 k hk
  have ecmp : lg_cmp (digC N3 F1 T1 3) d0 = 0 := by
    rw [ed, dig_sim (N := N) (F := F) (T := T) (fun k hk => h3 _ (by omega)) (fun k hk => h4 _ (by omega)) hTT1]
    unfold lg_cmp
    rw [if_neg (Int64.lt_irrefl), if_pos rfl]
  refine go_L (run_V C (c_X3_digest hT1 (by omega)) k_286 k_1 k_283 k_284 k_285 dd_X3_digest ⟨Nat.le_of_ble_eq_true rfl, Nat.le_of_ble_eq_true rfl⟩ rcX rfl (Nat.le_of_ble_eq_true rfl) dL_law_95 ⟨Nat.le_of_ble_eq_true rfl, Nat.le_of_ble_eq_true rfl⟩) ?_
  refine v_lload C 3 dL_law_98 rfl ?_
  refine v_lcmp C dL_law_100 ?_
  refine v_topE (b := 0) ecmp ?_
  refine v_if_ne (tgt := 128) C dL_law_101 (by decide) (fun h9 => absurd rfl h9) (fun _ => ?_)
  refine v_iload C 1 dL_law_104 rfl ?_
  refine v_if_lt (tgt := 128) C dL_law_106 (by decide) (fun h9 => absurd h9 (nI_pos (by omega))) (fun _ => ?_)
  refine v_iload C 1 dL_law_109 rfl ?_
  refine v_sipush (v := nI 162) C dL_law_111 rfl ?_
  refine v_icmp_gt (tgt := 128) C dL_law_114 (by decide) (fun h9 => absurd h9 (nI_nlt hg (by omega))) (fun _ => ?_)
  refine v_iload C 0 dL_law_117 rfl ?_
  refine v_if_lt (tgt := 128) C dL_law_119 (by decide) (fun h9 => absurd h9 (nI_pos (by omega))) (fun _ => ?_)
  refine v_iload C 0 dL_law_122 rfl ?_
  refine v_iconst (v := nI 3) C dL_law_124 rfl ?_
  refine v_icmp_le (tgt := 130) C dL_law_125 (by decide) (fun _ => ?_) (fun h9 => absurd (nI_le (show ad ≤ 3 by omega) (by omega)) h9)
  refine v_lv [2, 4, 5, 6, 7, 8, 9] rfl ?_
  exact kk N3 F1 T1 x of sn (LI_cong hI h3 h4 hTT1) hof (by rw [esn, SN_cong hKF h3 h4 hTT1])
set_option maxHeartbeats 4000000 in
theorem law_B4 (C : Cx p l s m #[Value.ref (rS P 5)] meth c P D code 14 ret RL) (hfl : P.2.2.2.2.1 = true) (hI : LI N F T A i) (hi : i < 14) {x : Int32} {of : Nat} {sn : Int32} (hof : of < 3) (hsn : sn = SN N F T) (kk : ∀ (N F T A : Nat → Nat → Int32), LI N F T A (i + 1) → V p l e room_1 s m #[Value.ref (rS P 5)] below meth c P D Q 14 (nW P) False (cw P N F T K A w) 91 644 289 [(3, .int (nI i)), (2, .ref (rA P 0)), (1, .ref (rX P)), (0, .ref (rS P 5))] []) : V p l e room_1 s m #[Value.ref (rS P 5)] below meth c P D Q 14 (nW P) False (cw P N F T K A w) 91 644 269 [(8, .int sn), (5, .int (nI of)), (4, .int x), (3, .int (nI i)), (2, .ref (rA P 0)), (1, .ref (rX P)), (0, .ref (rS P 5))] [] := by
  have hT := LI_T hI
  have hKF := LI_KF hI
  obtain ⟨hI2, hs⟩ := LI_pass hI hi
  have hT2 := LI_T hI2
  refine v_aload_n C 5 dL_law_269 rfl ?_
  refine v_iconst (v := 5) C dL_law_270 rfl ?_
  refine go_I (run_V C (c_X3_pass hT (by omega) hKF (p := 5) (by decide) (by decide)) k_190 k_1 k_187 k_188 k_189 dd_X3_pass ⟨Nat.le_of_ble_eq_true rfl, Nat.le_of_ble_eq_true rfl⟩ rcX rfl (Nat.le_of_ble_eq_true rfl) dL_law_271 ⟨Nat.le_of_ble_eq_true rfl, Nat.le_of_ble_eq_true rfl⟩) ?_
  refine v_if_lt (tgt := 287) C dL_law_274 (by decide) (fun h9 => absurd h9 hs) (fun _ => ?_)
  refine v_aload_n C 5 dL_law_277 rfl ?_
  refine v_iconst (v := 4) C dL_law_278 rfl ?_
  refine go_I (run_V C (c_X3_count_4 hT2 (by omega)) k_167 k_1 k_164 k_165 k_166 dd_X3_count ⟨Nat.le_of_ble_eq_true rfl, Nat.le_of_ble_eq_true rfl⟩ rcX rfl (Nat.le_of_ble_eq_true rfl) dL_law_279 ⟨Nat.le_of_ble_eq_true rfl, Nat.le_of_ble_eq_true rfl⟩) ?_
  have esn : totN (goB (fuel 5 0) 5 0 3 0 N F T 0).1 (goB (fuel 5 0) 5 0 3 0 N F T 0).2.1 (goB (fuel 5 0) 5 0 3 0 N F T 0).2.2.1 0 3 4 = sn := by
    rw [hsn]
    unfold totN SN
    rw [if_neg (by omega), if_neg (by omega), if_neg (by omega)]
  refine v_iload C 0 dL_law_282 rfl ?_
  refine v_icmp_eq (tgt := 289) C dL_law_284 (by decide) (fun _ => ?_) (fun h9 => absurd esn h9)
  refine v_lv [3, 4, 5, 6] rfl ?_
  exact kk _ _ _ _ hI2
set_option maxHeartbeats 4000000 in
theorem law_B3 (C : Cx p l s m #[Value.ref (rS P 5)] meth c P D code 14 ret RL) (hfl : P.2.2.2.2.1 = true) (hI : LI N F T A i) (hi : i < 14) {x : Int32} {of : Nat} {sn : Int32} (hof : of < 3) (hsn : sn = SN N F T) (kk : ∀ (N F T A : Nat → Nat → Int32), LI N F T A (i + 1) → V p l e room_1 s m #[Value.ref (rS P 5)] below meth c P D Q 14 (nW P) False (cw P N F T K A w) 91 644 289 [(3, .int (nI i)), (2, .ref (rA P 0)), (1, .ref (rX P)), (0, .ref (rS P 5))] []) : V p l e room_1 s m #[Value.ref (rS P 5)] below meth c P D Q 14 (nW P) False (cw P N F T K A w) 91 644 231 [(8, .int sn), (5, .int (nI of)), (4, .int x), (3, .int (nI i)), (2, .ref (rA P 0)), (1, .ref (rX P)), (0, .ref (rS P 5))] [] := by
  have hT := LI_T hI
  refine v_iload C 2 dL_law_231 rfl ?_
  refine v_iconst (v := 2) C dL_law_233 rfl ?_
  refine v_ishr C dL_law_234 ?_
  refine v_iconst (v := nI 4) C dL_law_235 rfl ?_
  refine go_P (run_S C (c_L_below (by omega) (by omega)) k_297 k_0 k_295 k_296 dd_L_below ⟨Nat.le_of_ble_eq_true rfl, Nat.le_of_ble_eq_true rfl⟩ rfl (Nat.le_of_ble_eq_true rfl) dL_law_236 ⟨Nat.le_of_ble_eq_true rfl, Nat.le_of_ble_eq_true rfl⟩) (fun ra ha => ?_)
  refine v_iconst (v := nI 2) C dL_law_239 rfl ?_
  refine v_icmp_ne (tgt := 269) C dL_law_240 (by decide) (fun h => law_B4 C hfl hI hi hof hsn kk) (fun h => ?_)
  refine v_aload_n C 5 dL_law_243 rfl ?_
  refine v_iload C 2 dL_law_244 rfl ?_
  refine v_iconst (v := 4) C dL_law_246 rfl ?_
  refine v_ishr C dL_law_247 ?_
  refine v_iconst (v := nI 4) C dL_law_248 rfl ?_
  refine go_P (run_S C (c_L_below (by omega) (by omega)) k_297 k_0 k_295 k_296 dd_L_below ⟨Nat.le_of_ble_eq_true rfl, Nat.le_of_ble_eq_true rfl⟩ rfl (Nat.le_of_ble_eq_true rfl) dL_law_249 ⟨Nat.le_of_ble_eq_true rfl, Nat.le_of_ble_eq_true rfl⟩) (fun rj hj => ?_)
  obtain ⟨j, hj, rfl⟩ := hj
  refine v_iload C 2 dL_law_252 rfl ?_
  refine v_bipush (v := 6) C dL_law_254 rfl ?_
  refine v_ishr C dL_law_256 ?_
  refine v_bipush (v := nI 61) C dL_law_257 rfl ?_
  refine go_P (run_S C (c_L_below (by omega) (by omega)) k_297 k_0 k_295 k_296 dd_L_below ⟨Nat.le_of_ble_eq_true rfl, Nat.le_of_ble_eq_true rfl⟩ rfl (Nat.le_of_ble_eq_true rfl) dL_law_259 ⟨Nat.le_of_ble_eq_true rfl, Nat.le_of_ble_eq_true rfl⟩) (fun rq hq => ?_)
  obtain ⟨q, hq, rfl⟩ := hq
  refine go_I (run_V C (t_keep hj (nI_pos (by omega)) (nI_le (b := 60) (show q ≤ 60 by omega) (by omega))) k_150 k_1 k_147 k_148 k_149 dd_X3_keep ⟨Nat.le_of_ble_eq_true rfl, Nat.le_of_ble_eq_true rfl⟩ rcX rfl (Nat.le_of_ble_eq_true rfl) dL_law_262 ⟨Nat.le_of_ble_eq_true rfl, Nat.le_of_ble_eq_true rfl⟩) ?_
  refine v_pop C dL_law_265 rfl ?_
  refine v_goto (tgt := 289) C dL_law_266 (by decide) ?_
  refine v_lv [3, 4, 5, 6] rfl ?_
  exact kk _ _ _ _ (LI_keep hI hq)
set_option maxHeartbeats 4000000 in
theorem law_B2 (C : Cx p l s m #[Value.ref (rS P 5)] meth c P D code 14 ret RL) (hfl : P.2.2.2.2.1 = true) (hI : LI N F T A i) (hi : i < 14) {x : Int32} {of : Nat} {sn : Int32} (hof : of < 3) (hsn : sn = SN N F T) (kk : ∀ (N F T A : Nat → Nat → Int32), LI N F T A (i + 1) → V p l e room_1 s m #[Value.ref (rS P 5)] below meth c P D Q 14 (nW P) False (cw P N F T K A w) 91 644 289 [(3, .int (nI i)), (2, .ref (rA P 0)), (1, .ref (rX P)), (0, .ref (rS P 5))] []) : V p l e room_1 s m #[Value.ref (rS P 5)] below meth c P D Q 14 (nW P) False (cw P N F T K A w) 91 644 175 [(8, .int sn), (5, .int (nI of)), (4, .int x), (3, .int (nI i)), (2, .ref (rA P 0)), (1, .ref (rX P)), (0, .ref (rS P 5))] [] := by
  have hT := LI_T hI
  refine v_iload C 2 dL_law_175 rfl ?_
  refine v_iconst (v := 2) C dL_law_177 rfl ?_
  refine v_ishr C dL_law_178 ?_
  refine v_iconst (v := nI 4) C dL_law_179 rfl ?_
  refine go_P (run_S C (c_L_below (by omega) (by omega)) k_297 k_0 k_295 k_296 dd_L_below ⟨Nat.le_of_ble_eq_true rfl, Nat.le_of_ble_eq_true rfl⟩ rfl (Nat.le_of_ble_eq_true rfl) dL_law_180 ⟨Nat.le_of_ble_eq_true rfl, Nat.le_of_ble_eq_true rfl⟩) (fun ra ha => ?_)
  refine v_iconst (v := nI 1) C dL_law_183 rfl ?_
  refine v_icmp_ne (tgt := 231) C dL_law_184 (by decide) (fun h => law_B3 C hfl hI hi hof hsn kk) (fun h => ?_)
  refine v_aload_n C 5 dL_law_187 rfl ?_
  refine v_iload C 1 dL_law_188 rfl ?_
  refine v_bipush (v := 7) C dL_law_190 rfl ?_
  refine go_I (run_V C (t_told_7 hT (by omega) hof) k_137 k_1 k_134 k_135 k_136 dd_X3_told ⟨Nat.le_of_ble_eq_true rfl, Nat.le_of_ble_eq_true rfl⟩ rcX rfl (Nat.le_of_ble_eq_true rfl) dL_law_192 ⟨Nat.le_of_ble_eq_true rfl, Nat.le_of_ble_eq_true rfl⟩) ?_
  refine v_if_le (tgt := 231) C dL_law_195 (by decide) (fun h7 => law_B3 C hfl hI hi hof hsn kk) (fun h7 => ?_)
  refine v_aload_n C 5 dL_law_198 rfl ?_
  refine v_iload C 1 dL_law_199 rfl ?_
  refine v_bipush (v := 6) C dL_law_201 rfl ?_
  refine go_I (run_V C (t_told_6 hT (by omega) hof) k_137 k_1 k_134 k_135 k_136 dd_X3_told ⟨Nat.le_of_ble_eq_true rfl, Nat.le_of_ble_eq_true rfl⟩ rcX rfl (Nat.le_of_ble_eq_true rfl) dL_law_203 ⟨Nat.le_of_ble_eq_true rfl, Nat.le_of_ble_eq_true rfl⟩) ?_
  refine v_bipush (v := nI 96) C dL_law_206 rfl ?_
  refine v_icmp_ge (tgt := 231) C dL_law_208 (by decide) (fun h6 => law_B3 C hfl hI hi hof hsn kk) (fun h6 => ?_)
  refine v_aload_n C 5 dL_law_211 rfl ?_
  refine v_iload C 1 dL_law_212 rfl ?_
  refine v_iconst (v := nI 1) C dL_law_214 rfl ?_
  refine v_iload C 2 dL_law_215 rfl ?_
  refine v_iconst (v := 4) C dL_law_217 rfl ?_
  refine v_ishr C dL_law_218 ?_
  refine v_iconst (v := nI 4) C dL_law_219 rfl ?_
  refine go_P (run_S C (c_L_below (by omega) (by omega)) k_297 k_0 k_295 k_296 dd_L_below ⟨Nat.le_of_ble_eq_true rfl, Nat.le_of_ble_eq_true rfl⟩ rfl (Nat.le_of_ble_eq_true rfl) dL_law_220 ⟨Nat.le_of_ble_eq_true rfl, Nat.le_of_ble_eq_true rfl⟩) (fun ry hy => ?_)
  obtain ⟨y, hy, rfl⟩ := hy
  refine v_iadd C dL_law_223 ?_
  refine v_topE (b := nI (1 + y)) (nI_add 1 y) ?_
  obtain ⟨g7, g6, hI2⟩ := LI_coal hI hof hi hy h7 h6
  refine go_I (run_V C (t_coal hT (by omega) hof (nI_nlt (b := 1) (show 1 ≤ 1 + y by omega) (by omega)) (nI_le (b := 99) (show 1 + y ≤ 99 by omega) (by omega)) g7 g6) k_132 k_1 k_129 k_130 k_131 dd_X3_coal ⟨Nat.le_of_ble_eq_true rfl, Nat.le_of_ble_eq_true rfl⟩ rcX rfl (Nat.le_of_ble_eq_true rfl) dL_law_224 ⟨Nat.le_of_ble_eq_true rfl, Nat.le_of_ble_eq_true rfl⟩) ?_
  refine v_pop C dL_law_227 rfl ?_
  refine v_goto (tgt := 289) C dL_law_228 (by decide) ?_
  refine v_lv [3, 4, 5, 6] rfl ?_
  exact kk _ _ _ _ hI2
set_option maxHeartbeats 4000000 in
theorem law_B (C : Cx p l s m #[Value.ref (rS P 5)] meth c P D code 14 ret RL) (hfl : P.2.2.2.2.1 = true) (hI : LI N F T A i) (hi : i < 14) {x : Int32} {of : Nat} {sn : Int32} (hof : of < 3) (hsn : sn = SN N F T) (kk : ∀ (N F T A : Nat → Nat → Int32), LI N F T A (i + 1) → V p l e room_1 s m #[Value.ref (rS P 5)] below meth c P D Q 14 (nW P) False (cw P N F T K A w) 91 644 289 [(3, .int (nI i)), (2, .ref (rA P 0)), (1, .ref (rX P)), (0, .ref (rS P 5))] []) : V p l e room_1 s m #[Value.ref (rS P 5)] below meth c P D Q 14 (nW P) False (cw P N F T K A w) 91 644 130 [(8, .int sn), (5, .int (nI of)), (4, .int x), (3, .int (nI i)), (2, .ref (rA P 0)), (1, .ref (rX P)), (0, .ref (rS P 5))] [] := by
  have hT := LI_T hI
  refine v_iload C 2 dL_law_130 rfl ?_
  refine v_iconst (v := 2) C dL_law_132 rfl ?_
  refine v_ishr C dL_law_133 ?_
  refine v_iconst (v := nI 4) C dL_law_134 rfl ?_
  refine go_P (run_S C (c_L_below (by omega) (by omega)) k_297 k_0 k_295 k_296 dd_L_below ⟨Nat.le_of_ble_eq_true rfl, Nat.le_of_ble_eq_true rfl⟩ rfl (Nat.le_of_ble_eq_true rfl) dL_law_135 ⟨Nat.le_of_ble_eq_true rfl, Nat.le_of_ble_eq_true rfl⟩) (fun ra ha => ?_)
  refine v_if_ne (tgt := 175) C dL_law_138 (by decide) (fun h => law_B2 C hfl hI hi hof hsn kk) (fun h => ?_)
  refine v_aload_n C 5 dL_law_141 rfl ?_
  refine v_iload C 1 dL_law_142 rfl ?_
  refine v_bipush (v := 8) C dL_law_144 rfl ?_
  refine go_I (run_V C (t_told_8 hT (by omega) hof) k_137 k_1 k_134 k_135 k_136 dd_X3_told ⟨Nat.le_of_ble_eq_true rfl, Nat.le_of_ble_eq_true rfl⟩ rcX rfl (Nat.le_of_ble_eq_true rfl) dL_law_146 ⟨Nat.le_of_ble_eq_true rfl, Nat.le_of_ble_eq_true rfl⟩) ?_
  refine v_bipush (v := nI 60) C dL_law_149 rfl ?_
  refine v_icmp_gt (tgt := 175) C dL_law_151 (by decide) (fun h8 => law_B2 C hfl hI hi hof hsn kk) (fun h8 => ?_)
  obtain ⟨g8, hI2⟩ := LI_lend hI hof hi h8
  refine v_aload_n C 5 dL_law_154 rfl ?_
  refine v_iload C 1 dL_law_155 rfl ?_
  refine v_bipush (v := nI 10) C dL_law_157 rfl ?_
  refine go_I (run_V C (t_lend hT (by omega) hof (by decide) (by decide) g8) k_15 k_1 k_12 k_13 k_14 dd_X3_lend ⟨Nat.le_of_ble_eq_true rfl, Nat.le_of_ble_eq_true rfl⟩ rcX rfl (Nat.le_of_ble_eq_true rfl) dL_law_159 ⟨Nat.le_of_ble_eq_true rfl, Nat.le_of_ble_eq_true rfl⟩) ?_
  refine v_pop C dL_law_162 rfl ?_
  refine v_aload_n C 4 dL_law_163 rfl ?_
  refine v_iload C 1 dL_law_164 rfl ?_
  refine v_dup2 C dL_law_166 rfl rfl ?_
  refine v_ldE C hfl of rfl hof dL_law_167 ?_
  refine v_bipush (v := nI 10) C dL_law_168 rfl ?_
  refine v_iadd C dL_law_170 ?_
  refine v_stE C hfl of rfl hof dL_law_171 ?_
  refine v_goto (tgt := 289) C dL_law_172 (by decide) ?_
  refine v_lv [3, 4, 5, 6] rfl ?_
  exact kk _ _ _ _ hI2
set_option maxHeartbeats 4000000 in
theorem law_Ci (C : Cx p l s m #[Value.ref (rS P 5)] meth c P D code 14 ret RL) (hfl : P.2.2.2.2.1 = true) {i2 : Nat} (hI : LI N F T A i2) (hi : i2 ≤ 14) {k : Nat} (hk : k < 3) (kk : V p l e room_1 s m #[Value.ref (rS P 5)] below meth c P D Q 14 (nW P) False (cw P N F T K A w) 91 644 499 [(11, .int (nI k)), (3, .int (nI i)), (2, .ref (rA P 0)), (1, .ref (rX P)), (0, .ref (rS P 5))] []) : ∀ (n t : Nat), t + n = 4 → V p l e room_1 s m #[Value.ref (rS P 5)] below meth c P D Q 14 (nW P) False (cw P N F T K A w) 91 644 446 [(13, .int (nI t)), (11, .int (nI k)), (3, .int (nI i)), (2, .ref (rA P 0)), (1, .ref (rX P)), (0, .ref (rS P 5))] [] := by
  have hT := LI_T hI
  obtain ⟨n9, L9, rn, hn, hA9, hL9⟩ := LI_row hI hk hi
  have hl : ∀ t, t < 4 → N k (12 + t) = nI (n9 (12 + t)) ∧ n9 (12 + t) < 1000 := fun t ht => ⟨rn _ (by omega), hn.2.2.2.2.2.2.2.1 t ht⟩
  intro n
  induction n with
  | zero =>
    intro t ht
    refine v_iload C 0 dL_law_446 rfl ?_
    refine v_iconst (v := nI 4) C dL_law_448 rfl ?_
    refine v_icmp_ge (tgt := 499) C dL_law_449 (by decide) (fun _ => ?_) (fun h9 => absurd (nI_le (show 4 ≤ t by omega) (by omega)) h9)
    refine v_lv [1, 2, 3, 4, 5] rfl ?_
    exact kk
  | succ n ih =>
    intro t ht
    obtain ⟨e12, b12⟩ := hl t (by omega)
    have hb : ∃ b, b < 2 ^ 31 ∧ N k (16 + t) = nI b := by
      refine ⟨n9 (16 + t), ?_, rn _ (by omega)⟩
      have hs := hn.2.2.2.2.2.2.2.2.2
      rcases (show t = 0 ∨ t = 1 ∨ t = 2 ∨ t = 3 by omega) with rfl | rfl | rfl | rfl <;> simp only [Nat.reduceAdd] <;> omega
    obtain ⟨b, hb, e16⟩ := hb
    refine v_iload C 0 dL_law_446 rfl ?_
    refine v_iconst (v := nI 4) C dL_law_448 rfl ?_
    refine v_icmp_ge (tgt := 499) C dL_law_449 (by decide) (fun h9 => absurd h9 (nI_ge (show t < 4 by omega) (by omega))) (fun _ => ?_)
    refine v_aload_n C 4 dL_law_452 rfl ?_
    refine v_iload C 1 dL_law_453 rfl ?_
    refine v_iload C 0 dL_law_455 rfl ?_
    refine v_iconst (v := 0) C dL_law_457 rfl ?_
    refine go_I (run_V C (t_nails_0 hT (by omega) hk (by omega)) k_146 k_1 k_143 k_144 k_145 dd_X3_nails ⟨Nat.le_of_ble_eq_true rfl, Nat.le_of_ble_eq_true rfl⟩ rcX rfl (Nat.le_of_ble_eq_true rfl) dL_law_458 ⟨Nat.le_of_ble_eq_true rfl, Nat.le_of_ble_eq_true rfl⟩) ?_
    refine v_if_lt (tgt := 491) C dL_law_461 (by decide) (fun h9 => absurd h9 (by rw [e12]; exact nI_pos (by omega))) (fun _ => ?_)
    refine v_aload_n C 4 dL_law_464 rfl ?_
    refine v_iload C 1 dL_law_465 rfl ?_
    refine v_iload C 0 dL_law_467 rfl ?_
    refine v_iconst (v := 0) C dL_law_469 rfl ?_
    refine go_I (run_V C (t_nails_0 hT (by omega) hk (by omega)) k_146 k_1 k_143 k_144 k_145 dd_X3_nails ⟨Nat.le_of_ble_eq_true rfl, Nat.le_of_ble_eq_true rfl⟩ rcX rfl (Nat.le_of_ble_eq_true rfl) dL_law_470 ⟨Nat.le_of_ble_eq_true rfl, Nat.le_of_ble_eq_true rfl⟩) ?_
    refine v_sipush (v := nI 999) C dL_law_473 rfl ?_
    refine v_icmp_gt (tgt := 491) C dL_law_476 (by decide) (fun h9 => absurd h9 (by rw [e12]; exact nI_nlt (by omega) (by omega))) (fun _ => ?_)
    refine v_aload_n C 4 dL_law_479 rfl ?_
    refine v_iload C 1 dL_law_480 rfl ?_
    refine v_iload C 0 dL_law_482 rfl ?_
    refine v_iconst (v := 1) C dL_law_484 rfl ?_
    refine go_I (run_V C (t_nails_1 hT (by omega) hk (by omega)) k_146 k_1 k_143 k_144 k_145 dd_X3_nails ⟨Nat.le_of_ble_eq_true rfl, Nat.le_of_ble_eq_true rfl⟩ rcX rfl (Nat.le_of_ble_eq_true rfl) dL_law_485 ⟨Nat.le_of_ble_eq_true rfl, Nat.le_of_ble_eq_true rfl⟩) ?_
    refine v_if_ge (tgt := 493) C dL_law_488 (by decide) (fun _ => ?_) (fun h9 => absurd (by rw [e16]; exact nI_pos' hb) h9)
    refine v_iinc (b := nI (t + 1)) (lv' := [(13, .int (nI (t + 1))), (11, .int (nI k)), (3, .int (nI i)), (2, .ref (rA P 0)), (1, .ref (rX P)), (0, .ref (rS P 5))]) C 0 dL_law_493 rfl (nI_1 _) (by decide) rfl ?_
    refine v_goto (tgt := 446) C dL_law_496 (by decide) ?_
    refine v_lv [0, 1, 2, 3, 4, 5] rfl ?_
    exact ih (t + 1) (by omega)
set_option maxHeartbeats 4000000 in
theorem law_C (C : Cx p l s m #[Value.ref (rS P 5)] meth c P D code 14 ret RL) (hfl : P.2.2.2.2.1 = true) {i2 : Nat} (hI : LI N F T A i2) (hi : i2 ≤ 14) (kk : V p l e room_1 s m #[Value.ref (rS P 5)] below meth c P D Q 14 (nW P) False (cw P N F T K A w) 91 644 505 [(3, .int (nI i)), (2, .ref (rA P 0)), (1, .ref (rX P)), (0, .ref (rS P 5))] []) : ∀ (n k : Nat), k + n = 3 → V p l e room_1 s m #[Value.ref (rS P 5)] below meth c P D Q 14 (nW P) False (cw P N F T K A w) 91 644 292 [(11, .int (nI k)), (3, .int (nI i)), (2, .ref (rA P 0)), (1, .ref (rX P)), (0, .ref (rS P 5))] [] := by
  have hT := LI_T hI
  intro n
  induction n with
  | zero =>
    intro k hk9
    refine v_iload C 0 dL_law_292 rfl ?_
    refine v_iconst (v := nI 3) C dL_law_294 rfl ?_
    refine v_icmp_ge (tgt := 505) C dL_law_295 (by decide) (fun _ => ?_) (fun h9 => absurd (nI_le (show 3 ≤ k by omega) (by omega)) h9)
    refine v_lv [1, 2, 3, 4] rfl ?_
    exact kk
  | succ n ih =>
    intro k hk9
    have hk : k < 3 := by omega
    obtain ⟨n9, L9, rn, hn, hA9, hL9⟩ := LI_row hI hk hi
    have hir := iron_ok rn hn
    rw [← hA9] at hir
    have h1 : vp_in (N k 1) 4 := by
      rw [rn 1 (by omega)]
      exact vp_in_nI hn.2.1 (by omega)
    obtain ⟨-, -, -, -, h5, h6, h8, -, -, hb⟩ := hn
    have e5 := rn 5 (by omega)
    have e6 := rn 6 (by omega)
    have e7 := rn 7 (by omega)
    have e8 := rn 8 (by omega)
    refine v_iload C 0 dL_law_292 rfl ?_
    refine v_iconst (v := nI 3) C dL_law_294 rfl ?_
    refine v_icmp_ge (tgt := 505) C dL_law_295 (by decide) (fun h9 => absurd h9 (nI_ge (show k < 3 by omega) (by omega))) (fun _ => ?_)
    refine v_aload_n C 3 dL_law_298 rfl ?_
    refine v_iload C 0 dL_law_299 rfl ?_
    refine v_iconst (v := 4) C dL_law_301 rfl ?_
    refine go_I (run_V C (t_told_4 hT (by omega) hk) k_137 k_1 k_134 k_135 k_136 dd_X3_told ⟨Nat.le_of_ble_eq_true rfl, Nat.le_of_ble_eq_true rfl⟩ rcX rfl (Nat.le_of_ble_eq_true rfl) dL_law_302 ⟨Nat.le_of_ble_eq_true rfl, Nat.le_of_ble_eq_true rfl⟩) ?_
    refine v_aload_n C 3 dL_law_305 rfl ?_
    refine v_iload C 0 dL_law_306 rfl ?_
    refine v_bipush (v := 9) C dL_law_308 rfl ?_
    refine go_I (run_V C (t_told_9 hT (by omega) hk) k_137 k_1 k_134 k_135 k_136 dd_X3_told ⟨Nat.le_of_ble_eq_true rfl, Nat.le_of_ble_eq_true rfl⟩ rcX rfl (Nat.le_of_ble_eq_true rfl) dL_law_310 ⟨Nat.le_of_ble_eq_true rfl, Nat.le_of_ble_eq_true rfl⟩) ?_
    refine v_iadd C dL_law_313 ?_
    refine v_sipush (v := nI 240) C dL_law_314 rfl ?_
    refine v_aload_n C 3 dL_law_317 rfl ?_
    refine v_iload C 0 dL_law_318 rfl ?_
    refine v_iconst (v := 3) C dL_law_320 rfl ?_
    refine go_I (run_V C (t_told_3 hT (by omega) hk) k_137 k_1 k_134 k_135 k_136 dd_X3_told ⟨Nat.le_of_ble_eq_true rfl, Nat.le_of_ble_eq_true rfl⟩ rcX rfl (Nat.le_of_ble_eq_true rfl) dL_law_321 ⟨Nat.le_of_ble_eq_true rfl, Nat.le_of_ble_eq_true rfl⟩) ?_
    refine v_imul C dL_law_324 ?_
    refine v_iadd C dL_law_325 ?_
    refine v_gS C 2 rfl k_445 dL_law_326 ?_
    refine v_aload_n C 3 dL_law_329 rfl ?_
    refine v_iload C 0 dL_law_330 rfl ?_
    refine v_iconst (v := 1) C dL_law_332 rfl ?_
    refine go_I (run_V C (t_told_1 hT (by omega) hk) k_137 k_1 k_134 k_135 k_136 dd_X3_told ⟨Nat.le_of_ble_eq_true rfl, Nat.le_of_ble_eq_true rfl⟩ rcX rfl (Nat.le_of_ble_eq_true rfl) dL_law_333 ⟨Nat.le_of_ble_eq_true rfl, Nat.le_of_ble_eq_true rfl⟩) ?_
    refine v_ldS C 2 rfl h1 dL_law_336 ?_
    refine v_aload_n C 3 dL_law_337 rfl ?_
    refine v_iload C 0 dL_law_338 rfl ?_
    refine v_bipush (v := 10) C dL_law_340 rfl ?_
    refine go_I (run_V C (t_told_10 hT (by omega) hk) k_137 k_1 k_134 k_135 k_136 dd_X3_told ⟨Nat.le_of_ble_eq_true rfl, Nat.le_of_ble_eq_true rfl⟩ rcX rfl (Nat.le_of_ble_eq_true rfl) dL_law_342 ⟨Nat.le_of_ble_eq_true rfl, Nat.le_of_ble_eq_true rfl⟩) ?_
    refine v_aload_n C 3 dL_law_345 rfl ?_
    refine v_iload C 0 dL_law_346 rfl ?_
    refine v_bipush (v := 11) C dL_law_348 rfl ?_
    refine go_I (run_V C (t_told_11 hT (by omega) hk) k_137 k_1 k_134 k_135 k_136 dd_X3_told ⟨Nat.le_of_ble_eq_true rfl, Nat.le_of_ble_eq_true rfl⟩ rcX rfl (Nat.le_of_ble_eq_true rfl) dL_law_350 ⟨Nat.le_of_ble_eq_true rfl, Nat.le_of_ble_eq_true rfl⟩) ?_
    refine v_iadd C dL_law_353 ?_
    refine v_imul C dL_law_354 ?_
    refine v_iadd C dL_law_355 ?_
    refine v_top (fun y ey => ?_)
    refine v_istore (lv' := [(12, .int y), (11, .int (nI k)), (3, .int (nI i)), (2, .ref (rA P 0)), (1, .ref (rX P)), (0, .ref (rS P 5))]) C dL_law_356 (by decide) rfl ?_
    refine v_iload C 0 dL_law_358 rfl ?_
    refine v_sipush (v := nI 240) C dL_law_360 rfl ?_
    refine v_aload_n C 3 dL_law_363 rfl ?_
    refine v_iload C 1 dL_law_364 rfl ?_
    refine v_ldE C hfl k rfl hk dL_law_366 ?_
    refine v_imul C dL_law_367 ?_
    refine v_icmp_ne (tgt := 441) C dL_law_368 (by decide) (fun h9 => absurd (ey.trans hir) h9) (fun _ => ?_)
    refine v_aload_n C 4 dL_law_371 rfl ?_
    refine v_iload C 1 dL_law_372 rfl ?_
    refine v_iconst (v := 5) C dL_law_374 rfl ?_
    refine go_I (run_V C (t_told_5 hT (by omega) hk) k_137 k_1 k_134 k_135 k_136 dd_X3_told ⟨Nat.le_of_ble_eq_true rfl, Nat.le_of_ble_eq_true rfl⟩ rcX rfl (Nat.le_of_ble_eq_true rfl) dL_law_375 ⟨Nat.le_of_ble_eq_true rfl, Nat.le_of_ble_eq_true rfl⟩) ?_
    refine v_if_lt (tgt := 441) C dL_law_378 (by decide) (fun h9 => absurd h9 (by rw [e5]; exact nI_pos (by omega))) (fun _ => ?_)
    refine v_aload_n C 4 dL_law_381 rfl ?_
    refine v_iload C 1 dL_law_382 rfl ?_
    refine v_iconst (v := 5) C dL_law_384 rfl ?_
    refine go_I (run_V C (t_told_5 hT (by omega) hk) k_137 k_1 k_134 k_135 k_136 dd_X3_told ⟨Nat.le_of_ble_eq_true rfl, Nat.le_of_ble_eq_true rfl⟩ rcX rfl (Nat.le_of_ble_eq_true rfl) dL_law_385 ⟨Nat.le_of_ble_eq_true rfl, Nat.le_of_ble_eq_true rfl⟩) ?_
    refine v_bipush (v := nI 9) C dL_law_388 rfl ?_
    refine v_icmp_gt (tgt := 441) C dL_law_390 (by decide) (fun h9 => absurd h9 (by rw [e5]; exact nI_nlt h5 (by omega))) (fun _ => ?_)
    refine v_aload_n C 4 dL_law_393 rfl ?_
    refine v_iload C 1 dL_law_394 rfl ?_
    refine v_bipush (v := 6) C dL_law_396 rfl ?_
    refine go_I (run_V C (t_told_6 hT (by omega) hk) k_137 k_1 k_134 k_135 k_136 dd_X3_told ⟨Nat.le_of_ble_eq_true rfl, Nat.le_of_ble_eq_true rfl⟩ rcX rfl (Nat.le_of_ble_eq_true rfl) dL_law_398 ⟨Nat.le_of_ble_eq_true rfl, Nat.le_of_ble_eq_true rfl⟩) ?_
    refine v_bipush (v := nI 99) C dL_law_401 rfl ?_
    refine v_icmp_gt (tgt := 441) C dL_law_403 (by decide) (fun h9 => absurd h9 (by rw [e6]; exact nI_nlt h6 (by omega))) (fun _ => ?_)
    refine v_aload_n C 4 dL_law_406 rfl ?_
    refine v_iload C 1 dL_law_407 rfl ?_
    refine v_bipush (v := 7) C dL_law_409 rfl ?_
    refine go_I (run_V C (t_told_7 hT (by omega) hk) k_137 k_1 k_134 k_135 k_136 dd_X3_told ⟨Nat.le_of_ble_eq_true rfl, Nat.le_of_ble_eq_true rfl⟩ rcX rfl (Nat.le_of_ble_eq_true rfl) dL_law_411 ⟨Nat.le_of_ble_eq_true rfl, Nat.le_of_ble_eq_true rfl⟩) ?_
    refine v_if_lt (tgt := 441) C dL_law_414 (by decide) (fun h9 => absurd h9 (by rw [e7]; exact nI_pos (by omega))) (fun _ => ?_)
    refine v_aload_n C 4 dL_law_417 rfl ?_
    refine v_iload C 1 dL_law_418 rfl ?_
    refine v_bipush (v := 8) C dL_law_420 rfl ?_
    refine go_I (run_V C (t_told_8 hT (by omega) hk) k_137 k_1 k_134 k_135 k_136 dd_X3_told ⟨Nat.le_of_ble_eq_true rfl, Nat.le_of_ble_eq_true rfl⟩ rcX rfl (Nat.le_of_ble_eq_true rfl) dL_law_422 ⟨Nat.le_of_ble_eq_true rfl, Nat.le_of_ble_eq_true rfl⟩) ?_
    refine v_if_lt (tgt := 441) C dL_law_425 (by decide) (fun h9 => absurd h9 (by rw [e8]; exact nI_pos (by omega))) (fun _ => ?_)
    refine v_aload_n C 4 dL_law_428 rfl ?_
    refine v_iload C 1 dL_law_429 rfl ?_
    refine v_bipush (v := 8) C dL_law_431 rfl ?_
    refine go_I (run_V C (t_told_8 hT (by omega) hk) k_137 k_1 k_134 k_135 k_136 dd_X3_told ⟨Nat.le_of_ble_eq_true rfl, Nat.le_of_ble_eq_true rfl⟩ rcX rfl (Nat.le_of_ble_eq_true rfl) dL_law_433 ⟨Nat.le_of_ble_eq_true rfl, Nat.le_of_ble_eq_true rfl⟩) ?_
    refine v_bipush (v := nI 90) C dL_law_436 rfl ?_
    refine v_icmp_le (tgt := 443) C dL_law_438 (by decide) (fun _ => ?_) (fun h9 => absurd (by rw [e8]; exact nI_le h8 (by omega)) h9)
    refine v_iconst (v := nI 0) C dL_law_443 rfl ?_
    refine v_istore (lv' := [(13, .int (nI 0)), (12, .int y), (11, .int (nI k)), (3, .int (nI i)), (2, .ref (rA P 0)), (1, .ref (rX P)), (0, .ref (rS P 5))]) C dL_law_444 (by decide) rfl ?_
    refine v_lv [0, 2, 3, 4, 5, 6] rfl ?_
    refine law_Ci C hfl hI hi hk ?_ 4 0 (by omega)
    refine v_iinc (b := nI (k + 1)) (lv' := [(11, .int (nI (k + 1))), (3, .int (nI i)), (2, .ref (rA P 0)), (1, .ref (rX P)), (0, .ref (rS P 5))]) C 0 dL_law_499 rfl (nI_1 _) (by decide) rfl ?_
    refine v_goto (tgt := 292) C dL_law_502 (by decide) ?_
    exact ih (k + 1) (by omega)
set_option maxHeartbeats 4000000 in
theorem law_D (C : Cx p l s m #[Value.ref (rS P 5)] meth c P D code 14 ret RL) (hfl : P.2.2.2.2.1 = true) {i2 : Nat} (hI : LI N F T A i2) (hi : i2 ≤ 14) (kk : V p l e room_1 s m #[Value.ref (rS P 5)] below meth c P D Q 14 (nW P) False (cw P N F T K A w) 91 644 542 [(3, .int (nI i)), (2, .ref (rA P 0)), (1, .ref (rX P)), (0, .ref (rS P 5))] []) : ∀ (n k : Nat), k + n = 4 → V p l e room_1 s m #[Value.ref (rS P 5)] below meth c P D Q 14 (nW P) False (cw P N F T K A w) 91 644 508 [(11, .int (nI k)), (3, .int (nI i)), (2, .ref (rA P 0)), (1, .ref (rX P)), (0, .ref (rS P 5))] [] := by
  have hT := LI_T hI
  intro n
  induction n with
  | zero =>
    intro k hk9
    refine v_iload C 0 dL_law_508 rfl ?_
    refine v_iconst (v := nI 4) C dL_law_510 rfl ?_
    refine v_icmp_ge (tgt := 542) C dL_law_511 (by decide) (fun _ => ?_) (fun h9 => absurd (nI_le (show 4 ≤ k by omega) (by omega)) h9)
    refine v_lv [1, 2, 3, 4] rfl ?_
    exact kk
  | succ n ih =>
    intro k hk9
    have hk : k < 4 := by omega
    obtain ⟨Lf, -, -, hF, -⟩ := id hI
    obtain ⟨m9, rm, q1, q2, q3, q4, q5, q6⟩ := hF k hk
    unfold Bh at q1 q2
    have e5 : ¬ F k 4 - F k 3 < 0 := by
      rw [rm 4 (by omega), rm 3 (by omega), nI_sub q4]
      exact nI_pos (by omega)
    have e1 : 0 ≤ F k 1 := by
      rw [rm 1 (by omega)]
      exact nI_pos' (by omega)
    refine v_iload C 0 dL_law_508 rfl ?_
    refine v_iconst (v := nI 4) C dL_law_510 rfl ?_
    refine v_icmp_ge (tgt := 542) C dL_law_511 (by decide) (fun h9 => absurd h9 (nI_ge (show k < 4 by omega) (by omega))) (fun _ => ?_)
    refine v_aload_n C 3 dL_law_514 rfl ?_
    refine v_iload C 0 dL_law_515 rfl ?_
    refine v_iconst (v := 5) C dL_law_517 rfl ?_
    refine go_I (run_V C (t_fogger_5 hT (by omega) hk) k_154 k_1 k_151 k_152 k_153 dd_X3_fogger ⟨Nat.le_of_ble_eq_true rfl, Nat.le_of_ble_eq_true rfl⟩ rcX rfl (Nat.le_of_ble_eq_true rfl) dL_law_518 ⟨Nat.le_of_ble_eq_true rfl, Nat.le_of_ble_eq_true rfl⟩) ?_
    refine v_if_lt (tgt := 534) C dL_law_521 (by decide) (fun h9 => absurd h9 e5) (fun _ => ?_)
    refine v_aload_n C 3 dL_law_524 rfl ?_
    refine v_iload C 0 dL_law_525 rfl ?_
    refine v_iconst (v := 1) C dL_law_527 rfl ?_
    refine go_I (run_V C (t_fogger_1 hT (by omega) hk) k_154 k_1 k_151 k_152 k_153 dd_X3_fogger ⟨Nat.le_of_ble_eq_true rfl, Nat.le_of_ble_eq_true rfl⟩ rcX rfl (Nat.le_of_ble_eq_true rfl) dL_law_528 ⟨Nat.le_of_ble_eq_true rfl, Nat.le_of_ble_eq_true rfl⟩) ?_
    refine v_if_ge (tgt := 536) C dL_law_531 (by decide) (fun _ => ?_) (fun h9 => absurd e1 h9)
    refine v_iinc (b := nI (k + 1)) (lv' := [(11, .int (nI (k + 1))), (3, .int (nI i)), (2, .ref (rA P 0)), (1, .ref (rX P)), (0, .ref (rS P 5))]) C 0 dL_law_536 rfl (nI_1 _) (by decide) rfl ?_
    refine v_goto (tgt := 508) C dL_law_539 (by decide) ?_
    exact ih (k + 1) (by omega)
set_option maxHeartbeats 4000000 in
theorem law_E (C : Cx p l s m #[Value.ref (rS P 5)] meth c P D code 14 ret RL) (hfl : P.2.2.2.2.1 = true) {i2 : Nat} (hI : LI N F T A i2) (hi : i2 ≤ 14) (kk : V p l e room_1 s m #[Value.ref (rS P 5)] below meth c P D Q 14 (nW P) False (cw P N F T K A w) 91 644 38 [(3, .int (nI (i + 1))), (2, .ref (rA P 0)), (1, .ref (rX P)), (0, .ref (rS P 5))] []) : V p l e room_1 s m #[Value.ref (rS P 5)] below meth c P D Q 14 (nW P) False (cw P N F T K A w) 91 644 542 [(3, .int (nI i)), (2, .ref (rA P 0)), (1, .ref (rX P)), (0, .ref (rS P 5))] [] := by
  have hT := LI_T hI
  obtain ⟨kr, hkr, er⟩ := ric_ok (N := N)
  refine v_aload_n C 2 dL_law_542 rfl ?_
  refine v_bipush (v := 6) C dL_law_543 rfl ?_
  refine go_I (run_V C (c_X3_count_6 hT (by omega)) k_167 k_1 k_164 k_165 k_166 dd_X3_count ⟨Nat.le_of_ble_eq_true rfl, Nat.le_of_ble_eq_true rfl⟩ rcX rfl (Nat.le_of_ble_eq_true rfl) dL_law_545 ⟨Nat.le_of_ble_eq_true rfl, Nat.le_of_ble_eq_true rfl⟩) ?_
  refine v_aload_n C 2 dL_law_548 rfl ?_
  refine v_iconst (v := nI 0) C dL_law_549 rfl ?_
  refine v_iconst (v := 3) C dL_law_550 rfl ?_
  refine go_I (run_V C (t_fogger_3 (k := 0) hT (by omega) (by omega)) k_154 k_1 k_151 k_152 k_153 dd_X3_fogger ⟨Nat.le_of_ble_eq_true rfl, Nat.le_of_ble_eq_true rfl⟩ rcX rfl (Nat.le_of_ble_eq_true rfl) dL_law_551 ⟨Nat.le_of_ble_eq_true rfl, Nat.le_of_ble_eq_true rfl⟩) ?_
  refine v_aload_n C 2 dL_law_554 rfl ?_
  refine v_iconst (v := nI 1) C dL_law_555 rfl ?_
  refine v_iconst (v := 3) C dL_law_556 rfl ?_
  refine go_I (run_V C (t_fogger_3 (k := 1) hT (by omega) (by omega)) k_154 k_1 k_151 k_152 k_153 dd_X3_fogger ⟨Nat.le_of_ble_eq_true rfl, Nat.le_of_ble_eq_true rfl⟩ rcX rfl (Nat.le_of_ble_eq_true rfl) dL_law_557 ⟨Nat.le_of_ble_eq_true rfl, Nat.le_of_ble_eq_true rfl⟩) ?_
  refine v_iadd C dL_law_560 ?_
  refine v_aload_n C 2 dL_law_561 rfl ?_
  refine v_iconst (v := nI 2) C dL_law_562 rfl ?_
  refine v_iconst (v := 3) C dL_law_563 rfl ?_
  refine go_I (run_V C (t_fogger_3 (k := 2) hT (by omega) (by omega)) k_154 k_1 k_151 k_152 k_153 dd_X3_fogger ⟨Nat.le_of_ble_eq_true rfl, Nat.le_of_ble_eq_true rfl⟩ rcX rfl (Nat.le_of_ble_eq_true rfl) dL_law_564 ⟨Nat.le_of_ble_eq_true rfl, Nat.le_of_ble_eq_true rfl⟩) ?_
  refine v_iadd C dL_law_567 ?_
  refine v_aload_n C 2 dL_law_568 rfl ?_
  refine v_iconst (v := nI 3) C dL_law_569 rfl ?_
  refine v_iconst (v := 3) C dL_law_570 rfl ?_
  refine go_I (run_V C (t_fogger_3 (k := 3) hT (by omega) (by omega)) k_154 k_1 k_151 k_152 k_153 dd_X3_fogger ⟨Nat.le_of_ble_eq_true rfl, Nat.le_of_ble_eq_true rfl⟩ rcX rfl (Nat.le_of_ble_eq_true rfl) dL_law_571 ⟨Nat.le_of_ble_eq_true rfl, Nat.le_of_ble_eq_true rfl⟩) ?_
  refine v_iadd C dL_law_574 ?_
  refine v_icmp_ne (tgt := 585) C dL_law_575 (by decide) (fun h9 => absurd (show boughtF F (4 * 0) = _ from bought_eq.symm) h9) (fun _ => ?_)
  refine v_aload_n C 2 dL_law_578 rfl ?_
  refine go_I (run_V C (c_X3_richest hT (by omega)) k_282 k_1 k_279 k_280 k_281 dd_X3_richest ⟨Nat.le_of_ble_eq_true rfl, Nat.le_of_ble_eq_true rfl⟩ rcX rfl (Nat.le_of_ble_eq_true rfl) dL_law_579 ⟨Nat.le_of_ble_eq_true rfl, Nat.le_of_ble_eq_true rfl⟩) ?_
  refine v_if_ge (tgt := 587) C dL_law_582 (by decide) (fun _ => ?_) (fun h9 => absurd (by rw [er]; exact nI_pos' (by omega)) h9)
  refine v_iinc (b := nI (i + 1)) (lv' := [(3, .int (nI (i + 1))), (2, .ref (rA P 0)), (1, .ref (rX P)), (0, .ref (rS P 5))]) C 0 dL_law_587 rfl (nI_1 _) (by decide) rfl ?_
  refine v_goto (tgt := 38) C dL_law_590 (by decide) ?_
  exact kk
set_option maxHeartbeats 4000000 in
theorem law_loop (C : Cx p l s m #[Value.ref (rS P 5)] meth c P D code 14 ret RL) (hfl : P.2.2.2.2.1 = true) (hend : ∀ (N F T A : Nat → Nat → Int32), V p l e room_1 s m #[Value.ref (rS P 5)] below meth c P D Q 14 (nW P) False (cw P N F T K A w) 91 644 593 [(3, .int (nI 14)), (2, .ref (rA P 0)), (1, .ref (rX P)), (0, .ref (rS P 5))] []) : ∀ (n i : Nat) (N F T A : Nat → Nat → Int32), i + n = 14 → LI N F T A i → V p l e room_1 s m #[Value.ref (rS P 5)] below meth c P D Q 14 (nW P) False (cw P N F T K A w) 91 644 38 [(3, .int (nI i)), (2, .ref (rA P 0)), (1, .ref (rX P)), (0, .ref (rS P 5))] [] := by
  intro n
  induction n with
  | zero =>
    intro i N F T A hi hI
    obtain rfl : i = 14 := by omega
    refine v_iload_n C 0 dL_law_38 rfl ?_
    refine v_bipush (v := nI 14) C dL_law_39 rfl ?_
    refine v_icmp_ge (tgt := 593) C dL_law_41 (by decide) (fun _ => ?_) (fun h9 => absurd (Int32.le_refl _) h9)
    exact hend N F T A
  | succ n ih =>
    intro i N F T A hi hI
    refine v_iload_n C 0 dL_law_38 rfl ?_
    refine v_bipush (v := nI 14) C dL_law_39 rfl ?_
    refine v_icmp_ge (tgt := 593) C dL_law_41 (by decide) (fun h9 => absurd h9 (nI_ge (show i < 14 by omega) (by omega))) (fun _ => ?_)
    refine law_A C hfl hI (by omega) (fun N F T x of sn hI hof hsn => ?_)
    refine law_B C hfl hI (by omega) hof hsn (fun N F T A hI => ?_)
    refine v_iconst (v := nI 0) C dL_law_289 rfl ?_
    refine v_istore (lv' := [(11, .int (nI 0)), (3, .int (nI i)), (2, .ref (rA P 0)), (1, .ref (rX P)), (0, .ref (rS P 5))]) C dL_law_290 (by decide) rfl ?_
    refine law_C C hfl hI (by omega) ?_ 3 0 (by omega)
    refine v_iconst (v := nI 0) C dL_law_505 rfl ?_
    refine v_istore (lv' := [(11, .int (nI 0)), (3, .int (nI i)), (2, .ref (rA P 0)), (1, .ref (rX P)), (0, .ref (rS P 5))]) C dL_law_506 (by decide) rfl ?_
    refine law_D C hfl hI (by omega) ?_ 4 0 (by omega)
    refine law_E C hfl hI (by omega) ?_
    exact ih (i + 1) N F T A (by omega) hI
end LawBlocks
end
section
/-! WHAT HOLDS AT THE LAW'S ENTRY: classes, arrays, statics, links; the script -/
theorem ltw1 {w : Cond} (i : Nat) (h : tables_1_1[i]? = some w) : w ∈ lw_tbl := List.mem_append_right _ (List.mem_append_left _ (List.mem_of_getElem? h))
theorem ltw2 {w : Cond} (i : Nat) (h : tables_1_2[i]? = some w) : w ∈ lw_tbl := List.mem_append_right _ (List.mem_append_right _ (List.mem_of_getElem? h))
theorem nwF_in : ∀ q ∈ nwF, Cond.fieldLinkNest q.1 q.2.1 q.2.2.1 q.2.2.2.1 q.2.2.2.2 RX3 ∈ lw_tbl := by
  intro q hq
  unfold nwF at hq
  rcases List.mem_cons.mp hq with rfl | hq
  · exact (ltw2 84 (by decide +kernel))
  rcases List.mem_cons.mp hq with rfl | hq
  · exact (ltw2 86 (by decide +kernel))
  rcases List.mem_cons.mp hq with rfl | hq
  · exact (ltw1 221 (by decide +kernel))
  rcases List.mem_cons.mp hq with rfl | hq
  · exact (ltw2 88 (by decide +kernel))
  rcases List.mem_cons.mp hq with rfl | hq
  · exact (ltw1 221 (by decide +kernel))
  rcases List.mem_cons.mp hq with rfl | hq
  · exact (ltw2 92 (by decide +kernel))
  rcases List.mem_cons.mp hq with rfl | hq
  · exact (ltw2 94 (by decide +kernel))
  rcases List.mem_cons.mp hq with rfl | hq
  · exact (ltw2 95 (by decide +kernel))
  rcases List.mem_cons.mp hq with rfl | hq
  · exact (ltw2 96 (by decide +kernel))
  rcases List.mem_cons.mp hq with rfl | hq
  · exact (ltw2 98 (by decide +kernel))
  rcases List.mem_cons.mp hq with rfl | hq
  · exact (ltw2 103 (by decide +kernel))
  rcases List.mem_cons.mp hq with rfl | hq
  · exact (ltw2 105 (by decide +kernel))
  rcases List.mem_cons.mp hq with rfl | hq
  · exact (ltw2 106 (by decide +kernel))
  rcases List.mem_cons.mp hq with rfl | hq
  · exact (ltw2 144 (by decide +kernel))
  rcases List.mem_cons.mp hq with rfl | hq
  · exact (ltw2 145 (by decide +kernel))
  rcases List.mem_cons.mp hq with rfl | hq
  · exact (ltw2 147 (by decide +kernel))
  rcases List.mem_cons.mp hq with rfl | hq
  · exact (ltw2 149 (by decide +kernel))
  rcases List.mem_cons.mp hq with rfl | hq
  · exact (ltw2 151 (by decide +kernel))
  rcases List.mem_cons.mp hq with rfl | hq
  · exact (ltw2 153 (by decide +kernel))
  rcases List.mem_cons.mp hq with rfl | hq
  · exact (ltw2 170 (by decide +kernel))
  rcases List.mem_cons.mp hq with rfl | hq
  · exact (ltw2 172 (by decide +kernel))
  rcases List.mem_cons.mp hq with rfl | hq
  · exact (ltw2 174 (by decide +kernel))
  rcases List.mem_cons.mp hq with rfl | hq
  · exact (ltw1 221 (by decide +kernel))
  rcases List.mem_cons.mp hq with rfl | hq
  · exact (ltw1 236 (by decide +kernel))
  exact absurd hq List.not_mem_nil
theorem nwM_in : ∀ q ∈ nwM, Cond.methodLinkNest q.1 q.2.1 q.2.2 RX3 ∈ lw_tbl := by
  intro q hq
  unfold nwM at hq
  rcases List.mem_cons.mp hq with rfl | hq
  · exact (ltw2 72 (by decide +kernel))
  rcases List.mem_cons.mp hq with rfl | hq
  · exact (ltw2 78 (by decide +kernel))
  rcases List.mem_cons.mp hq with rfl | hq
  · exact (ltw2 139 (by decide +kernel))
  rcases List.mem_cons.mp hq with rfl | hq
  · exact (ltw2 185 (by decide +kernel))
  rcases List.mem_cons.mp hq with rfl | hq
  · exact (ltw1 168 (by decide +kernel))
  rcases List.mem_cons.mp hq with rfl | hq
  · exact (ltw1 180 (by decide +kernel))
  rcases List.mem_cons.mp hq with rfl | hq
  · exact (ltw2 49 (by decide +kernel))
  rcases List.mem_cons.mp hq with rfl | hq
  · exact (ltw1 155 (by decide +kernel))
  rcases List.mem_cons.mp hq with rfl | hq
  · exact (ltw2 201 (by decide +kernel))
  rcases List.mem_cons.mp hq with rfl | hq
  · exact (ltw1 138 (by decide +kernel))
  rcases List.mem_cons.mp hq with rfl | hq
  · exact (ltw1 191 (by decide +kernel))
  rcases List.mem_cons.mp hq with rfl | hq
  · exact (ltw1 199 (by decide +kernel))
  rcases List.mem_cons.mp hq with rfl | hq
  · exact (ltw1 231 (by decide +kernel))
  rcases List.mem_cons.mp hq with rfl | hq
  · exact (ltw1 238 (by decide +kernel))
  rcases List.mem_cons.mp hq with rfl | hq
  · exact (ltw2 3 (by decide +kernel))
  rcases List.mem_cons.mp hq with rfl | hq
  · exact (ltw2 11 (by decide +kernel))
  rcases List.mem_cons.mp hq with rfl | hq
  · exact (ltw2 15 (by decide +kernel))
  rcases List.mem_cons.mp hq with rfl | hq
  · exact (ltw2 25 (by decide +kernel))
  rcases List.mem_cons.mp hq with rfl | hq
  · exact (ltw2 29 (by decide +kernel))
  rcases List.mem_cons.mp hq with rfl | hq
  · exact (ltw2 30 (by decide +kernel))
  exact absurd hq List.not_mem_nil
theorem stQ_in : ∀ (b : Nat) (q : String × String × (Nat → Int32)), stQ[b]? = some q → b < 3 ∧ Cond.laysStatic q.1 q.2.1 "[I" ∈ lw_tbl ∧ Cond.initialized q.1 ∈ lw_tbl ∧ Cond.arrayOf (.static q.1 q.2.1 "[I") .int ∈ flatC (Jvm.Cond.and given_1 narrow_1) ∧ Cond.eq (.length (.static q.1 q.2.1 "[I")) (.int 4) ∈ flatC (Jvm.Cond.and given_1 narrow_1) ∧ ∀ j : Nat, j < 4 → Cond.eq (.elem (.static q.1 q.2.1 "[I") (.int (Int32.ofNat j))) (.int (q.2.2 j)) ∈ flatC (Jvm.Cond.and given_1 narrow_1)
  | 0, _, rfl => ⟨by omega, (ltw1 222 (by decide +kernel)), (ltw1 1 (by decide +kernel)), by decide +kernel, by decide +kernel, fun j hj => by rcases (show j = 0 ∨ j = 1 ∨ j = 2 ∨ j = 3 by omega) with rfl | rfl | rfl | rfl <;> decide +kernel⟩
  | 1, _, rfl => ⟨by omega, (ltw1 237 (by decide +kernel)), (ltw1 1 (by decide +kernel)), by decide +kernel, by decide +kernel, fun j hj => by rcases (show j = 0 ∨ j = 1 ∨ j = 2 ∨ j = 3 by omega) with rfl | rfl | rfl | rfl <;> decide +kernel⟩
  | 2, _, rfl => ⟨by omega, (ltw2 206 (by decide +kernel)), (ltw1 0 (by decide +kernel)), by decide +kernel, by decide +kernel, fun j hj => by rcases (show j = 0 ∨ j = 1 ∨ j = 2 ∨ j = 3 by omega) with rfl | rfl | rfl | rfl <;> decide +kernel⟩
theorem arr_of {args : Array Value} {s : State} {ty : FieldType} (hty : ∀ C, ty ≠ .object C) (h : (Cond.arrayClass ty).before args s = true) : ∃ cA : ClassId, ArrOfT s cA ty ∧ va_RA s cA ty := by
  obtain ⟨cA, kA, comp, h1, h2, h3⟩ := Cond.arrayClass_spec h
  refine ⟨cA, fun n z => ⟨fun k h => (by cases h), kA, h2, comp, h3⟩, ?_⟩
  cases ty with
  | object C => exact absurd rfl (hty C)
  | _ => exact h1
theorem arr_ob {args : Array Value} {s : State} {C : String} (h : (Cond.arrayOver (.object C)).before args s = true) : ∃ cA : ClassId, ArrOfT s cA (.object C) ∧ va_RA s cA (.object C) := by
  obtain ⟨comp, cA, kA, h1, h2, h3, h4, h5⟩ := Cond.arrayOver_spec h
  exact ⟨cA, fun n z => ⟨fun k h => (by cases h), kA, h3, comp, h4⟩, kA, comp, h3, h4, h1, h5⟩
end
section
/-! THE CLAIM OUT OF ONE WALK OF THE LAW'S BODY. Your part is whole_start (and what it stands on); all else here is the same for every law, but numbers. -/
def R_law : String := "NailRodsLaw"
def lw_P (b : Addr) (xs : List Int32) (args : Array Value) (s : State) : Prop := args = #[.ref b] ∧ s.IntsAt b xs ∧ xs.length ≤ 260 ∧ (Jvm.Cond.and given_1 narrow_1).before args s = true
def lw_Q (_ : Array Value) (s : State) (o : Outcome) (t : State) : Prop := o = .returned (some (.int 1)) ∧ Framed s o t [] 622296 7234580
def lw_Z (below : List Frame) (a : Array Value) (s : State) : State → Prop := fun t => ∃ o, t.status = .running ∧ Ended t below o ∧ lw_Q a s o t
/-- the law's own end, with 1 on the stack, nothing written that was there before, its room as the claim has it -/
theorem lw_ret {p : Program} {l : Launch} {e : Env} {s : State} {m : MethodId} {below : List Frame} {meth : Method} {c : Code} {b : Nat} (hx : p.tables.exec = Jvm.exec) (hb : c.code = code) (hr : meth.sig.returnType = ret) (hlocks : meth.locks = false) {pc : Nat} {H : Heap} {ls : Array Slot} (hdg : decode code pc = .ok (.ireturn, 1)) : W p l e room_1 s m #[Value.ref b] below meth c H [] 622296 7234580 (lw_Z below #[Value.ref b] s) (F0 m pc ls [.int 1]) := by
  intro T hT X
  obtain ⟨fs, hret, hrun, hended, hW, hframe⟩ := X.leave (v := some (.int 1)) (hlocks := hlocks) (fun h => by rw [hr] at h; cases h)
  have hmeth' : T.vm.method? m = some meth := X.method'
  refine ⟨T.setFrames fs, ?_, .returned (some (.int 1)), hrun, hended, rfl, ⟨_, rfl⟩, hW, hframe⟩
  jvm_step X.here [X.here.top, hx, hb, hdg, hmeth', hr, ret, narrow_b1]
  (try refine ⟨rfl, ?_⟩); (try refine ⟨rfl, ?_⟩)
  first | (intro acts; rw [hret _ acts rfl rfl rfl]) | rw [hret _ _ rfl rfl rfl]
  exact Steps.refl _
/-- what holds at the law's entry: the machine, the code, the tables' words (any of lw_tbl by 'hts w (by decide +kernel)'), the script of L ints xs at the cell b, what the Statement gives of the start (any of its parts by flat_of_before) -/
def lw_At (p : Program) (s : State) (m : MethodId) (meth : Method) (c : Code) (b L : Nat) (xs : Nat → Int32) : Prop :=
  p.tables.exec = Jvm.exec ∧ c.code = code ∧ meth.sig.returnType = ret ∧ c.maxLocals = 14 ∧ s.vm.findClass R_law = some m.cls ∧ (∀ w ∈ lw_tbl, w.before #[Value.ref b] s = true) ∧ va_X b L xs s s.heap ∧ b < s.heap.size ∧ meth.locks = false ∧ (Jvm.Cond.and given_1 narrow_1).before #[Value.ref b] s = true
theorem v_end {p : Program} {l : Launch} {e : Env} {s : State} {m : MethodId} {below : List Frame} {meth : Method} {c : Code} {P : L5} {D : va_G} {n k z pc b : Nat} {x : Prop} {f : Nat → va_E} {lv : List (Nat × Value)} (C : Cx p l s m #[Value.ref b] meth c P D code 14 ret RL) (hsz : s.heap.size ≤ P.1) (hk : k ≤ 622296) (hz : z ≤ 7234580) (hdg : decode code pc = .ok (.ireturn, 1)) : V p l e room_1 s m #[Value.ref b] below meth c P D (lw_Z below #[Value.ref b] s) 14 n x f k z pc lv [.int 1] := by
  intro H locs ls hP hz9 hS hl
  refine va_forget (fun q hq => Nat.le_trans hsz (hS.2.2 q hq)) ?_
  refine W.widen hk hz ?_
  exact lw_ret C.1 C.2.1 C.2.2.2.2.2.1 C.2.2.2.2.2.2.1 hdg
end
section
/-! THE LAW, from its entry -/
theorem law_known {p : Program} {s : State} {m : MethodId} {meth : Method} {c : Code} {b L : Nat} {xs : Nat → Int32} (hL : L ≤ 260) (C0 : lw_At p s m meth c b L xs) : ∃ (P : L5) (D : va_G), P.1 = s.heap.size ∧ P.2.2.2.2.1 = false ∧ rS P 5 = b ∧ va_K D vwCl (tyP P) s ∧ ST P s := by
  obtain ⟨-, -, -, -, -, hts, hX, hbl, -, hgv⟩ := C0
  have hs := flat_of_before _ hgv
  have hg : ∀ w ∈ gtb, w.before #[Value.ref b] s = true := gtb_hts hts
  obtain ⟨c0, i0, hK0⟩ := u_known (C := RX0) (T := TX0) (N := 6) (n := 6) hg inX0g (hg _ k_234)
  obtain ⟨c1, i1, hK1⟩ := u_known (C := RX1) (T := TX1) (N := 14) (n := 14) hg inX1g (hg _ k_141)
  obtain ⟨c2, i2, hK2⟩ := u_known (C := RX2) (T := TX2) (N := 4) (n := 4) hg inX2g (hg _ k_158)
  obtain ⟨c3, i3, hK3⟩ := u_known (C := RX3) (T := TX3) (N := 3) (n := 3) hg inX3g (hg _ k_19)
  obtain ⟨aI, hI1, hI2⟩ := arr_of (fun C h => by cases h) (hg _ k_376)
  have oN : (Cond.arrayOver (.object RX1)).before #[Value.ref b] s = true := hts _ (ltw2 77 (by decide +kernel))
  have oF : (Cond.arrayOver (.object RX0)).before #[Value.ref b] s = true := hts _ (ltw2 138 (by decide +kernel))
  obtain ⟨aN, hN1, hN2⟩ := arr_ob oN
  obtain ⟨aF, hF1, hF2⟩ := arr_ob oF
  have hA : ∀ a : Nat, a < s.heap.size → ¬ (fun a => s.heap.size ≤ a) a := fun a h => Nat.not_le.mpr h
  have hst : ∀ b9 : Nat, ∃ t : Nat, ∀ q, stQ[b9]? = some q → va_Z q.1 q.2.1 "[I" (.ref t) (fun a => s.heap.size ≤ a) s s.heap ∧ va_T .int t 4 (fun j => .int (q.2.2 j)) (fun a => s.heap.size ≤ a) s s.heap := by
    intro b9
    cases hq : stQ[b9]? with
    | none => exact ⟨0, fun q h => by cases h⟩
    | some q =>
      obtain ⟨-, h1, h2, h3, h4, h5⟩ := stQ_in b9 q hq
      obtain ⟨t, ht, hT⟩ := va_Tof (f := fun j => .int (q.2.2 j)) (A := fun a => s.heap.size ≤ a) (N := 4) (by decide) (hs _ h3) (va_eqt (hs _ h4)) (fun j hj => va_eqt (hs _ (h5 j hj))) hA
      refine ⟨t, fun q' h' => ?_⟩
      cases h'
      exact ⟨va_Zof (hts _ h1) (hts _ h2) ht hA, hT⟩
  obtain ⟨S, hS⟩ := Classical.axiomOfChoice hst
  refine ⟨(s.heap.size, aI, aN, aF, false, fun j => if j = 5 then b else if j = 6 then L else S j), (fun k => match k with | 0 => c0 | 1 => c1 | 2 => c2 | _ => c3, fun k => match k with | 0 => i0 | 1 => i1 | 2 => i2 | _ => i3), rfl, rfl, rfl, ⟨fun k q hq => ?_, fun k q hq => ?_⟩, ?_⟩
  · match k, hq with
    | 0, hq => cases hq; exact hK0
    | 1, hq => cases hq; exact hK1
    | 2, hq => cases hq; exact hK2
    | 3, hq => cases hq; exact hK3
    | k + 4, hq => simp at hq
  · match k, hq with
    | 0, hq => cases hq; exact ⟨hI1, hI2⟩
    | 1, hq => cases hq; exact ⟨hN1, hN2⟩
    | 2, hq => cases hq; exact ⟨hF1, hF2⟩
    | k + 3, hq => simp [tyP] at hq
  · refine ⟨fun b9 q hq => ?_, ⟨xs, hX⟩, ⟨hL, hbl⟩, fun q hq => va_Nw.of rfl (hts _ (nwF_in q hq)), fun q hq => va_Nw.of rfl (hts _ (nwM_in q hq)), ⟨va_AO.of oN, va_AO.of oF⟩, trivial⟩
    have hb := (stQ_in b9 q hq).1
    have e : (if b9 = 5 then b else if b9 = 6 then L else S b9) = S b9 := by rw [if_neg (by omega), if_neg (by omega)]
    show va_Z q.1 q.2.1 "[I" (.ref (if b9 = 5 then b else if b9 = 6 then L else S b9)) (fun a => s.heap.size ≤ a) s s.heap ∧ va_T .int (if b9 = 5 then b else if b9 = 6 then L else S b9) 4 (fun j => .int (q.2.2 j)) (fun a => s.heap.size ≤ a) s s.heap
    rw [e]
    exact hS b9 q hq
section LawPre
variable {p : Program} {l : Launch} {e : Env} {s : State} {m : MethodId} {below : List Frame} {meth : Method} {c : Code} {P : L5} {D : va_G} {Q : State → Prop} {N F T : Nat → Nat → Int32} {K : Nat → Int32} {A : Nat → Nat → Int32} {w : Int64} {i : Nat}
set_option maxHeartbeats 4000000 in
theorem law_pre (C : Cx p l s m #[Value.ref (rS P 5)] meth c P D code 14 ret RL) (hfl : P.2.2.2.2.1 = true) (hM : MkI N F T) (hend : ∀ (N F T A : Nat → Nat → Int32), V p l e room_1 s m #[Value.ref (rS P 5)] below meth c P D Q 14 (nW P) False (cw P N F T K A w) 91 644 593 [(3, .int (nI 14)), (2, .ref (rA P 0)), (1, .ref (rX P)), (0, .ref (rS P 5))] []) : V p l e room_1 s m #[Value.ref (rS P 5)] below meth c P D Q 14 (nW P) False (cw P N F T K A w) 91 644 8 [(1, .ref (rX P)), (0, .ref (rS P 5))] [.ref (rA P 0)] := by
  refine v_dup C dL_law_8 rfl ?_
  refine v_iconst (v := nI 0) C dL_law_9 rfl ?_
  refine v_aload_n C 0 dL_law_10 rfl ?_
  refine v_iconst (v := nI 0) C dL_law_11 rfl ?_
  refine v_iconst (v := 3) C dL_law_12 rfl ?_
  refine go_I (run_V C (t_told_3 (k := 0) hM.1.1 (by omega) (by omega)) k_137 k_1 k_134 k_135 k_136 dd_X3_told ⟨Nat.le_of_ble_eq_true rfl, Nat.le_of_ble_eq_true rfl⟩ rcX rfl (Nat.le_of_ble_eq_true rfl) dL_law_13 ⟨Nat.le_of_ble_eq_true rfl, Nat.le_of_ble_eq_true rfl⟩) ?_
  refine v_stE C hfl 0 rfl (by omega) dL_law_16 ?_
  refine v_dup C dL_law_17 rfl ?_
  refine v_iconst (v := nI 1) C dL_law_18 rfl ?_
  refine v_aload_n C 0 dL_law_19 rfl ?_
  refine v_iconst (v := nI 1) C dL_law_20 rfl ?_
  refine v_iconst (v := 3) C dL_law_21 rfl ?_
  refine go_I (run_V C (t_told_3 (k := 1) hM.1.1 (by omega) (by omega)) k_137 k_1 k_134 k_135 k_136 dd_X3_told ⟨Nat.le_of_ble_eq_true rfl, Nat.le_of_ble_eq_true rfl⟩ rcX rfl (Nat.le_of_ble_eq_true rfl) dL_law_22 ⟨Nat.le_of_ble_eq_true rfl, Nat.le_of_ble_eq_true rfl⟩) ?_
  refine v_stE C hfl 1 rfl (by omega) dL_law_25 ?_
  refine v_dup C dL_law_26 rfl ?_
  refine v_iconst (v := nI 2) C dL_law_27 rfl ?_
  refine v_aload_n C 0 dL_law_28 rfl ?_
  refine v_iconst (v := nI 2) C dL_law_29 rfl ?_
  refine v_iconst (v := 3) C dL_law_30 rfl ?_
  refine go_I (run_V C (t_told_3 (k := 2) hM.1.1 (by omega) (by omega)) k_137 k_1 k_134 k_135 k_136 dd_X3_told ⟨Nat.le_of_ble_eq_true rfl, Nat.le_of_ble_eq_true rfl⟩ rcX rfl (Nat.le_of_ble_eq_true rfl) dL_law_31 ⟨Nat.le_of_ble_eq_true rfl, Nat.le_of_ble_eq_true rfl⟩) ?_
  refine v_stE C hfl 2 rfl (by omega) dL_law_34 ?_
  refine v_astore_n (lv' := [(2, .ref (rA P 0)), (1, .ref (rX P)), (0, .ref (rS P 5))]) C dL_law_35 rfl (by decide) rfl ?_
  refine v_iconst (v := nI 0) C dL_law_36 rfl ?_
  refine v_istore_n (lv' := [(3, .int (nI 0)), (2, .ref (rA P 0)), (1, .ref (rX P)), (0, .ref (rS P 5))]) C dL_law_37 rfl (by decide) rfl ?_
  refine law_loop C hfl hend 14 0 N F T _ (by omega) (MkI_LI hM ?_ ?_ ?_)
  · rw [va_up_self, upd_ge (by omega), va_up_self, upd_ge (by omega), va_up_self, upd_at]
  · rw [va_up_self, upd_ge (by omega), va_up_self, upd_at]
  · rw [va_up_self, upd_at]
end LawPre
set_option maxHeartbeats 4000000 in
/-- from the entry, for every script of at most 260 ints, the law comes to its end with true -/
theorem whole_start {p : Program} {e : Env} {s : State} {m : MethodId} {below : List Frame} {meth : Method} {c : Code} (l : Launch) (hflags : l.flags = flags0) {b L : Nat} {xs : Nat → Int32} (hL : L ≤ 260) (C0 : lw_At p s m meth c b L xs) : W p l e room_1 s m #[Value.ref b] below meth c s.heap [] 0 0 (lw_Z below #[Value.ref b] s) (entryFrame m ([Value.ref b] : List Value).toArray 14) := by
  obtain ⟨P, D, hP1, hfl, hb5, hK, hST⟩ := law_known hL C0
  subst hb5
  obtain ⟨hx, hb, hr, hml, hown, hts, hX, hbl, hlocks, -⟩ := id C0
  have C : Cx p l s m #[Value.ref (rS P 5)] meth c P D code 14 ret RL := ⟨hx, hb, hml, hown, gtb_hts hts, hr, hlocks, hK, by rw [hP1]; exact Nat.le_refl _, hST⟩
  have hl := lv_entry ([.ref (rS P 5)]) (n := 14) (Nat.le_of_ble_eq_true rfl)
  rw [lg_entry_eq]
  generalize (lg_sl ([.ref (rS P 5)]) ++ List.replicate (14 - (lg_sl ([.ref (rS P 5)])).length) Slot.unset).toArray = ls at hl ⊢
  have hl : lv_has ls 14 [(0, .ref (rS P 5))] := hl
  have J : V p l e room_1 s m #[Value.ref (rS P 5)] below meth c P D (lw_Z below #[Value.ref (rS P 5)] s) 14 0 True (cwF0 P (fun _ => 0) (fun _ _ => 0) 0) 0 0 0 [(0, .ref (rS P 5))] [] := by
    refine v_aload_n C 0 dL_law_0 rfl ?_
    refine go_M (run_S C (c_L_makers (K := fun _ => 0) (A := fun _ _ => 0) (w := 0) hfl) k_305 k_0 k_303 k_304 dd_L_makers ⟨Nat.le_of_ble_eq_true rfl, Nat.le_of_ble_eq_true rfl⟩ rfl (Nat.le_of_ble_eq_true rfl) dL_law_1 ⟨Nat.le_of_ble_eq_true rfl, Nat.le_of_ble_eq_true rfl⟩) (fun N F T hM => ?_)
    refine v_astore_n (lv' := [(1, .ref (rX P)), (0, .ref (rS P 5))]) C dL_law_4 rfl (by decide) rfl ?_
    refine c_n (nW_f hfl) ?_
    refine v_size hP1.symm rfl (by omega) ?_
    refine v_iconst (v := 3) C dL_law_5 rfl ?_
    refine c_newa (n := 90) (atype := .int) (ty := .int) (t0 := 0) (a0 := (3, .inl (fun _ => 0))) (N' := 3) C k_376 rfl rfl (fun h => h) (fun _ => rfl) (by decide) (by decide) (by decide) (Nat.le_of_ble_eq_true rfl) (Nat.le_of_ble_eq_true rfl) dL_law_6 ?_
    refine c_cong (f' := cw P N F T (fun _ => 0) (fun _ _ => 0) 0) (fun a ha => ?_) (v_open ?_)
    · by_cases h9 : a = 90
      · subst h9
        rw [va_up_self]
        rfl
      · rw [va_up_ne _ _ h9]
    · refine v_flag (b := true) ?_
      refine c_n (n' := nW (setF P true)) rfl ?_
      refine v_eq (f' := cw (setF P true) N F T (fun _ => 0) (fun _ _ => 0) 0) rfl ?_
      have z := law_pre (P := setF P true) (e := e) (below := below) (Q := lw_Z below #[Value.ref (rS P 5)] s) (K := fun _ => 0) (w := 0) (A := fun _ _ => 0) (Cx.flag C) rfl hM (fun N F T A => v_iconst (v := 1) (Cx.flag C) dL_law_593 rfl (v_end (Cx.flag C) (by show s.heap.size ≤ P.1; rw [hP1]; exact Nat.le_refl _) (Nat.le_of_ble_eq_true rfl) (Nat.le_of_ble_eq_true rfl) dL_law_594))
      exact z
  exact J s.heap [] ls (fun k q hq => by simp [wl] at hq) (fun _ => hP1.symm) va_S.rf hl
end
section
set_option maxHeartbeats 4000000 in
theorem lw_walk (l : Launch) (hflags : l.flags = flags0) (b : Addr) (xs : List Int32) : MetFree l x (headSpec (Jvm.Cond.code x code maxLocals ret :: tables_1) room_1) (lw_P b xs) (fun _ _ _ _ _ => True) lw_Q := by
  refine MetFree.of_bodyS (code := code) (maxLocals := maxLocals) (ret := ret) (by decide) ?_ ?_
  · intro args s m h hn
    obtain ⟨meth, c, h1, h2, h3, h4, h5, h6, -, -⟩ := Cond.code_spec hn (atoms_spec (ws := Jvm.Cond.code x code maxLocals ret :: tables_1) h _ List.mem_cons_self)
    exact ⟨meth, c, h1, h2, h3, h4, h5, h6⟩
  · intro p e s m args below meth c s₁ B hml0 hP _
    obtain ⟨rfl, hx, hbd, hgv⟩ := hP
    obtain ⟨scr, harrAt, hlist, hof, hsmall⟩ := hx
    obtain ⟨hcb, hkn, -, -⟩ := State.arrayAt?_spec harrAt
    have hown : s.vm.findClass R_law = some m.cls := findClass_of_methodNamed B.named
    have hts0 : ∀ c ∈ (Jvm.Cond.code x code maxLocals ret :: tables_1), c.before #[Value.ref b] s = true := atoms_spec (ws := Jvm.Cond.code x code maxLocals ret :: tables_1) B.pre
    have hts : ∀ w ∈ lw_tbl, w.before #[Value.ref b] s = true := k2_hts_sels lw_privs (fun w hw => hts0 w (List.mem_cons_of_mem _ hw)) lw_privs_ok
    have hml : c.maxLocals = 14 := B.maxLocals_eq (hts0 _ List.mem_cons_self)
    have X₀ : Stand p l e room_1 s m #[Value.ref b] below meth c s₁ [] 0 0 := Stand.of_body B
    have hh0 : s₁.heap = s.heap := by rw [B.state]; rfl
    have hsz : scr.slots.size = xs.length := by rw [← Array.length_toList, hlist, List.length_map]
    have hval : ∀ j : Nat, j < xs.length → scr.slots[j]? = some (.int (xs.getD j 0)) := fun j hj => by
      rw [← Array.getElem?_toList, hlist]
      simp [hj]
    have hbl : b < s.heap.size := (Array.getElem?_eq_some_iff.mp hcb).1
    have hX : va_X b xs.length (fun j => xs.getD j 0) s s.heap := ⟨scr, hcb, hof, hkn, hsz, hval⟩
    have K : W p l e room_1 s m #[Value.ref b] below meth c s₁.heap [] 0 0 (lw_Z below #[Value.ref b] s) (entryFrame m ([Value.ref b] : List Value).toArray 14) := by
      rw [hh0]
      exact whole_start l hflags hbd ⟨B.exec, B.bytes, B.returns, hml, hown, hts, hX, hbl, B.notSynchronized, hgv⟩
    obtain ⟨t, a1, o, b1, b2, b3⟩ := K s₁ rfl X₀
    exact ⟨t, o, a1, b1, b2, b3⟩
theorem lw_pre_spec {args : Array Value} {s : State} (h : (Jvm.Cond.and given_1 narrow_1).before args s = true) (hr : rest_1_c.before args s = true) : ∃ (b : Addr) (xs : List Int32), lw_P b xs args s := by
  have hs := flat_of_before _ h
  have hq := flat_of_before _ hr
  have hc : (Cond.count 1).before args s = true := hs _ (by decide +kernel)
  have harr : (Cond.arrayOf (.arg 0) .int).before args s = true := hs _ (by decide +kernel)
  have hle : (Cond.le (.length (.arg 0)) (.int 260)).before args s = true := hs _ (by decide +kernel)
  have hlen : (Cond.isInt (.length (.arg 0))).before args s = true := hq _ (by decide +kernel)
  have hall : (Cond.all (.arg 0) (.isInt (.elem (.arg 0) (.index 0)))).before args s = true := hq _ (by decide +kernel)
  obtain ⟨b, xs, hb, hx⟩ := State.ints_of_pre rfl harr hlen hall
  have hsm : xs.length < 2 ^ 31 := hx.choose_spec.2.2.2
  have hev : (Term.length (.arg 0)).eval args s none [] s = some (.int xs.length.toInt32) := hx.length_eval hb
  have hv := Cond.le_ints hev (show (Term.int 260).eval args s none [] s = some (.int 260) from rfl)
  have hd : xs.length.toInt32 ≤ 260 := by
    simpa [Cond.before, Cond.holds, hv] using hle
  have hN : xs.length ≤ 260 := (Int32.ofNat_le_ofNat hsm (by decide)).mp (show Int32.ofNat xs.length ≤ Int32.ofNat 260 from hd)
  exact ⟨b, xs, Cond.one_arg hc (show args[0]? = some (.ref b) from hb), hx, hN, h⟩
theorem lw_comes (l : Launch) (hflags : l.flags = flags0) : Comes l x (Jvm.Cond.code x code maxLocals ret :: tables_1) room_1 (fun tb e args s => Calls_1 tb e args s ∧ rest_1 tb e args s ∧ Pre_1 tb e args s)
    (fun _ _ args s o t => lw_Q args s o t) := by
  intro p e ha hc hk s m args below hf hfit hheap happ hpre
  obtain ⟨b, xs, hP⟩ := lw_pre_spec hpre.2.2 hpre.2.1
  obtain ⟨k, o, h1, h2, h3, hQ⟩ := lw_walk l hflags b xs p e ha hc hk s m args below hf ((Spec.applies_iff_loose hf).mp happ).1 hP trivial
  exact ⟨k, o, h1, h2, h3, hQ⟩
theorem lw_frame {s t : State} {o : Outcome} {args : Array Value} (h : Framed s o t [] 622296 7234580) :
    Framed s o t (fieldLocs frame_1_writes args s ++ arrayLocs frame_1_arrays args s ++ staticLocs frame_1_statics s) 622296 7234580 := h
theorem lw_limb (L : Cond) (hL : ∀ (args : Array Value) (s t : State), L.after args s (.returned (some (.int 1))) t = true) :
    ArmFor flags0 classFile x code maxLocals ret World_1 tables_1 room_1 Calls_1 rest_1 Pre_1
      (fun tb e a s o t => postC L tb e a s o t ∧ Framed s o t (fieldLocs frame_1_writes a s ++ arrayLocs frame_1_arrays a s ++ staticLocs frame_1_statics s) 622296 7234580) := by
  intro l hflags _ _ p e ha hc hk s m args below hf hfit hheap happ hpre
  obtain ⟨k, o, h1, h2, h3, rfl, hF⟩ := lw_comes l hflags p e ha hc hk s m args below hf hfit hheap happ hpre
  exact ⟨k, _, h1, h2, h3, hL args s _, lw_frame hF⟩
theorem i_vc : Claimed_1_1 ∧ Claimed_1_2 := ⟨lw_limb limb_1_1 (fun args s t => by simp [limb_1_1, Cond.after, Cond.holds, Cond.value]), lw_limb limb_1_2 (fun args s t => Cond.after_iff.mpr (by
  first | (rw [show limb_1_2 = Cond.eq .result (.int 1) from rfl, Cond.eq_ints (x := 1) (y := 1) rfl rfl]; simp; done) | (simp [limb_1_2, Cond.value, Term.eval]; done)))⟩
end
